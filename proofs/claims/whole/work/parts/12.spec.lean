theorem s_l : ∀ n, n < 32 → ((nI n &&& 31).toBitVec.smod 32).toNat = n := by decide +kernel
theorem s_u : ∀ n, n < 32 → (((nI n).toUInt32 &&& Int32.toUInt32 31).toBitVec % 32).toNat = n := by decide +kernel
/-! THE WORDS OF THE CONTRACTS: what the small methods answer, in numbers -/
def zLet (u : Int32) : Bool := !decide (u < nI 97) && !decide (nI 122 < u)
def zDig (u : Int32) : Bool := !decide (u < nI 48) && !decide (nI 57 < u)
def zDo (x k : Int32) : Int32 := (x.toUInt32 >>> ((nI 4 * k).toUInt32 &&& Int32.toUInt32 31)).toInt32 &&& nI 15
def zWd (x k d : Int32) : Int32 := x ||| (d <<< ((nI 4 * k) &&& 31))
def zAt (z : Int32) (F : Nat → Int32) (n : Nat) (k : Int32) : Int32 := if 0 ≤ k.toInt ∧ k.toInt < n then F k.toInt.toNat else z
theorem zAt_ix {n : Nat} {k : Int32} (hn : n < 2 ^ 31) (h1 : ¬ k < 0) (h2 : ¬ nI n ≤ k) : ∃ j, j < n ∧ k = nI j := by
  rcases pk_ix k hn with h | h | h
  · exact absurd h h1
  · exact absurd h h2
  · exact h
theorem zAt_in {z : Int32} {F : Nat → Int32} {n j : Nat} {k : Int32} (hn : n < 2 ^ 31) (hj : j < n) (hk : k = nI j) : zAt z F n k = F j := by
  subst hk
  unfold zAt
  rw [nI_toInt (by omega), if_pos (by omega)]
  rfl
theorem zAt_neg {z : Int32} {F : Nat → Int32} {n : Nat} {k : Int32} (h : k < 0) : zAt z F n k = z := by
  unfold zAt
  have h1 : k.toInt < 0 := by simpa using (Int32.lt_iff_toInt_lt.mp h)
  rw [if_neg (by omega)]
theorem zAt_big {z : Int32} {F : Nat → Int32} {n : Nat} {k : Int32} (hn : n < 2 ^ 31) (h : nI n ≤ k) : zAt z F n k = z := by
  unfold zAt
  have h1 : (nI n).toInt ≤ k.toInt := Int32.le_iff_toInt_le.mp h
  rw [nI_toInt hn] at h1
  rw [if_neg (by omega)]
theorem zLet_nI {t : Nat} (h : t < 2 ^ 31) : zLet (nI t) = (decide (97 ≤ t) && decide (t ≤ 122)) := by
  unfold zLet
  have h1 := nI_ltI (a := t) (b := 97) h (by decide)
  have h2 := nI_ltI (a := 122) (b := t) (by decide) h
  rw [Bool.eq_iff_iff]
  simp [h1, h2]
theorem zDig_nI {t : Nat} (h : t < 2 ^ 31) : zDig (nI t) = (decide (48 ≤ t) && decide (t ≤ 57)) := by
  unfold zDig
  have h1 := nI_ltI (a := t) (b := 48) h (by decide)
  have h2 := nI_ltI (a := 57) (b := t) (by decide) h
  rw [Bool.eq_iff_iff]
  simp [h1, h2]
theorem zLet_ix {u : Int32} (h : zLet u = true) : ∃ j, j < 26 ∧ u = nI (97 + j) := by
  unfold zLet at h
  simp only [Bool.and_eq_true, Bool.not_eq_true', decide_eq_false_iff_not] at h
  obtain ⟨h1, h2⟩ := h
  have h3 : ¬ u.toInt < (nI 97).toInt := fun q => h1 (Int32.lt_iff_toInt_lt.mpr q)
  have h4 : ¬ (nI 122).toInt < u.toInt := fun q => h2 (Int32.lt_iff_toInt_lt.mpr q)
  rw [nI_toInt (by decide)] at h3 h4
  obtain ⟨j, hj, rfl⟩ := nI_of (x := u) (fun q => by have := Int32.lt_iff_toInt_lt.mp q; simp at this; omega)
  rw [nI_toInt hj] at h3 h4
  exact ⟨j - 97, by omega, by congr 1; omega⟩
/-- the slot of a byte -/
def zSl (G : Nat → Int32) (u : Int32) : Int32 := if zLet u then G (u.toInt.toNat - 97) else -1
theorem zSl_in {G : Nat → Int32} {u : Int32} {j : Nat} (hj : j < 26) (hu : u = nI (97 + j)) : zSl G u = G j := by
  subst hu
  unfold zSl
  rw [zLet_nI (by omega), if_pos (by simp; omega), nI_toInt (by omega)]
  congr 1
  omega
theorem zSl_out {G : Nat → Int32} {u : Int32} (h : zLet u = false) : zSl G u = -1 := by
  unfold zSl
  rw [h]
  rfl
theorem zSubA {j : Nat} : nI (97 + j) - nI 97 = nI j := by
  rw [pk_sub (by omega)]
  congr 1
  omega
/-- the digit at a place under an answer -/
def zDg (G1 : Nat → Int32) (n : Nat) (G5 : Nat → Int32) (i x : Int32) : Int32 := if zSl G5 (zAt (-1) G1 n i) = -1 then zAt (-1) G1 n i - nI 48 else zDo x (zSl G5 (zAt (-1) G1 n i))
/-! the grammar -/
def zPc (n : Nat) : Nat := ((List.range 32).filter (fun i => n.testBit i)).length
def gSign (w sg sn : Nat) (bh : Bool) : Bool × Nat × Nat × Nat × Bool := (decide ((if sg = 0 then w + 1 else w) ≤ 8) && decide (sg + 1 ≤ 8), (if sg = 0 then w + 1 else w), sg + 1, sn, bh)
def gEnd (w sg sn : Nat) (bh : Bool) : Bool × Nat × Nat × Nat × Bool := (decide (0 < sg), w, 0, sn, bh)
def gStep (B w sg sn : Nat) (bh : Bool) (t : Nat) : Bool × Nat × Nat × Nat × Bool :=
  if 97 ≤ t ∧ t ≤ 122 then (if zPc (sn ||| 2 ^ (t - 97)) ≤ 8 then gSign w sg (sn ||| 2 ^ (t - 97)) bh else (false, w, sg, sn ||| 2 ^ (t - 97), bh))
  else if 48 ≤ t ∧ t ≤ 57 then (if t - 48 < B then gSign w sg sn bh else (false, w, sg, sn, bh))
  else if t = 61 then (if bh then (false, w, sg, sn, bh) else gEnd w sg sn true)
  else if t = 43 ∨ t = 45 then gEnd w sg sn bh
  else (false, w, sg, sn, bh)
/-- from place i on, k bytes to come: -1, or the first byte that may not be there -/
def gRun (B : Nat) (t : Nat → Nat) : Nat → Nat → Nat → Nat → Nat → Bool → Int32
  | 0, i, _, sg, _, bh => if bh && decide (0 < sg) then -1 else nI i
  | k + 1, i, w, sg, sn, bh => if (gStep B w sg sn bh (t i)).1 then gRun B t k (i + 1) (gStep B w sg sn bh (t i)).2.1 (gStep B w sg sn bh (t i)).2.2.1 (gStep B w sg sn bh (t i)).2.2.2.1 (gStep B w sg sn bh (t i)).2.2.2.2 else nI i
/-- the fields of the grammar -/
def gF (f : Nat → Int32) (w sg sn : Nat) (bh : Bool) : Nat → Int32 := upd (upd (upd (upd f 4 (nI w)) 5 (nI sg)) 6 (nI sn)) 7 (zB bh)
theorem gF_ext {f f' : Nat → Int32} {w sg sn : Nat} {bh : Bool} (h4 : f' 4 = nI w) (h5 : f' 5 = nI sg) (h6 : f' 6 = nI sn) (h7 : f' 7 = zB bh) (ho : ∀ j, j ≠ 4 → j ≠ 5 → j ≠ 6 → j ≠ 7 → f' j = f j) : f' = gF f w sg sn bh := by
  funext j
  unfold gF upd
  by_cases e7 : j = 7
  · rw [if_pos e7, e7]; exact h7
  · rw [if_neg e7]
    by_cases e6 : j = 6
    · rw [if_pos e6, e6]; exact h6
    · rw [if_neg e6]
      by_cases e5 : j = 5
      · rw [if_pos e5, e5]; exact h5
      · rw [if_neg e5]
        by_cases e4 : j = 4
        · rw [if_pos e4, e4]; exact h4
        · rw [if_neg e4]; exact ho j e4 e5 e6 e7
theorem gF_o {f : Nat → Int32} {w sg sn : Nat} {bh : Bool} {j : Nat} (h4 : j ≠ 4) (h5 : j ≠ 5) (h6 : j ≠ 6) (h7 : j ≠ 7) : gF f w sg sn bh j = f j := by
  simp [gF, upd, h4, h5, h6, h7]
theorem gF_gF (f : Nat → Int32) (w sg sn : Nat) (bh : Bool) (w' sg' sn' : Nat) (bh' : Bool) : gF (gF f w sg sn bh) w' sg' sn' bh' = gF f w' sg' sn' bh' :=
  gF_ext rfl rfl rfl rfl (fun j h4 h5 h6 h7 => by rw [gF_o h4 h5 h6 h7, gF_o h4 h5 h6 h7])
theorem nI_or (a b : Nat) : nI a ||| nI b = nI (a ||| b) := by
  apply Int32.toBitVec_inj.mp
  simp [nI, BitVec.ofNat_or]
theorem zShl {d : Nat} (h : d < 31) : nI 1 <<< (nI d &&& 31) = nI (2 ^ d) := by
  have h1 := pk_shlN (n := 1) (nI d &&& 31) d (s_l d (by omega)) (by rw [Nat.one_mul]; exact Nat.pow_lt_pow_right (by decide) (by omega))
  rw [Nat.one_mul] at h1
  exact h1
theorem zSeen {sn t : Nat} (h : 97 ≤ t) (h2 : t ≤ 122) : nI sn ||| (nI 1 <<< (nI (t - 97) &&& 31)) = nI (sn ||| 2 ^ (t - 97)) := by
  rw [zShl (by omega), nI_or]
theorem zLet_f {t : Nat} (h : t < 2 ^ 31) (c : zB (zLet (nI t)) = 0) : ¬ (97 ≤ t ∧ t ≤ 122) := by
  rw [zB_eq0, zLet_nI h] at c
  simpa using c
theorem zLet_t {t : Nat} (h : t < 2 ^ 31) (c : ¬ zB (zLet (nI t)) = 0) : 97 ≤ t ∧ t ≤ 122 := by
  have c := zB_n0 c
  rw [zLet_nI h] at c
  simpa using c
theorem zDig_f {t : Nat} (h : t < 2 ^ 31) (c : zB (zDig (nI t)) = 0) : ¬ (48 ≤ t ∧ t ≤ 57) := by
  rw [zB_eq0, zDig_nI h] at c
  simpa using c
theorem zDig_t {t : Nat} (h : t < 2 ^ 31) (c : ¬ zB (zDig (nI t)) = 0) : 48 ≤ t ∧ t ≤ 57 := by
  have c := zB_n0 c
  rw [zDig_nI h] at c
  simpa using c
theorem zPc_le (n : Nat) : zPc n ≤ 32 := by
  unfold zPc
  exact Nat.le_trans (List.length_filter_le _ _) (by simp)
theorem zSnLt {sn t : Nat} (h : sn < 2 ^ 26) (h2 : t ≤ 122) : sn ||| 2 ^ (t - 97) < 2 ^ 26 :=
  Nat.or_lt_two_pow h (Nat.pow_lt_pow_right (by decide) (by omega))
theorem gStep_le (B w sg sn : Nat) (bh : Bool) (t : Nat) {i : Nat} (hw : w ≤ i) (hs : sg ≤ i) (hsn : sn < 2 ^ 26) (ht : t < 256) : (gStep B w sg sn bh t).2.1 ≤ i + 1 ∧ (gStep B w sg sn bh t).2.2.1 ≤ i + 1 ∧ (gStep B w sg sn bh t).2.2.2.1 < 2 ^ 26 := by
  unfold gStep gSign gEnd
  by_cases h1 : 97 ≤ t ∧ t ≤ 122
  · rw [if_pos h1]
    have h2 := zSnLt hsn h1.2
    by_cases h3 : zPc (sn ||| 2 ^ (t - 97)) ≤ 8
    · rw [if_pos h3]
      refine ⟨?_, Nat.add_le_add_right hs 1, h2⟩
      show (if sg = 0 then w + 1 else w) ≤ i + 1
      split <;> omega
    · rw [if_neg h3]
      exact ⟨Nat.le_succ_of_le hw, Nat.le_succ_of_le hs, h2⟩
  · rw [if_neg h1]
    by_cases h2 : 48 ≤ t ∧ t ≤ 57
    · rw [if_pos h2]
      by_cases h3 : t - 48 < B
      · rw [if_pos h3]
        refine ⟨?_, Nat.add_le_add_right hs 1, hsn⟩
        show (if sg = 0 then w + 1 else w) ≤ i + 1
        split <;> omega
      · rw [if_neg h3]
        exact ⟨Nat.le_succ_of_le hw, Nat.le_succ_of_le hs, hsn⟩
    · rw [if_neg h2]
      by_cases h3 : t = 61
      · rw [if_pos h3]
        cases bh
        · exact ⟨Nat.le_succ_of_le hw, Nat.zero_le _, hsn⟩
        · exact ⟨Nat.le_succ_of_le hw, Nat.le_succ_of_le hs, hsn⟩
      · rw [if_neg h3]
        by_cases h4 : t = 43 ∨ t = 45
        · rw [if_pos h4]
          exact ⟨Nat.le_succ_of_le hw, Nat.zero_le _, hsn⟩
        · rw [if_neg h4]
          exact ⟨Nat.le_succ_of_le hw, Nat.le_succ_of_le hs, hsn⟩
/-! what the sums come to -/
def zBh (f : Nat → Int32) (g : Nat → Nat → Int32) (k : Nat) : Bool := decide (f 10 < g 2 k)
def zTk (g : Nat → Nat → Int32) (n k : Nat) : Bool := decide (zAt (-1) (g 1) n (g 2 k - nI 1) = nI 45)
def zHc (tk bh : Nat → Bool) : Nat → Nat → Nat → Bool
  | 0, _, c => decide (c = 1)
  | k + 1, i, c => if tk i then false else zHc tk bh k (i + 1) (if bh i then c + 1 else c)
def zHv (b : Int64) (D : Nat → Int32) : Nat → Nat → Int64 → Int64
  | 0, _, v => v
  | k + 1, i, v => zHv b D k (i + 1) (v * b + (D i).toInt64)
def zSv (bh tk : Nat → Bool) (E : Nat → Int64) (b : Bool) : Nat → Nat → Int64 → Int64
  | 0, _, v => v
  | k + 1, i, v => zSv bh tk E b k (i + 1) (if bh i = b then v + (if tk i then -E i else E i) else v)
def zCv (bh : Nat → Bool) (E : Nat → Int64) : Nat → Nat → Int64 → Int64
  | 0, _, v => v
  | k + 1, i, v => zCv bh E k (i + 1) (if bh i then v else v + E i)
theorem zMax {s e q : Nat} (hs : s ≤ e) (he : e ≤ 80) (hq : q ≤ 9) : (if nI s < nI e - nI q then nI e - nI q else nI s) = nI (max s (e - q)) := by
  by_cases h : q ≤ e
  · rw [pk_sub h]
    by_cases h2 : s < e - q
    · rw [if_pos (nI_lt h2 (by omega)), Nat.max_eq_right (by omega)]
    · rw [if_neg (nI_nlt (by omega) (by omega)), Nat.max_eq_left (by omega)]
  · have h1 : nI e - nI q < 0 := pk_sneg (by omega) (by omega)
    rw [if_neg (fun h2 => by have := Int32.lt_trans h2 h1; exact nI_pos (by omega) this), Nat.max_eq_left (by omega)]
theorem zPow {B c : Nat} (h1 : 1 ≤ B) (h2 : B ≤ 10) (hc : c ≤ 9) : 0 < B ^ c ∧ B ^ c < 2 ^ 31 := by
  refine ⟨Nat.pow_pos h1, Nat.lt_of_le_of_lt (Nat.le_trans (Nat.pow_le_pow_left h2 c) (Nat.pow_le_pow_right (by decide) hc)) (by decide)⟩
theorem zCmp {x : Nat} (h : 0 < x ∧ x < 2 ^ 31) : ¬ lg_cmp (lN x) (lN 0) ≤ 0 := by
  have h1 : lN 0 < lN x := (lN_lt (by decide) h.2).mpr h.1
  simp [lg_cmp, h1]
theorem zDvNe {x : Nat} (h : 0 < x ∧ x < 2 ^ 31) : ¬ lN x = 0 := by
  intro h2
  have h3 : lN x = lN 0 := h2
  rw [lN_eq h.2 (by decide)] at h3
  omega
/-! Integer.bitCount, step by step -/
def zBc1 (x : Int32) : Int32 := x - ((x.toUInt32 >>> ((nI 1).toUInt32 &&& Int32.toUInt32 31)).toInt32 &&& 1431655765)
def zBc2 (x : Int32) : Int32 := (x &&& 858993459) + ((x.toUInt32 >>> ((nI 2).toUInt32 &&& Int32.toUInt32 31)).toInt32 &&& 858993459)
def zBc3 (x : Int32) : Int32 := (x + (x.toUInt32 >>> ((nI 4).toUInt32 &&& Int32.toUInt32 31)).toInt32) &&& 252645135
def zBc4 (x : Int32) : Int32 := x + (x.toUInt32 >>> ((nI 8).toUInt32 &&& Int32.toUInt32 31)).toInt32
def zBc5 (x : Int32) : Int32 := x + (x.toUInt32 >>> ((nI 16).toUInt32 &&& Int32.toUInt32 31)).toInt32
def zBc (x : Int32) : Int32 := zBc5 (zBc4 (zBc3 (zBc2 (zBc1 x)))) &&& nI 63
theorem zBc_eq {n : Nat} (h : n < 2 ^ 32) : zBc (nI n) = nI (zPc n) := by
  sorry
