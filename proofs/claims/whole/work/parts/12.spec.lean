theorem s_l : ∀ n, n < 32 → ((nI n &&& 31).toBitVec.smod 32).toNat = n := by decide +kernel
theorem s_u : ∀ n, n < 32 → (((nI n).toUInt32 &&& Int32.toUInt32 31).toBitVec % 32).toNat = n := by decide +kernel
/-! THE WORDS OF THE CONTRACTS: what the small methods answer, in numbers -/
def zLet (u : Int32) : Bool := !decide (u < nI 97) && !decide (nI 122 < u)
def zDig (u : Int32) : Bool := !decide (u < nI 48) && !decide (nI 57 < u)
def zDo (x k : Int32) : Int32 := (x.toUInt32 >>> ((nI 4 * k).toUInt32 &&& Int32.toUInt32 31)).toInt32 &&& nI 15
def zWd (x k d : Int32) : Int32 := x ||| (d <<< ((nI 4 * k) &&& 31))
def zAt (z : Int32) (F : Nat → Int32) (n : Nat) (k : Int32) : Int32 := if 0 ≤ k.toInt ∧ k.toInt < n then F k.toInt.toNat else z
theorem zAt_ix {n : Nat} {k : Int32} (hn : n < 2 ^ 31) (h1 : ¬ k < 0) (h2 : ¬ nI n ≤ k) : ∃ j, j < n ∧ k = nI j := by
  rcases pk_ix k hn with h | h | h
  · exact absurd h h1
  · exact absurd h h2
  · exact h
theorem zAt_in {z : Int32} {F : Nat → Int32} {n j : Nat} {k : Int32} (hn : n < 2 ^ 31) (hj : j < n) (hk : k = nI j) : zAt z F n k = F j := by
  subst hk
  unfold zAt
  rw [nI_toInt (by omega), if_pos (by omega)]
  rfl
theorem zAt_neg {z : Int32} {F : Nat → Int32} {n : Nat} {k : Int32} (h : k < 0) : zAt z F n k = z := by
  unfold zAt
  have h1 : k.toInt < 0 := by simpa using (Int32.lt_iff_toInt_lt.mp h)
  rw [if_neg (by omega)]
theorem zAt_big {z : Int32} {F : Nat → Int32} {n : Nat} {k : Int32} (hn : n < 2 ^ 31) (h : nI n ≤ k) : zAt z F n k = z := by
  unfold zAt
  have h1 : (nI n).toInt ≤ k.toInt := Int32.le_iff_toInt_le.mp h
  rw [nI_toInt hn] at h1
  rw [if_neg (by omega)]
theorem zLet_nI {t : Nat} (h : t < 2 ^ 31) : zLet (nI t) = (decide (97 ≤ t) && decide (t ≤ 122)) := by
  unfold zLet
  have h1 := nI_ltI (a := t) (b := 97) h (by decide)
  have h2 := nI_ltI (a := 122) (b := t) (by decide) h
  rw [Bool.eq_iff_iff]
  simp [h1, h2]
theorem zDig_nI {t : Nat} (h : t < 2 ^ 31) : zDig (nI t) = (decide (48 ≤ t) && decide (t ≤ 57)) := by
  unfold zDig
  have h1 := nI_ltI (a := t) (b := 48) h (by decide)
  have h2 := nI_ltI (a := 57) (b := t) (by decide) h
  rw [Bool.eq_iff_iff]
  simp [h1, h2]
theorem zLet_ix {u : Int32} (h : zLet u = true) : ∃ j, j < 26 ∧ u = nI (97 + j) := by
  unfold zLet at h
  simp only [Bool.and_eq_true, Bool.not_eq_true', decide_eq_false_iff_not] at h
  obtain ⟨h1, h2⟩ := h
  have h3 : ¬ u.toInt < (nI 97).toInt := fun q => h1 (Int32.lt_iff_toInt_lt.mpr q)
  have h4 : ¬ (nI 122).toInt < u.toInt := fun q => h2 (Int32.lt_iff_toInt_lt.mpr q)
  rw [nI_toInt (by decide)] at h3 h4
  obtain ⟨j, hj, rfl⟩ := nI_of (x := u) (fun q => by have := Int32.lt_iff_toInt_lt.mp q; simp at this; omega)
  rw [nI_toInt hj] at h3 h4
  exact ⟨j - 97, by omega, by congr 1; omega⟩
/-- the slot of a byte -/
def zSl (G : Nat → Int32) (u : Int32) : Int32 := if zLet u then G (u.toInt.toNat - 97) else -1
theorem zSl_in {G : Nat → Int32} {u : Int32} {j : Nat} (hj : j < 26) (hu : u = nI (97 + j)) : zSl G u = G j := by
  subst hu
  unfold zSl
  rw [zLet_nI (by omega), if_pos (by simp; omega), nI_toInt (by omega)]
  congr 1
  omega
theorem zSl_out {G : Nat → Int32} {u : Int32} (h : zLet u = false) : zSl G u = -1 := by
  unfold zSl
  rw [h]
  rfl
theorem zSubA {j : Nat} : nI (97 + j) - nI 97 = nI j := by
  rw [pk_sub (by omega)]
  congr 1
  omega
/-- the digit at a place under an answer -/
def zDg (G1 : Nat → Int32) (n : Nat) (G5 : Nat → Int32) (i x : Int32) : Int32 := if zSl G5 (zAt (-1) G1 n i) = -1 then zAt (-1) G1 n i - nI 48 else zDo x (zSl G5 (zAt (-1) G1 n i))
/-! the grammar -/
def zPc (n : Nat) : Nat := ((List.range 32).filter (fun i => n.testBit i)).length
def gSign (w sg sn : Nat) (bh : Bool) : Bool × Nat × Nat × Nat × Bool := (decide ((if sg = 0 then w + 1 else w) ≤ 8) && decide (sg + 1 ≤ 8), (if sg = 0 then w + 1 else w), sg + 1, sn, bh)
def gEnd (w sg sn : Nat) (bh : Bool) : Bool × Nat × Nat × Nat × Bool := (decide (0 < sg), w, 0, sn, bh)
def gStep (B w sg sn : Nat) (bh : Bool) (t : Nat) : Bool × Nat × Nat × Nat × Bool :=
  if 97 ≤ t ∧ t ≤ 122 then (if zPc (sn ||| 2 ^ (t - 97)) ≤ 8 then gSign w sg (sn ||| 2 ^ (t - 97)) bh else (false, w, sg, sn ||| 2 ^ (t - 97), bh))
  else if 48 ≤ t ∧ t ≤ 57 then (if t - 48 < B then gSign w sg sn bh else (false, w, sg, sn, bh))
  else if t = 61 then (if bh then (false, w, sg, sn, bh) else gEnd w sg sn true)
  else if t = 43 ∨ t = 45 then gEnd w sg sn bh
  else (false, w, sg, sn, bh)
/-- from place i on, k bytes to come: -1, or the first byte that may not be there -/
def gRun (B : Nat) (t : Nat → Nat) : Nat → Nat → Nat → Nat → Nat → Bool → Int32
  | 0, i, _, sg, _, bh => if bh && decide (0 < sg) then -1 else nI i
  | k + 1, i, w, sg, sn, bh => if (gStep B w sg sn bh (t i)).1 then gRun B t k (i + 1) (gStep B w sg sn bh (t i)).2.1 (gStep B w sg sn bh (t i)).2.2.1 (gStep B w sg sn bh (t i)).2.2.2.1 (gStep B w sg sn bh (t i)).2.2.2.2 else nI i
/-- the fields of the grammar -/
def gF (f : Nat → Int32) (w sg sn : Nat) (bh : Bool) : Nat → Int32 := upd (upd (upd (upd f 4 (nI w)) 5 (nI sg)) 6 (nI sn)) 7 (zB bh)
theorem gF_ext {f f' : Nat → Int32} {w sg sn : Nat} {bh : Bool} (h4 : f' 4 = nI w) (h5 : f' 5 = nI sg) (h6 : f' 6 = nI sn) (h7 : f' 7 = zB bh) (ho : ∀ j, j ≠ 4 → j ≠ 5 → j ≠ 6 → j ≠ 7 → f' j = f j) : f' = gF f w sg sn bh := by
  funext j
  unfold gF upd
  by_cases e7 : j = 7
  · rw [if_pos e7, e7]; exact h7
  · rw [if_neg e7]
    by_cases e6 : j = 6
    · rw [if_pos e6, e6]; exact h6
    · rw [if_neg e6]
      by_cases e5 : j = 5
      · rw [if_pos e5, e5]; exact h5
      · rw [if_neg e5]
        by_cases e4 : j = 4
        · rw [if_pos e4, e4]; exact h4
        · rw [if_neg e4]; exact ho j e4 e5 e6 e7
theorem gF_o {f : Nat → Int32} {w sg sn : Nat} {bh : Bool} {j : Nat} (h4 : j ≠ 4) (h5 : j ≠ 5) (h6 : j ≠ 6) (h7 : j ≠ 7) : gF f w sg sn bh j = f j := by
  simp [gF, upd, h4, h5, h6, h7]
theorem gF_gF (f : Nat → Int32) (w sg sn : Nat) (bh : Bool) (w' sg' sn' : Nat) (bh' : Bool) : gF (gF f w sg sn bh) w' sg' sn' bh' = gF f w' sg' sn' bh' :=
  gF_ext rfl rfl rfl rfl (fun j h4 h5 h6 h7 => by rw [gF_o h4 h5 h6 h7, gF_o h4 h5 h6 h7])
theorem nI_or (a b : Nat) : nI a ||| nI b = nI (a ||| b) := by
  apply Int32.toBitVec_inj.mp
  simp [nI, BitVec.ofNat_or]
theorem zShl {d : Nat} (h : d < 31) : nI 1 <<< (nI d &&& 31) = nI (2 ^ d) := by
  have h1 := pk_shlN (n := 1) (nI d &&& 31) d (s_l d (by omega)) (by rw [Nat.one_mul]; exact Nat.pow_lt_pow_right (by decide) (by omega))
  rw [Nat.one_mul] at h1
  exact h1
theorem zSeen {sn t : Nat} (h : 97 ≤ t) (h2 : t ≤ 122) : nI sn ||| (nI 1 <<< (nI (t - 97) &&& 31)) = nI (sn ||| 2 ^ (t - 97)) := by
  rw [zShl (by omega), nI_or]
theorem zLet_f {t : Nat} (h : t < 2 ^ 31) (c : zB (zLet (nI t)) = 0) : ¬ (97 ≤ t ∧ t ≤ 122) := by
  rw [zB_eq0, zLet_nI h] at c
  simpa using c
theorem zLet_t {t : Nat} (h : t < 2 ^ 31) (c : ¬ zB (zLet (nI t)) = 0) : 97 ≤ t ∧ t ≤ 122 := by
  have c := zB_n0 c
  rw [zLet_nI h] at c
  simpa using c
theorem zDig_f {t : Nat} (h : t < 2 ^ 31) (c : zB (zDig (nI t)) = 0) : ¬ (48 ≤ t ∧ t ≤ 57) := by
  rw [zB_eq0, zDig_nI h] at c
  simpa using c
theorem zDig_t {t : Nat} (h : t < 2 ^ 31) (c : ¬ zB (zDig (nI t)) = 0) : 48 ≤ t ∧ t ≤ 57 := by
  have c := zB_n0 c
  rw [zDig_nI h] at c
  simpa using c
theorem zPc_le (n : Nat) : zPc n ≤ 32 := by
  unfold zPc
  exact Nat.le_trans (List.length_filter_le _ _) (by simp)
theorem zSnLt {sn t : Nat} (h : sn < 2 ^ 26) (h2 : t ≤ 122) : sn ||| 2 ^ (t - 97) < 2 ^ 26 :=
  Nat.or_lt_two_pow h (Nat.pow_lt_pow_right (by decide) (by omega))
theorem gStep_le (B w sg sn : Nat) (bh : Bool) (t : Nat) {i : Nat} (hw : w ≤ i) (hs : sg ≤ i) (hsn : sn < 2 ^ 26) (ht : t < 256) : (gStep B w sg sn bh t).2.1 ≤ i + 1 ∧ (gStep B w sg sn bh t).2.2.1 ≤ i + 1 ∧ (gStep B w sg sn bh t).2.2.2.1 < 2 ^ 26 := by
  unfold gStep gSign gEnd
  by_cases h1 : 97 ≤ t ∧ t ≤ 122
  · rw [if_pos h1]
    have h2 := zSnLt hsn h1.2
    by_cases h3 : zPc (sn ||| 2 ^ (t - 97)) ≤ 8
    · rw [if_pos h3]
      refine ⟨?_, Nat.add_le_add_right hs 1, h2⟩
      show (if sg = 0 then w + 1 else w) ≤ i + 1
      split <;> omega
    · rw [if_neg h3]
      exact ⟨Nat.le_succ_of_le hw, Nat.le_succ_of_le hs, h2⟩
  · rw [if_neg h1]
    by_cases h2 : 48 ≤ t ∧ t ≤ 57
    · rw [if_pos h2]
      by_cases h3 : t - 48 < B
      · rw [if_pos h3]
        refine ⟨?_, Nat.add_le_add_right hs 1, hsn⟩
        show (if sg = 0 then w + 1 else w) ≤ i + 1
        split <;> omega
      · rw [if_neg h3]
        exact ⟨Nat.le_succ_of_le hw, Nat.le_succ_of_le hs, hsn⟩
    · rw [if_neg h2]
      by_cases h3 : t = 61
      · rw [if_pos h3]
        cases bh
        · exact ⟨Nat.le_succ_of_le hw, Nat.zero_le _, hsn⟩
        · exact ⟨Nat.le_succ_of_le hw, Nat.le_succ_of_le hs, hsn⟩
      · rw [if_neg h3]
        by_cases h4 : t = 43 ∨ t = 45
        · rw [if_pos h4]
          exact ⟨Nat.le_succ_of_le hw, Nat.zero_le _, hsn⟩
        · rw [if_neg h4]
          exact ⟨Nat.le_succ_of_le hw, Nat.le_succ_of_le hs, hsn⟩
/-! what the sums come to -/
def zBh (f : Nat → Int32) (g : Nat → Nat → Int32) (k : Nat) : Bool := decide (f 10 < g 2 k)
def zTk (g : Nat → Nat → Int32) (n k : Nat) : Bool := decide (zAt (-1) (g 1) n (g 2 k - nI 1) = nI 45)
def zHc (tk bh : Nat → Bool) : Nat → Nat → Nat → Bool
  | 0, _, c => decide (c = 1)
  | k + 1, i, c => if tk i then false else zHc tk bh k (i + 1) (if bh i then c + 1 else c)
def zHv (b : Int64) (D : Nat → Int32) : Nat → Nat → Int64 → Int64
  | 0, _, v => v
  | k + 1, i, v => zHv b D k (i + 1) (v * b + (D i).toInt64)
def zSv (bh tk : Nat → Bool) (E : Nat → Int64) (b : Bool) : Nat → Nat → Int64 → Int64
  | 0, _, v => v
  | k + 1, i, v => zSv bh tk E b k (i + 1) (if bh i = b then v + (if tk i then -E i else E i) else v)
def zCv (bh : Nat → Bool) (E : Nat → Int64) : Nat → Nat → Int64 → Int64
  | 0, _, v => v
  | k + 1, i, v => zCv bh E k (i + 1) (if bh i then v else v + E i)
theorem zMax {s e q : Nat} (hs : s ≤ e) (he : e ≤ 80) (hq : q ≤ 9) : (if nI s < nI e - nI q then nI e - nI q else nI s) = nI (max s (e - q)) := by
  by_cases h : q ≤ e
  · rw [pk_sub h]
    by_cases h2 : s < e - q
    · rw [if_pos (nI_lt h2 (by omega)), Nat.max_eq_right (by omega)]
    · rw [if_neg (nI_nlt (by omega) (by omega)), Nat.max_eq_left (by omega)]
  · have h1 : nI e - nI q < 0 := pk_sneg (by omega) (by omega)
    rw [if_neg (fun h2 => by have := Int32.lt_trans h2 h1; exact nI_pos (by omega) this), Nat.max_eq_left (by omega)]
theorem zPow {B c : Nat} (h1 : 1 ≤ B) (h2 : B ≤ 10) (hc : c ≤ 9) : 0 < B ^ c ∧ B ^ c < 2 ^ 31 := by
  refine ⟨Nat.pow_pos h1, Nat.lt_of_le_of_lt (Nat.le_trans (Nat.pow_le_pow_left h2 c) (Nat.pow_le_pow_right (by decide) hc)) (by decide)⟩
theorem zCmp {x : Nat} (h : 0 < x ∧ x < 2 ^ 31) : ¬ lg_cmp (lN x) (lN 0) ≤ 0 := by
  have h1 : lN 0 < lN x := (lN_lt (by decide) h.2).mpr h.1
  simp [lg_cmp, h1]
theorem zDvNe {x : Nat} (h : 0 < x ∧ x < 2 ^ 31) : ¬ lN x = 0 := by
  intro h2
  have h3 : lN x = lN 0 := h2
  rw [lN_eq h.2 (by decide)] at h3
  omega
/-! Integer.bitCount, step by step -/
def zBc1 (x : Int32) : Int32 := x - ((x.toUInt32 >>> ((nI 1).toUInt32 &&& Int32.toUInt32 31)).toInt32 &&& 1431655765)
def zBc2 (x : Int32) : Int32 := (x &&& 858993459) + ((x.toUInt32 >>> ((nI 2).toUInt32 &&& Int32.toUInt32 31)).toInt32 &&& 858993459)
def zBc3 (x : Int32) : Int32 := (x + (x.toUInt32 >>> ((nI 4).toUInt32 &&& Int32.toUInt32 31)).toInt32) &&& 252645135
def zBc4 (x : Int32) : Int32 := x + (x.toUInt32 >>> ((nI 8).toUInt32 &&& Int32.toUInt32 31)).toInt32
def zBc5 (x : Int32) : Int32 := x + (x.toUInt32 >>> ((nI 16).toUInt32 &&& Int32.toUInt32 31)).toInt32
def zBc (x : Int32) : Int32 := zBc5 (zBc4 (zBc3 (zBc2 (zBc1 x)))) &&& nI 63
def bt (x : Int32) (i : Nat) : Bool := x.toBitVec.getLsbD i
theorem b_ext {x y : Int32} (h : ∀ i, i < 32 → bt x i = bt y i) : x = y := Int32.toBitVec_inj.mp (BitVec.eq_of_getLsbD_eq (fun i hi => h i hi))
theorem b_or (x y : Int32) (i : Nat) : bt (x ||| y) i = (bt x i || bt y i) := by unfold bt; rw [Int32.toBitVec_or, BitVec.getLsbD_or]
theorem b_and (x y : Int32) (i : Nat) : bt (x &&& y) i = (bt x i && bt y i) := by unfold bt; rw [Int32.toBitVec_and, BitVec.getLsbD_and]
theorem b_big {x : Int32} {i : Nat} (h : 32 ≤ i) : bt x i = false := BitVec.getLsbD_of_ge _ _ h
theorem b_shl (n : Nat) (hn : n < 32) (x : Int32) {i : Nat} (hi : i < 32) : bt (x <<< (nI n &&& 31)) i = (decide (n ≤ i) && bt x (i - n)) := by
  unfold bt
  rw [Int32.toBitVec_shiftLeft]
  show (x.toBitVec <<< ((nI n &&& 31).toBitVec.smod 32).toNat).getLsbD i = _
  rw [s_l n hn, BitVec.getLsbD_shiftLeft]
  rcases Nat.lt_or_ge i n with h | h
  · simp [h, Nat.not_le.mpr h]
  · simp [hi, h, Nat.not_lt.mpr h]
theorem b_ushr (n : Nat) (hn : n < 32) (x : Int32) (i : Nat) : bt ((x.toUInt32 >>> ((nI n).toUInt32 &&& Int32.toUInt32 31)).toInt32) i = bt x (n + i) := by
  show (x.toUInt32 >>> ((nI n).toUInt32 &&& Int32.toUInt32 31)).toBitVec.getLsbD i = x.toUInt32.toBitVec.getLsbD (n + i)
  rw [UInt32.toBitVec_shiftRight]
  show (x.toUInt32.toBitVec >>> (((nI n).toUInt32 &&& Int32.toUInt32 31).toBitVec % 32).toNat).getLsbD i = _
  rw [s_u n hn, BitVec.getLsbD_ushiftRight]
theorem b_nI {d i : Nat} (hi : i < 32) : bt (nI d) i = d.testBit i := by
  unfold bt nI
  rw [Int32.toBitVec_ofNat', BitVec.getLsbD_ofNat, decide_eq_true hi, Bool.true_and]
theorem nI_and (a b : Nat) : nI a &&& nI b = nI (a &&& b) := by
  apply Int32.toBitVec_inj.mp
  simp [nI, BitVec.ofNat_and]
theorem zxShr {n k : Nat} (hn : n < 2 ^ 32) (hk : k < 32) : ((nI n).toUInt32 >>> ((nI k).toUInt32 &&& Int32.toUInt32 31)).toInt32 = nI (n / 2 ^ k) := by
  apply b_ext
  intro i hi
  rw [b_ushr k hk, b_nI hi, Nat.testBit_div_two_pow]
  by_cases h : k + i < 32
  · rw [b_nI h, Nat.add_comm]
  · rw [b_big (by omega), Nat.testBit_lt_two_pow (Nat.lt_of_lt_of_le hn (Nat.pow_le_pow_right (n := 2) (by decide) (by omega)))]
theorem zAnd16 (x m r s : Nat) (hr : r < 16) (hs : s < 16) : (16 * x + r) &&& (16 * m + s) = 16 * (x &&& m) + (r &&& s) := by
  have hrs : r &&& s < 2 ^ 4 := Nat.lt_of_le_of_lt Nat.and_le_left hr
  have hr : r < 2 ^ 4 := hr
  have hs : s < 2 ^ 4 := hs
  apply Nat.eq_of_testBit_eq
  intro j
  rw [show (16 : Nat) = 2 ^ 4 from rfl, Nat.testBit_and, Nat.testBit_two_pow_mul_add _ hr, Nat.testBit_two_pow_mul_add _ hs, Nat.testBit_two_pow_mul_add _ hrs]
  split <;> rw [Nat.testBit_and]
def zPcK (k n : Nat) : Nat := ((List.range k).filter (fun i => n.testBit i)).length
theorem zPcK_4 (k x d : Nat) (hd : d < 16) : zPcK (4 + k) (16 * x + d) = zPcK 4 d + zPcK k x := by
  have hd : d < 2 ^ 4 := hd
  unfold zPcK
  rw [List.range_add, List.filter_append, List.length_append, List.filter_map, List.length_map]
  congr 2
  · apply List.filter_congr
    intro i hi
    have hi := List.mem_range.mp hi
    rw [show (16 : Nat) = 2 ^ 4 from rfl, Nat.testBit_two_pow_mul_add _ hd, if_pos hi]
  · apply List.filter_congr
    intro i _
    show (16 * x + d).testBit (4 + i) = x.testBit i
    rw [show (16 : Nat) = 2 ^ 4 from rfl, Nat.testBit_two_pow_mul_add _ hd, if_neg (by omega)]
    congr 1
    omega
def zN8 (d0 d1 d2 d3 d4 d5 d6 d7 : Nat) : Nat := 16 * (16 * (16 * (16 * (16 * (16 * (16 * d7 + d6) + d5) + d4) + d3) + d2) + d1) + d0
theorem zN8_and {d0 d1 d2 d3 d4 d5 d6 d7 : Nat} (h0 : d0 < 16) (h1 : d1 < 16) (h2 : d2 < 16) (h3 : d3 < 16) (h4 : d4 < 16) (h5 : d5 < 16) (h6 : d6 < 16) {e0 e1 e2 e3 e4 e5 e6 e7 : Nat} (g0 : e0 < 16) (g1 : e1 < 16) (g2 : e2 < 16) (g3 : e3 < 16) (g4 : e4 < 16) (g5 : e5 < 16) (g6 : e6 < 16) : zN8 d0 d1 d2 d3 d4 d5 d6 d7 &&& zN8 e0 e1 e2 e3 e4 e5 e6 e7 = zN8 (d0 &&& e0) (d1 &&& e1) (d2 &&& e2) (d3 &&& e3) (d4 &&& e4) (d5 &&& e5) (d6 &&& e6) (d7 &&& e7) := by
  unfold zN8
  rw [zAnd16 _ _ _ _ h0 g0, zAnd16 _ _ _ _ h1 g1, zAnd16 _ _ _ _ h2 g2, zAnd16 _ _ _ _ h3 g3, zAnd16 _ _ _ _ h4 g4, zAnd16 _ _ _ _ h5 g5, zAnd16 _ _ _ _ h6 g6]
theorem zN8_of {n : Nat} (h : n < 2 ^ 32) : ∃ d0 d1 d2 d3 d4 d5 d6 d7 : Nat, d0 < 16 ∧ d1 < 16 ∧ d2 < 16 ∧ d3 < 16 ∧ d4 < 16 ∧ d5 < 16 ∧ d6 < 16 ∧ d7 < 16 ∧ n = zN8 d0 d1 d2 d3 d4 d5 d6 d7 := by
  refine ⟨n % 16, n / 16 % 16, n / 16 / 16 % 16, n / 16 / 16 / 16 % 16, n / 16 / 16 / 16 / 16 % 16, n / 16 / 16 / 16 / 16 / 16 % 16, n / 16 / 16 / 16 / 16 / 16 / 16 % 16, n / 16 / 16 / 16 / 16 / 16 / 16 / 16, Nat.mod_lt _ (by decide), Nat.mod_lt _ (by decide), Nat.mod_lt _ (by decide), Nat.mod_lt _ (by decide), Nat.mod_lt _ (by decide), Nat.mod_lt _ (by decide), Nat.mod_lt _ (by decide), by omega, ?_⟩
  unfold zN8
  omega
theorem zPc_N8 {d0 d1 d2 d3 d4 d5 d6 d7 : Nat} (h0 : d0 < 16) (h1 : d1 < 16) (h2 : d2 < 16) (h3 : d3 < 16) (h4 : d4 < 16) (h5 : d5 < 16) (h6 : d6 < 16) : zPc (zN8 d0 d1 d2 d3 d4 d5 d6 d7) = zPcK 4 d0 + (zPcK 4 d1 + (zPcK 4 d2 + (zPcK 4 d3 + (zPcK 4 d4 + (zPcK 4 d5 + (zPcK 4 d6 + zPcK 4 d7)))))) := by
  have e0 := zPcK_4 28 (16 * (16 * (16 * (16 * (16 * (16 * d7 + d6) + d5) + d4) + d3) + d2) + d1) d0 h0
  have e1 := zPcK_4 24 (16 * (16 * (16 * (16 * (16 * d7 + d6) + d5) + d4) + d3) + d2) d1 h1
  have e2 := zPcK_4 20 (16 * (16 * (16 * (16 * d7 + d6) + d5) + d4) + d3) d2 h2
  have e3 := zPcK_4 16 (16 * (16 * (16 * d7 + d6) + d5) + d4) d3 h3
  have e4 := zPcK_4 12 (16 * (16 * d7 + d6) + d5) d4 h4
  have e5 := zPcK_4 8 (16 * d7 + d6) d5 h5
  have e6 := zPcK_4 4 d7 d6 h6
  refine Eq.trans e0 ?_
  rw [show zPcK 28 _ = _ from e1, show zPcK 24 _ = _ from e2, show zPcK 20 _ = _ from e3, show zPcK 16 _ = _ from e4, show zPcK 12 _ = _ from e5, show zPcK 8 _ = _ from e6]
def zNb (d : Nat) : Nat := d - (d / 2 &&& 5)
theorem zNb1 : ∀ d, d < 16 → ∀ b, b < 2 → (d / 2 + 8 * b) &&& 5 = d / 2 &&& 5 := by decide
theorem zNb2 : ∀ d, d < 16 → (d / 2 &&& 5) ≤ d ∧ zNb d < 16 := by decide
theorem zNb3 : ∀ d, d < 16 → ∀ b, b < 4 → (d / 4 + 4 * b) &&& 3 = d / 4 &&& 3 := by decide
theorem zNb4 : ∀ d, d < 16 → (zNb d &&& 3) + (zNb d / 4 &&& 3) = zPcK 4 d ∧ zPcK 4 d ≤ 4 := by decide
theorem zNb5 : ∀ d, d < 16 → d &&& 15 = d := by decide
theorem zxSub (d e : Nat) (h : e ≤ d) : d - e + e = d := by omega
theorem zS1x {d0 d1 d2 d3 d4 d5 d6 d7 : Nat} (h0 : d0 < 16) (h1 : d1 < 16) (h2 : d2 < 16) (h3 : d3 < 16) (h4 : d4 < 16) (h5 : d5 < 16) (h6 : d6 < 16) (h7 : d7 < 16) : zN8 d0 d1 d2 d3 d4 d5 d6 d7 - (zN8 d0 d1 d2 d3 d4 d5 d6 d7 / 2 &&& 1431655765) = zN8 (zNb d0) (zNb d1) (zNb d2) (zNb d3) (zNb d4) (zNb d5) (zNb d6) (zNb d7) := by
  have e : zN8 d0 d1 d2 d3 d4 d5 d6 d7 / 2 = zN8 (d0 / 2 + 8 * (d1 % 2)) (d1 / 2 + 8 * (d2 % 2)) (d2 / 2 + 8 * (d3 % 2)) (d3 / 2 + 8 * (d4 % 2)) (d4 / 2 + 8 * (d5 % 2)) (d5 / 2 + 8 * (d6 % 2)) (d6 / 2 + 8 * (d7 % 2)) (d7 / 2 + 8 * 0) := by
    unfold zN8
    omega
  rw [e, show 1431655765 = zN8 5 5 5 5 5 5 5 5 from rfl, zN8_and (by omega) (by omega) (by omega) (by omega) (by omega) (by omega) (by omega) (by decide) (by decide) (by decide) (by decide) (by decide) (by decide) (by decide)]
  rw [zNb1 d0 h0 _ (by omega), zNb1 d1 h1 _ (by omega), zNb1 d2 h2 _ (by omega), zNb1 d3 h3 _ (by omega), zNb1 d4 h4 _ (by omega), zNb1 d5 h5 _ (by omega), zNb1 d6 h6 _ (by omega), zNb1 d7 h7 _ (by omega)]
  have a0 := (zNb2 d0 h0).1
  have a1 := (zNb2 d1 h1).1
  have a2 := (zNb2 d2 h2).1
  have a3 := (zNb2 d3 h3).1
  have a4 := (zNb2 d4 h4).1
  have a5 := (zNb2 d5 h5).1
  have a6 := (zNb2 d6 h6).1
  have a7 := (zNb2 d7 h7).1
  unfold zN8 zNb
  generalize d0 / 2 &&& 5 = x0 at *
  generalize d1 / 2 &&& 5 = x1 at *
  generalize d2 / 2 &&& 5 = x2 at *
  generalize d3 / 2 &&& 5 = x3 at *
  generalize d4 / 2 &&& 5 = x4 at *
  generalize d5 / 2 &&& 5 = x5 at *
  generalize d6 / 2 &&& 5 = x6 at *
  generalize d7 / 2 &&& 5 = x7 at *
  omega
theorem zS2x {d0 d1 d2 d3 d4 d5 d6 d7 : Nat} (h0 : d0 < 16) (h1 : d1 < 16) (h2 : d2 < 16) (h3 : d3 < 16) (h4 : d4 < 16) (h5 : d5 < 16) (h6 : d6 < 16) (h7 : d7 < 16) : (zN8 d0 d1 d2 d3 d4 d5 d6 d7 &&& 858993459) + (zN8 d0 d1 d2 d3 d4 d5 d6 d7 / 4 &&& 858993459) = zN8 ((d0 &&& 3) + (d0 / 4 &&& 3)) ((d1 &&& 3) + (d1 / 4 &&& 3)) ((d2 &&& 3) + (d2 / 4 &&& 3)) ((d3 &&& 3) + (d3 / 4 &&& 3)) ((d4 &&& 3) + (d4 / 4 &&& 3)) ((d5 &&& 3) + (d5 / 4 &&& 3)) ((d6 &&& 3) + (d6 / 4 &&& 3)) ((d7 &&& 3) + (d7 / 4 &&& 3)) := by
  have e : zN8 d0 d1 d2 d3 d4 d5 d6 d7 / 4 = zN8 (d0 / 4 + 4 * (d1 % 4)) (d1 / 4 + 4 * (d2 % 4)) (d2 / 4 + 4 * (d3 % 4)) (d3 / 4 + 4 * (d4 % 4)) (d4 / 4 + 4 * (d5 % 4)) (d5 / 4 + 4 * (d6 % 4)) (d6 / 4 + 4 * (d7 % 4)) (d7 / 4 + 4 * 0) := by
    unfold zN8
    omega
  rw [e, show 858993459 = zN8 3 3 3 3 3 3 3 3 from rfl, zN8_and (by omega) (by omega) (by omega) (by omega) (by omega) (by omega) (by omega) (by decide) (by decide) (by decide) (by decide) (by decide) (by decide) (by decide), zN8_and (by omega) (by omega) (by omega) (by omega) (by omega) (by omega) (by omega) (by decide) (by decide) (by decide) (by decide) (by decide) (by decide) (by decide)]
  rw [zNb3 d0 h0 _ (by omega), zNb3 d1 h1 _ (by omega), zNb3 d2 h2 _ (by omega), zNb3 d3 h3 _ (by omega), zNb3 d4 h4 _ (by omega), zNb3 d5 h5 _ (by omega), zNb3 d6 h6 _ (by omega), zNb3 d7 h7 _ (by omega)]
  unfold zN8
  omega
theorem zS3x {c0 c1 c2 c3 c4 c5 c6 c7 : Nat} (h0 : c0 ≤ 4) (h1 : c1 ≤ 4) (h2 : c2 ≤ 4) (h3 : c3 ≤ 4) (h4 : c4 ≤ 4) (h5 : c5 ≤ 4) (h6 : c6 ≤ 4) (h7 : c7 ≤ 4) : (zN8 c0 c1 c2 c3 c4 c5 c6 c7 + zN8 c0 c1 c2 c3 c4 c5 c6 c7 / 16) &&& 252645135 = zN8 (c0 + c1) 0 (c2 + c3) 0 (c4 + c5) 0 (c6 + c7) 0 := by
  have e : zN8 c0 c1 c2 c3 c4 c5 c6 c7 + zN8 c0 c1 c2 c3 c4 c5 c6 c7 / 16 = zN8 (c0 + c1) (c1 + c2) (c2 + c3) (c3 + c4) (c4 + c5) (c5 + c6) (c6 + c7) c7 := by
    unfold zN8
    omega
  rw [e, show 252645135 = zN8 15 0 15 0 15 0 15 0 from rfl, zN8_and (by omega) (by omega) (by omega) (by omega) (by omega) (by omega) (by omega) (by decide) (by decide) (by decide) (by decide) (by decide) (by decide) (by decide)]
  rw [zNb5 _ (by omega), zNb5 _ (by omega), zNb5 _ (by omega), zNb5 _ (by omega), Nat.and_zero, Nat.and_zero, Nat.and_zero, Nat.and_zero]
theorem zFin4 {x0 x1 x2 x3 : Nat} (h0 : x0 ≤ 8) (h1 : x1 ≤ 8) (h2 : x2 ≤ 8) (h3 : x3 ≤ 8) {a : Nat} (ha : a = x0 + 256 * x1 + 65536 * x2 + 16777216 * x3) : (a + a / 256 + (a + a / 256) / 65536) % 64 = x0 + x1 + x2 + x3 := by
  have e1 : a / 256 = x1 + 256 * x2 + 65536 * x3 := by omega
  rw [e1]
  have e2 : (a + (x1 + 256 * x2 + 65536 * x3)) / 65536 = x2 + x3 + 256 * x3 := by omega
  rw [e2]
  have e3 : a + (x1 + 256 * x2 + 65536 * x3) + (x2 + x3 + 256 * x3) = (x0 + x1 + x2 + x3) + 64 * (4 * (x1 + x2 + x3) + 1024 * (x2 + x3) + 262144 * x3) := by omega
  rw [e3, Nat.add_mul_mod_self_left, Nat.mod_eq_of_lt (by omega)]
theorem zBc_eq {n : Nat} (h : n < 2 ^ 32) : zBc (nI n) = nI (zPc n) := by
  obtain ⟨d0, d1, d2, d3, d4, d5, d6, d7, h0, h1, h2, h3, h4, h5, h6, h7, rfl⟩ := zN8_of h
  have b0 := (zNb4 d0 h0).2
  have b1 := (zNb4 d1 h1).2
  have b2 := (zNb4 d2 h2).2
  have b3 := (zNb4 d3 h3).2
  have b4 := (zNb4 d4 h4).2
  have b5 := (zNb4 d5 h5).2
  have b6 := (zNb4 d6 h6).2
  have b7 := (zNb4 d7 h7).2
  have s1 : zBc1 (nI (zN8 d0 d1 d2 d3 d4 d5 d6 d7)) = nI (zN8 (zNb d0) (zNb d1) (zNb d2) (zNb d3) (zNb d4) (zNb d5) (zNb d6) (zNb d7)) := by
    unfold zBc1
    rw [zxShr h (by decide), show (1431655765 : Int32) = nI 1431655765 from rfl, nI_and, pk_sub (Nat.le_trans Nat.and_le_left (Nat.div_le_self _ _))]
    congr 1
    exact zS1x h0 h1 h2 h3 h4 h5 h6 h7
  have l1 : zN8 (zNb d0) (zNb d1) (zNb d2) (zNb d3) (zNb d4) (zNb d5) (zNb d6) (zNb d7) < 2 ^ 32 := by
    have q0 := (zNb2 d0 h0).2
    have q1 := (zNb2 d1 h1).2
    have q2 := (zNb2 d2 h2).2
    have q3 := (zNb2 d3 h3).2
    have q4 := (zNb2 d4 h4).2
    have q5 := (zNb2 d5 h5).2
    have q6 := (zNb2 d6 h6).2
    have q7 := (zNb2 d7 h7).2
    unfold zN8
    omega
  have s2 : zBc2 (nI (zN8 (zNb d0) (zNb d1) (zNb d2) (zNb d3) (zNb d4) (zNb d5) (zNb d6) (zNb d7))) = nI (zN8 (zPcK 4 d0) (zPcK 4 d1) (zPcK 4 d2) (zPcK 4 d3) (zPcK 4 d4) (zPcK 4 d5) (zPcK 4 d6) (zPcK 4 d7)) := by
    unfold zBc2
    rw [zxShr l1 (by decide), show (858993459 : Int32) = nI 858993459 from rfl, nI_and, nI_and, nI_add]
    congr 1
    refine (zS2x (zNb2 d0 h0).2 (zNb2 d1 h1).2 (zNb2 d2 h2).2 (zNb2 d3 h3).2 (zNb2 d4 h4).2 (zNb2 d5 h5).2 (zNb2 d6 h6).2 (zNb2 d7 h7).2).trans ?_
    rw [(zNb4 d0 h0).1, (zNb4 d1 h1).1, (zNb4 d2 h2).1, (zNb4 d3 h3).1, (zNb4 d4 h4).1, (zNb4 d5 h5).1, (zNb4 d6 h6).1, (zNb4 d7 h7).1]
  have l2 : zN8 (zPcK 4 d0) (zPcK 4 d1) (zPcK 4 d2) (zPcK 4 d3) (zPcK 4 d4) (zPcK 4 d5) (zPcK 4 d6) (zPcK 4 d7) < 2 ^ 32 := by
    unfold zN8
    omega
  have s3 : zBc3 (nI (zN8 (zPcK 4 d0) (zPcK 4 d1) (zPcK 4 d2) (zPcK 4 d3) (zPcK 4 d4) (zPcK 4 d5) (zPcK 4 d6) (zPcK 4 d7))) = nI (zN8 (zPcK 4 d0 + zPcK 4 d1) 0 (zPcK 4 d2 + zPcK 4 d3) 0 (zPcK 4 d4 + zPcK 4 d5) 0 (zPcK 4 d6 + zPcK 4 d7) 0) := by
    unfold zBc3
    rw [zxShr l2 (by decide), show (252645135 : Int32) = nI 252645135 from rfl, nI_add, nI_and]
    congr 1
    exact zS3x b0 b1 b2 b3 b4 b5 b6 b7
  unfold zBc
  rw [s1, s2, s3, zPc_N8 h0 h1 h2 h3 h4 h5 h6]
  have key : ∀ a : Nat, a < 2 ^ 30 → zBc5 (zBc4 (nI a)) &&& nI 63 = nI ((a + a / 256 + (a + a / 256) / 65536) % 64) := by
    intro a ha
    unfold zBc5 zBc4
    rw [zxShr (by omega) (by decide), nI_add, zxShr (by have := Nat.div_le_self a (2 ^ 8); omega) (by decide), nI_add, nI_and, show (63 : Nat) = 2 ^ 6 - 1 from rfl, Nat.and_two_pow_sub_one_eq_mod]
  rw [key _ (by unfold zN8; omega)]
  congr 1
  rw [zFin4 (x0 := zPcK 4 d0 + zPcK 4 d1) (x1 := zPcK 4 d2 + zPcK 4 d3) (x2 := zPcK 4 d4 + zPcK 4 d5) (x3 := zPcK 4 d6 + zPcK 4 d7) (by omega) (by omega) (by omega) (by omega) (by unfold zN8; omega)]
  omega
