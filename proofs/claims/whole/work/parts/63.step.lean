/-! THE INVARIANT GOES ON -/
def zPx (B nw lc : Nat) (t at0 ln le : Nat → Nat) (mi sd : Nat → Bool) (bar : Bool) (as : List (List Nat)) : Prop := ∃ R, zAQ B nw lc t at0 ln le mi sd bar = as ++ R
/-- all of it -/
def zIV (f : Nat → Int32) (g : Nat → Nat → Int32) (f' : Nat → Int32) (g' : Nat → Nat → Int32) (B tn n nw lc : Nat) (tt t at0 ln le : Nat → Nat) (mi sd : Nat → Bool) (bar : Bool) (as : List (List Nat)) : Prop := zPI B tn n nw lc t at0 ln le as ∧ zPx B nw lc t at0 ln le mi sd bar as ∧ zCI f g B tn n nw lc tt t at0 ln le mi sd bar as ∧ zRI f' g' B tn n nw lc tt t at0 ln le mi sd bar as
section ZJ
variable {f f2 f' f2' : Nat → Int32} {g g2 g' g2' : Nat → Nat → Int32} {B tn n nw lc : Nat} {tt t at0 ln le : Nat → Nat} {mi sd : Nat → Bool} {bar : Bool} {as : List (List Nat)}
theorem s_thr (h : zIV f g f' g' B tn n nw lc tt t at0 ln le mi sd bar as) : zIV f g (upd f' 2 (nI 0)) g' B tn n nw lc tt t at0 ln le mi sd bar as := h
theorem zUn_n {u : Int32} (h : zUn u tn) : u = nI u.toInt.toNat ∧ u.toInt.toNat < 256 := by
  obtain ⟨h1, h2, _⟩ := h
  refine ⟨?_, by omega⟩
  apply Int32.toInt_inj.mp
  rw [nI_toInt (by omega)]
  omega
theorem zTy_push {G : Nat → Int32} {u : Int32} (h : zTy G tn tt) (hu : zUn u tn) : zTy (upd G tn u) (tn + 1) (upN tt tn u.toInt.toNat) := by
  intro j hj
  by_cases e : j = tn
  · subst e
    rw [pk_us, upN_s]
    exact zUn_n hu
  · rw [pk_un e, upN_o _ _ e]
    exact h j (by omega)
theorem s_unit {u : Int32} (hu : zUn u tn) (h : zIV f g f' g' B tn n nw lc tt t at0 ln le mi sd bar as) : zIV (upd f 0 (nI (tn + 1))) (updA g 0 tn u) (upd (upd f' 2 (nI 0)) 1 (nI (tn + 1))) (updA g' 0 tn u) B (tn + 1) n nw lc (upN tt tn u.toInt.toNat) t at0 ln le mi sd bar as := by
  obtain ⟨hP, hx, hC, hR⟩ := h
  have hK : ∀ bb, zCK (upd f 0 (nI (tn + 1))) (updA g 0 tn u) (zPQ B nw lc t at0 ln le mi sd bb) bb := fun bb => by
    have := hC.2.2.2.1 bb
    cases bb <;> exact this
  have hA : zKA (upd f 0 (nI (tn + 1))) (updA g 0 tn u) bar as := by
    have := hC.2.2.2.2
    cases bar <;> exact this
  refine ⟨⟨hP.1, hP.2.1, by have := hu.2.2; omega, hP.2.2.2⟩, hx, ⟨⟨rfl, hC.1.2⟩, zTy_push hC.2.1 hu, hC.2.2.1, hK, hA⟩, ⟨⟨hR.1.1, rfl, hR.1.2.2⟩, zTy_push hR.2.1 hu, hR.2.2⟩⟩
theorem s_bar (b : Bool) (h : zIV f g f' g' B tn n nw lc tt t at0 ln le mi sd bar as) : zIV (upd (upd f 1 (zB b)) 2 (nI 0)) g (upd (upd (upd f' 2 (nI 0)) 7 (zB b)) 6 (nI 0)) g' B tn n nw lc tt t at0 ln le mi sd b [] := by
  obtain ⟨hP, hx, hC, hR⟩ := h
  obtain ⟨p1, p2, p3, p4, p5, p6, p7, p8, p9, p10, p11⟩ := hP
  have hK : ∀ bb, zCK (upd (upd f 1 (zB b)) 2 (nI 0)) g (zPQ B nw lc t at0 ln le mi sd bb) bb := fun bb => by
    have := hC.2.2.2.1 bb
    cases bb <;> exact this
  have hA : zKA (upd (upd f 1 (zB b)) 2 (nI 0)) g b [] := by
    obtain ⟨kn, cnt, q1, q2, _⟩ := hK b
    exact ⟨cnt, q1, q2, Nat.zero_le _, fun k hk => absurd hk (Nat.not_lt_zero k)⟩
  refine ⟨⟨p1, p2, p3, p4, p5, p6, p7, p8, p9, Nat.zero_le _, fun ds h => absurd h List.not_mem_nil⟩, ⟨_, (List.nil_append _).symm⟩, ⟨⟨hC.1.1, rfl, rfl, hC.1.2.2.2⟩, hC.2.1, hC.2.2.1, hK, hA⟩, ⟨⟨hR.1.1, hR.1.2.1, hR.1.2.2.1, hR.1.2.2.2.1, hR.1.2.2.2.2.1, rfl, rfl⟩, hR.2.1, hR.2.2.1, fun i k hi => absurd hi (Nat.not_lt_zero i)⟩⟩
theorem zCI_AA {as' : List (List Nat)} (hP : zPI B tn n nw lc t at0 ln le as) (hC : zCI f g B tn n nw lc tt t at0 ln le mi sd bar as) (hx : zPx B nw lc t at0 ln le mi sd bar as') (hl : as'.length ≤ 1000) (hA : zAA bar (zPQ B nw lc t at0 ln le mi sd bar) f g f2 g2) : zCI (upd f2 2 (nI as'.length)) g2 B tn n nw lc tt t at0 ln le mi sd bar as' := by
  obtain ⟨k1, k2, k3, k4, k5⟩ := hA
  obtain ⟨c1, c2, c3, c4, c5⟩ := hC
  obtain ⟨a0, a1, a2, a3, a4, a5, a6, a7, a8, a9⟩ := c1
  have hkf : ∀ j, j < 14 ∨ j = 18 → j ≠ 2 → upd f2 2 (nI as'.length) j = f j := fun j hj h2 => by
    rw [pk_un h2]
    exact k1 j (by omega)
  have hkg : ∀ j, j < 6 → g2 j = g j := fun j hj => k2 j (Or.inl hj)
  obtain ⟨R, hR⟩ := hx
  have hlen : (zPQ B nw lc t at0 ln le mi sd bar).length = min 1000 (as'.length + R.length) := by
    rw [zPQ_AQ hP, List.length_take, List.length_map, hR, List.length_append]
  have hle : as'.length ≤ (zPQ B nw lc t at0 ln le mi sd bar).length := by rw [hlen]; omega
  have hl2 : (zPQ B nw lc t at0 ln le mi sd bar).length ≤ 1000 := by rw [hlen]; omega
  refine ⟨⟨?_, ?_, pk_us, ?_, ?_, ?_, ?_, ?_, ?_, ?_⟩, ?_, ?_, ?_, ?_⟩
  · rw [hkf 0 (by omega) (by omega)]; exact a0
  · rw [hkf 1 (by omega) (by omega)]; exact a1
  · rw [hkf 3 (by omega) (by omega)]; exact a3
  · rw [hkf 8 (by omega) (by omega)]; exact a4
  · rw [hkf 9 (by omega) (by omega)]; exact a5
  · rw [hkf 11 (by omega) (by omega)]; exact a6
  · rw [hkf 12 (by omega) (by omega)]; exact a7
  · rw [hkf 13 (by omega) (by omega)]; exact a8
  · rw [hkf 18 (by omega) (by omega)]; exact a9
  · rw [hkg 0 (by omega)]; exact c2
  · unfold zCT zBh zTk
    rw [hkf 10 (by omega) (by omega), hkg 1 (by omega), hkg 2 (by omega), hkg 3 (by omega), hkg 4 (by omega), hkg 5 (by omega)]
    exact c3
  · intro bb
    by_cases e : bb = bar
    · subst e
      refine ⟨true, _, hl2, ?_, ?_, fun _ => ⟨rfl, k5⟩⟩
      · cases bb <;> exact k3
      · cases bb <;> exact k4
    · obtain ⟨kn, cnt, q1, q2, q3, q4⟩ := c4 bb
      refine ⟨kn, cnt, q1, ?_, ?_, ?_⟩
      · rw [← q2, pk_un (by cases bb <;> decide)]
        refine k1 _ ?_
        cases bb <;> cases bar <;> simp_all
      · rw [← q3, pk_un (by cases bb <;> decide)]
        refine k1 _ ?_
        cases bb <;> cases bar <;> simp_all
      · intro h
        refine ⟨(q4 h).1, ?_⟩
        have := (q4 h).2
        cases bb with
        | false =>
          cases bar with
          | false => exact absurd rfl e
          | true =>
            show zIs (g2 13) _
            rw [k2 13 (by simp)]
            exact this
        | true =>
          cases bar with
          | true => exact absurd rfl e
          | false =>
            show zIs (g2 12) _
            rw [k2 12 (by simp)]
            exact this
  · refine ⟨(zPQ B nw lc t at0 ln le mi sd bar).length, hl2, ?_, hle, fun k hk => ?_⟩
    · cases bar <;> exact k3
    · rw [k5 k (by omega)]
      have e : (zPQ B nw lc t at0 ln le mi sd bar)[k]? = some (zPk 0 0 (as'.getD k [])) := by
        rw [zPQ_AQ hP, List.getElem?_take, if_pos (by omega), List.getElem?_map, hR, List.getElem?_append_left hk, List.getElem?_eq_getElem hk, List.getD_eq_getElem?_getD, List.getElem?_eq_getElem hk]
        rfl
      rw [List.getElem?_eq_getElem (by omega)] at e
      exact Option.some.inj e
theorem zRun_len {A R : List (List Nat)} {m : Nat} (hP : zPI B tn n nw lc t at0 ln le as) (hm : m ≤ 1000) (hAR : zAQ B nw lc t at0 ln le mi sd bar = A ++ R) (hAm : A.length ≤ m) (hAe : A.length = m ∨ R = []) : min m (zPQ B nw lc t at0 ln le mi sd bar).length = A.length := by
  rw [zPQ_AQ hP, List.length_take, List.length_map, hAR, List.length_append]
  rcases hAe with e | e
  · omega
  · rw [e]
    simp only [List.length_nil]
    omega
theorem zPI_as {A R : List (List Nat)} (hP : zPI B tn n nw lc t at0 ln le as) (hAR : zAQ B nw lc t at0 ln le mi sd bar = A ++ R) (hl : A.length ≤ 1000) : zPI B tn n nw lc t at0 ln le A := by
  obtain ⟨p1, p2, p3, p4, p5, p6, p7, p8, p9, p10, p11⟩ := hP
  exact ⟨p1, p2, p3, p4, p5, p6, p7, p8, p9, hl, fun ds hds => zAQ_good (bb := bar) (mi := mi) (sd := sd) (nw := nw) (t := t) (at0 := at0) (ln := ln) (le := le) p2 (by rw [hAR]; exact List.mem_append_left _ hds)⟩
theorem s_run {A R : List (List Nat)} (h : zIV f g f' g' B tn n nw lc tt t at0 ln le mi sd bar as) (hAR : zAQ B nw lc t at0 ln le mi sd bar = A ++ R) (hl : A.length ≤ 1000) (hA : zAA bar (zPQ B nw lc t at0 ln le mi sd bar) f g f2 g2) (hkf : ∀ j, j ≠ 2 → j ≠ 6 → j ≠ 8 → f2' j = f' j) (hkg : ∀ j, j ≠ 13 → j ≠ 14 → j ≠ 15 → j ≠ 16 → g2' j = g' j) (h6 : f2' 6 = nI A.length) (hAr : zAr (g2' 16) A lc) : zIV (upd f2 2 (nI A.length)) g2 f2' g2' B tn n nw lc tt t at0 ln le mi sd bar A := by
  obtain ⟨hP, hx, hC, hR⟩ := h
  refine ⟨zPI_as hP hAR hl, ⟨R, hAR⟩, zCI_AA hP hC ⟨R, hAR⟩ hl hA, ?_⟩
  obtain ⟨⟨a0, a1, a2, a3, a4, a5, a6⟩, b2, b3, b4⟩ := hR
  refine ⟨⟨?_, ?_, ?_, ?_, ?_, h6, ?_⟩, ?_, ?_, hAr⟩
  · rw [hkf 0 (by decide) (by decide) (by decide)]; exact a0
  · rw [hkf 1 (by decide) (by decide) (by decide)]; exact a1
  · rw [hkf 3 (by decide) (by decide) (by decide)]; exact a2
  · rw [hkf 4 (by decide) (by decide) (by decide)]; exact a3
  · rw [hkf 5 (by decide) (by decide) (by decide)]; exact a4
  · rw [hkf 7 (by decide) (by decide) (by decide)]; exact a6
  · rw [hkg 0 (by decide) (by decide) (by decide) (by decide)]; exact b2
  · unfold zRT
    rw [hkg 1 (by decide) (by decide) (by decide) (by decide), hkg 2 (by decide) (by decide) (by decide) (by decide), hkg 3 (by decide) (by decide) (by decide) (by decide), hkg 4 (by decide) (by decide) (by decide) (by decide), hkg 5 (by decide) (by decide) (by decide) (by decide), hkg 6 (by decide) (by decide) (by decide) (by decide)]
    exact b3
theorem s_one {A R : List (List Nat)} (h : zIV f g f' g' B tn n nw lc tt t at0 ln le mi sd bar as) (hAR : zAQ B nw lc t at0 ln le mi sd bar = A ++ R) (hAe : A.length = 2 ∨ R = []) (hA : zAA bar (zPQ B nw lc t at0 ln le mi sd bar) f g f2 g2) (hkf : ∀ j, j ≠ 2 → j ≠ 8 → f2' j = f' j) (hkg : ∀ j, j ≠ 13 → j ≠ 14 → j ≠ 15 → g2' j = g' j) : zIV f2 g2 f2' g2' B tn n nw lc tt t at0 ln le mi sd bar as ∧ decide ((zPQ B nw lc t at0 ln le mi sd bar).length = 1) = decide (A.length = 1) := by
  obtain ⟨hP, hx, hC, hR⟩ := h
  constructor
  · have h1 := zCI_AA hP hC hx hP.2.2.2.2.2.2.2.2.2.1 hA
    have e2 : f2 2 = nI as.length := by rw [hA.1 2 (Or.inl (by decide))]; exact hC.1.2.2.1
    rw [upd_self e2] at h1
    refine ⟨hP, hx, h1, ?_⟩
    obtain ⟨⟨a0, a1, a2, a3, a4, a5, a6⟩, b2, b3, b4⟩ := hR
    refine ⟨⟨?_, ?_, ?_, ?_, ?_, ?_, ?_⟩, ?_, ?_, ?_⟩
    · rw [hkf 0 (by decide) (by decide)]; exact a0
    · rw [hkf 1 (by decide) (by decide)]; exact a1
    · rw [hkf 3 (by decide) (by decide)]; exact a2
    · rw [hkf 4 (by decide) (by decide)]; exact a3
    · rw [hkf 5 (by decide) (by decide)]; exact a4
    · rw [hkf 6 (by decide) (by decide)]; exact a5
    · rw [hkf 7 (by decide) (by decide)]; exact a6
    · rw [hkg 0 (by decide) (by decide) (by decide)]; exact b2
    · unfold zRT
      rw [hkg 1 (by decide) (by decide) (by decide), hkg 2 (by decide) (by decide) (by decide), hkg 3 (by decide) (by decide) (by decide), hkg 4 (by decide) (by decide) (by decide), hkg 5 (by decide) (by decide) (by decide), hkg 6 (by decide) (by decide) (by decide)]
      exact b3
    · rw [hkg 16 (by decide) (by decide) (by decide)]; exact b4
  · rw [zPQ_AQ hP, List.length_take, List.length_map, hAR, List.length_append]
    congr 1
    rw [eq_iff_iff]
    rcases hAe with e | e
    · omega
    · rw [e]
      simp only [List.length_nil]
      omega
/-- a text that is refused -/
theorem s_readF {w1 sg1 sn1 : Nat} {bh1 : Bool} (h : zIV f g f' g' B tn n nw lc tt t at0 ln le mi sd bar as) (hkf : ∀ j, j ≠ 1 → j ≠ 2 → j ≠ 9 → f2' j = f' j) (h1 : f2' 1 = nI 0) (hkg : ∀ j, j < 7 ∨ 11 < j → g2' j = g' j) : zIV (gF (upd f 0 (nI 0)) w1 sg1 sn1 bh1) g f2' g2' B 0 n nw lc tt t at0 ln le mi sd bar as := by
  obtain ⟨hP, hx, hC, hR⟩ := h
  have hK : ∀ bb, zCK (gF (upd f 0 (nI 0)) w1 sg1 sn1 bh1) g (zPQ B nw lc t at0 ln le mi sd bb) bb := fun bb => by
    have := hC.2.2.2.1 bb
    cases bb <;> exact this
  have hA : zKA (gF (upd f 0 (nI 0)) w1 sg1 sn1 bh1) g bar as := by
    have := hC.2.2.2.2
    cases bar <;> exact this
  refine ⟨⟨hP.1, hP.2.1, by omega, hP.2.2.2⟩, hx, ⟨⟨rfl, hC.1.2⟩, fun j hj => absurd hj (Nat.not_lt_zero j), hC.2.2.1, hK, hA⟩, ?_⟩
  obtain ⟨⟨a0, a1, a2, a3, a4, a5, a6⟩, b2, b3, b4⟩ := hR
  refine ⟨⟨?_, h1, ?_, ?_, ?_, ?_, ?_⟩, fun j hj => absurd hj (Nat.not_lt_zero j), ?_, ?_⟩
  · rw [hkf 0 (by decide) (by decide) (by decide)]; exact a0
  · rw [hkf 3 (by decide) (by decide) (by decide)]; exact a2
  · rw [hkf 4 (by decide) (by decide) (by decide)]; exact a3
  · rw [hkf 5 (by decide) (by decide) (by decide)]; exact a4
  · rw [hkf 6 (by decide) (by decide) (by decide)]; exact a5
  · rw [hkf 7 (by decide) (by decide) (by decide)]; exact a6
  · unfold zRT
    rw [hkg 1 (by omega), hkg 2 (by omega), hkg 3 (by omega), hkg 4 (by omega), hkg 5 (by omega), hkg 6 (by omega)]
    exact b3
  · rw [hkg 16 (by omega)]; exact b4
/-- a text that is read -/
theorem s_readT {w1 sg1 sn1 : Nat} {bh1 : Bool} {F1 SA SE B4 S5 : Nat → Int32} {w lc2 : Nat} {q : Int32} (h : zIV f g f' g' B tn n nw lc tt t at0 ln le mi sd bar as) (hg : gRun B tt tn 0 0 0 0 false = -1) (hF1 : ∀ j, j < tn → F1 j = nI (tt j)) (hlw : zLw tt tn 0 0 (g 2) (g 3) (f 10) false = (w, SA, SE, q)) (hll : zLl (zSn tt tn 0 0) 26 0 0 (g 4) (g 5) = (lc2, B4, S5)) (hRd : zRd f' g' tt tn f2' g2') :
    zIV (upd (upd (upd (upd (upd (upd (upd (upd (upd (gF (upd f 0 (nI 0)) w1 sg1 sn1 bh1) 9 (nI tn)) 11 (nI w)) 10 q) 12 (nI lc2)) 22 (nI 0)) 23 (nI 0)) 24 (nI 0)) 25 (nI 0)) 2 (nI 0)) (sA (sA (sA (sA (sA g 1 F1) 2 SA) 3 SE) 4 B4) 5 S5) f2' g2' B 0 tn (zR0 tt tn).1 (zL0 (zSn tt tn 0 0)).1 tt tt (zR0 tt tn).2.1 (zR0 tt tn).2.2.1 (zL0 (zSn tt tn 0 0)).2 (zR0 tt tn).2.2.2.1 (zR0 tt tn).2.2.2.2 bar [] ∧ w = (zR0 tt tn).1 := by
  obtain ⟨hP, hx, hC, hR⟩ := h
  obtain ⟨p1, p2, p3, p4, p5, p6, p7, p8, p9, p10, p11⟩ := hP
  have hpc : zPc (zSn tt tn 0 0) ≤ 8 := zSn_pc tn 0 0 0 0 false (by decide) hg (by omega)
  obtain ⟨e1, W1, W2, W3, W4⟩ := zLw_tie p2 tn 0 0 0 0 false (fun _ => 0) (fun _ => 0) (fun _ => false) (fun _ => false) (g 2) (g 3) (f 10) (by omega) hg ⟨fun j hj => absurd hj (Nat.not_lt_zero j), fun h => absurd h (Nat.lt_irrefl 0), fun h => absurd h Bool.false_ne_true, Nat.zero_le _⟩
  rw [show decide (0 < 0) = false from rfl, hlw] at e1 W1 W3
  have e1 : w = (zR0 tt tn).1 := e1
  have W1 : ∀ j, j < (zR0 tt tn).1 → SA j = nI ((zR0 tt tn).2.1 j) ∧ SE j = nI ((zR0 tt tn).2.1 j + (zR0 tt tn).2.2.1 j) ∧ 1 ≤ (zR0 tt tn).2.2.1 j ∧ (zR0 tt tn).2.2.1 j ≤ 8 ∧ (zR0 tt tn).2.1 j + (zR0 tt tn).2.2.1 j ≤ 0 + tn ∧ (zR0 tt tn).2.2.2.1 j = zM0 tt ((zR0 tt tn).2.1 j) ∧ (zR0 tt tn).2.2.2.2 j = (true && decide (q < nI ((zR0 tt tn).2.1 j))) ∧ ∀ p, (zR0 tt tn).2.1 j ≤ p → p < (zR0 tt tn).2.1 j + (zR0 tt tn).2.2.1 j → zIsS B (tt p) = true := W1
  have W4 : (zR0 tt tn).1 ≤ 8 := W4
  have L := zLl_tie hpc 26 0 (fun _ => 0) (g 4) (g 5) rfl (fun l hl => absurd hl (Nat.not_lt_zero l)) (fun l hl => absurd hl (Nat.not_lt_zero l)) (fun l hl => absurd hl (Nat.not_lt_zero l)) (fun l hl => absurd hl (Nat.not_lt_zero l))
  rw [show zCn (zSn tt tn 0 0) 0 = 0 from rfl, hll] at L
  obtain ⟨L1, L2, L3, L4, L5⟩ := L
  have L1 : lc2 = (zL0 (zSn tt tn 0 0)).1 := L1
  have L2 : (zL0 (zSn tt tn 0 0)).1 ≤ 8 := L2
  have L3 : ∀ l, l < (zL0 (zSn tt tn 0 0)).1 → B4 l = zLa (zL0 (zSn tt tn 0 0)).2 l ∧ (zL0 (zSn tt tn 0 0)).2 l < 26 := L3
  have L4 : ∀ j, j < 26 → S5 j = zIx (zLa (zL0 (zSn tt tn 0 0)).2) (nI (97 + j)) (zL0 (zSn tt tn 0 0)).1 0 := L4
  have L5 : ∀ j, j < 26 → (zSn tt tn 0 0).testBit j = true → ∃ l, l < (zL0 (zSn tt tn 0 0)).1 ∧ (zL0 (zSn tt tn 0 0)).2 l = j := L5
  have ht : ∀ j, j < tn → tt j < 256 := fun j hj => (hC.2.1 j hj).2
  refine ⟨⟨⟨p1, p2, by omega, p3, W4, L2, ht, fun v hv => ?_, fun l hl => (L3 l hl).2, Nat.zero_le _, fun ds hds => absurd hds List.not_mem_nil⟩, ⟨_, (List.nil_append _).symm⟩, ⟨⟨rfl, hC.1.2.1, rfl, hC.1.2.2.2.1, hC.1.2.2.2.2.1, rfl, by rw [← e1]; rfl, by rw [← L1]; rfl, hC.1.2.2.2.2.2.2.2.2.1, hC.1.2.2.2.2.2.2.2.2.2⟩, fun j hj => absurd hj (Nat.not_lt_zero j), ⟨hF1, fun v hv => ?_, fun l hl => (L3 l hl).1, L4⟩, fun bb => ?_, ?_⟩, ?_⟩, e1⟩
  · obtain ⟨a1, a2, a3, a4, a5, a6, a7, a8⟩ := W1 v hv
    refine ⟨a3, a4, by omega, fun p q1 q2 hn => ?_⟩
    have hs := a8 p q1 q2
    unfold zIsS at hs
    simp only [Bool.or_eq_true, Bool.and_eq_true, decide_eq_true_eq] at hs
    rcases hs with hs | hs
    · exfalso
      obtain ⟨l, b1, b2⟩ := L5 (tt p - 97) (by omega) (zSn_has hs tn 0 0 (by omega) (by omega))
      have b3 : zLa (zL0 (zSn tt tn 0 0)).2 l = nI (tt p) := by unfold zLa; rw [b2]; congr 1; omega
      obtain ⟨l2, _, _, b4⟩ := zSlF_yes (t := tt) (p := p) L2 (zIx_hit _ 0 l (by omega) (by omega) (by omega) b3)
      rw [hn] at b4
      cases b4
    · omega
  · obtain ⟨a1, a2, a3, a4, a5, a6, a7, a8⟩ := W1 v hv
    refine ⟨a1, a2, ?_, ?_⟩
    · rw [a7, Bool.true_and]
      show decide (q < SA v) = _
      rw [a1]
    · rw [a6]
      show decide (zAt (-1) F1 tn (SA v - nI 1) = nI 45) = _
      rw [a1]
      unfold zM0
      by_cases e : (zR0 tt tn).2.1 v = 0
      · rw [e]
        have : zAt (-1) F1 tn (nI 0 - nI 1) = -1 := zAt_neg (by decide)
        rw [this]
        rfl
      · rw [pk_sub (by omega), zAt_in (j := (zR0 tt tn).2.1 v - 1) (by omega) (by omega) rfl, hF1 _ (by omega), decide_eq_true (p := 0 < (zR0 tt tn).2.1 v) (by omega), Bool.true_and]
        congr 1
        rw [eq_iff_iff]
        exact nI_eq (by have := ht ((zR0 tt tn).2.1 v - 1) (by omega); omega) (by decide)
  · exact ⟨false, 0, by omega, by cases bb <;> rfl, by cases bb <;> rfl, fun h => absurd h Bool.false_ne_true⟩
  · exact ⟨0, by omega, by cases bar <;> rfl, Nat.le_refl _, fun k hk => absurd hk (Nat.not_lt_zero k)⟩
  · obtain ⟨⟨⟨⟨r1, r2, r3, r4, r5⟩, r6, r7, r8⟩, r9, r10⟩, r11⟩ := hRd
    obtain ⟨⟨a0, a1, a2, a3, a4, a5, a6⟩, b2, b3, b4⟩ := hR
    exact ⟨⟨by rw [r1 0 (Or.inl rfl)]; exact a0, r2, r6, r7, r9, r11, by rw [r1 7 (Or.inr rfl)]; exact a6⟩, fun j hj => absurd hj (Nat.not_lt_zero j), ⟨r5, r8, r10⟩, fun i k hi => absurd hi (Nat.not_lt_zero i)⟩
/-- a new object -/
theorem s_new (b : Int32) {B : Nat} (h1 : 2 ≤ B) (h2 : B ≤ 10) (hb : zBase b = nI B) : zIV (zF0 b) zG0 (zMF0 b) (fun _ _ => 0) B 0 0 0 0 (fun _ => 0) (fun _ => 0) (fun _ => 0) (fun _ => 0) (fun _ => 0) (fun _ => false) (fun _ => false) true [] := by
  refine ⟨⟨h1, h2, by omega, by omega, by omega, by omega, fun j hj => by omega, fun j hj => by omega, fun j hj => by omega, Nat.zero_le _, fun ds hds => absurd hds List.not_mem_nil⟩, ⟨_, (List.nil_append _).symm⟩, ⟨⟨rfl, rfl, rfl, hb, hb, rfl, rfl, rfl, hb, hb⟩, fun j hj => by omega, ⟨fun j hj => by omega, fun j hj => by omega, fun j hj => by omega, fun j hj => ?_⟩, fun bb => ⟨false, 0, by omega, by cases bb <;> rfl, by cases bb <;> rfl, fun h => absurd h Bool.false_ne_true⟩, ⟨0, by omega, rfl, Nat.le_refl _, fun k hk => absurd hk (Nat.not_lt_zero k)⟩⟩, ⟨⟨hb, rfl, rfl, rfl, rfl, rfl, rfl⟩, fun j hj => by omega, ⟨fun j hj => by omega, fun j hj => by omega, fun j hj => by omega⟩, fun i k hi => absurd hi (Nat.not_lt_zero i)⟩⟩
  show zFl (-1) 26 (fun _ => 0) j = -1
  exact if_pos hj
end ZJ
