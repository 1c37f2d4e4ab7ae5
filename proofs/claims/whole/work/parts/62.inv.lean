/-! WHAT HOLDS BETWEEN THE CALLS -/
def zSlF (t le : Nat → Nat) (lc : Nat) : Nat → Option Nat := fun p => if zIx (zLa le) (nI (t p)) lc 0 = -1 then none else some (zIx (zLa le) (nI (t p)) lc 0).toInt.toNat
def zSgX (mi sd : Nat → Bool) : Nat → Int := fun w => if sd w = mi w then 1 else -1
def zWF (B nw lc : Nat) (t at0 ln le : Nat → Nat) (mi sd : Nat → Bool) : Int × (Nat → Int) := zWs B (zSlF t le lc) (fun p => (t p : Int) - 48) (zSgX mi sd) at0 ln nw
def zFF (nw lc : Nat) (t at0 ln le : Nat → Nat) : Nat := zFm (zSlF t le lc) at0 ln nw
def zZF (nw lc : Nat) (t at0 ln le : Nat → Nat) : Bool := zZf (zSlF t le lc) t at0 ln nw
def zPQ (B nw lc : Nat) (t at0 ln le : Nat → Nat) (mi sd : Nat → Bool) (bb : Bool) : List Int32 := zPP (decide (nw = 0) || (bb && zZF nw lc t at0 ln le)) (((zAnsL B (zOk bb (zFF nw lc t at0 ln le)) (zWF B nw lc t at0 ln le mi sd).2 (zWF B nw lc t at0 ln le mi sd).1 lc).map (zPk 0 0)).take 1000)
def zAQ (B nw lc : Nat) (t at0 ln le : Nat → Nat) (mi sd : Nat → Bool) (bb : Bool) : List (List Nat) := zPM ((decide (nw = 0) || decide (B < lc)) || (bb && zZF nw lc t at0 ln le)) (zAnsM B (zOk bb (zFF nw lc t at0 ln le)) (zWF B nw lc t at0 ln le mi sd).2 (zWF B nw lc t at0 ln le mi sd).1 lc)
def zPI (B tn n nw lc : Nat) (t at0 ln le : Nat → Nat) (as : List (List Nat)) : Prop := 2 ≤ B ∧ B ≤ 10 ∧ tn ≤ 80 ∧ n ≤ 80 ∧ nw ≤ 8 ∧ lc ≤ 8 ∧ (∀ j, j < n → t j < 256) ∧ (∀ w, w < nw → 1 ≤ ln w ∧ ln w ≤ 8 ∧ at0 w + ln w ≤ n ∧ ∀ p, at0 w ≤ p → p < at0 w + ln w → zSlF t le lc p = none → 48 ≤ t p ∧ t p ≤ 57) ∧ (∀ l, l < lc → le l < 26) ∧ as.length ≤ 1000 ∧ ∀ ds ∈ as, ds.length = lc ∧ ∀ d ∈ ds, d < 10
def zCK (f : Nat → Int32) (g : Nat → Nat → Int32) (PP : List Int32) (bb : Bool) : Prop := ∃ kn cnt, cnt ≤ 1000 ∧ f (cond bb 22 24) = nI cnt ∧ f (cond bb 23 25) = zB kn ∧ (kn = true → cnt = PP.length ∧ zIs (cond bb (g 12) (g 13)) PP)
def zKA (f : Nat → Int32) (g : Nat → Nat → Int32) (bar : Bool) (as : List (List Nat)) : Prop := ∃ cnt, cnt ≤ 1000 ∧ f (cond bar 22 24) = nI cnt ∧ as.length ≤ cnt ∧ ∀ k, k < as.length → cond bar (g 12) (g 13) k = zPk 0 0 (as.getD k [])
def zCF (f : Nat → Int32) (B tn n nw lc : Nat) (bar : Bool) (as : List (List Nat)) : Prop := f 0 = nI tn ∧ f 1 = zB bar ∧ f 2 = nI as.length ∧ f 3 = nI B ∧ f 8 = nI B ∧ f 9 = nI n ∧ f 11 = nI nw ∧ f 12 = nI lc ∧ f 13 = nI B ∧ f 18 = nI B
def zCT (f : Nat → Int32) (g : Nat → Nat → Int32) (n nw lc : Nat) (t at0 ln le : Nat → Nat) (mi sd : Nat → Bool) : Prop := (∀ j, j < n → g 1 j = nI (t j)) ∧ (∀ w, w < nw → g 2 w = nI (at0 w) ∧ g 3 w = nI (at0 w + ln w) ∧ zBh f g w = sd w ∧ zTk g n w = mi w) ∧ (∀ l, l < lc → g 4 l = zLa le l) ∧ (∀ j, j < 26 → g 5 j = zIx (zLa le) (nI (97 + j)) lc 0)
def zTy (G : Nat → Int32) (tn : Nat) (tt : Nat → Nat) : Prop := ∀ j, j < tn → G j = nI (tt j) ∧ tt j < 256
/-- the class -/
def zCI (f : Nat → Int32) (g : Nat → Nat → Int32) (B tn n nw lc : Nat) (tt t at0 ln le : Nat → Nat) (mi sd : Nat → Bool) (bar : Bool) (as : List (List Nat)) : Prop := zCF f B tn n nw lc bar as ∧ zTy (g 0) tn tt ∧ zCT f g n nw lc t at0 ln le mi sd ∧ (∀ bb, zCK f g (zPQ B nw lc t at0 ln le mi sd bb) bb) ∧ zKA f g bar as
def zRF (f : Nat → Int32) (B tn n nw lc : Nat) (bar : Bool) (as : List (List Nat)) : Prop := f 0 = nI B ∧ f 1 = nI tn ∧ f 3 = nI n ∧ f 4 = nI nw ∧ f 5 = nI lc ∧ f 6 = nI as.length ∧ f 7 = zB bar
def zRT (g : Nat → Nat → Int32) (n nw lc : Nat) (t at0 ln le : Nat → Nat) (mi sd : Nat → Bool) : Prop := (∀ j, j < n → g 1 j = nI (t j)) ∧ (∀ w, w < nw → g 2 w = nI (at0 w) ∧ g 3 w = nI (ln w) ∧ g 4 w = zB (mi w) ∧ g 5 w = zB (sd w)) ∧ (∀ l, l < lc → g 6 l = zLa le l)
/-- the reference -/
def zRI (f : Nat → Int32) (g : Nat → Nat → Int32) (B tn n nw lc : Nat) (tt t at0 ln le : Nat → Nat) (mi sd : Nat → Bool) (bar : Bool) (as : List (List Nat)) : Prop := zRF f B tn n nw lc bar as ∧ zTy (g 0) tn tt ∧ zRT g n nw lc t at0 ln le mi sd ∧ zAr (g 16) as lc
section ZI
variable {f f' : Nat → Int32} {g g' : Nat → Nat → Int32} {B tn n nw lc : Nat} {tt t at0 ln le : Nat → Nat} {mi sd : Nat → Bool} {bar : Bool} {as : List (List Nat)}
theorem zSl_eq (hle : ∀ l, l < lc → le l < 26) {G5 : Nat → Int32} (h5 : ∀ j, j < 26 → G5 j = zIx (zLa le) (nI (97 + j)) lc 0) (c : Int32) : zSl G5 c = zIx (zLa le) c lc 0 := by
  cases e : zLet c with
  | true =>
    obtain ⟨j, hj, hc⟩ := zLet_ix e
    rw [zSl_in hj hc, h5 j hj, hc]
  | false =>
    rw [zSl_out e]
    refine (zIx_none _ _ (fun l _ hl q => ?_)).symm
    have h2 := hle l (by omega)
    rw [← q] at e
    unfold zLa at e
    rw [zLet_nI (by omega)] at e
    simp at e
    omega
theorem zIx6 {G6 : Nat → Int32} (h6 : ∀ l, l < lc → G6 l = zLa le l) (c : Int32) : zIx G6 c lc 0 = zIx (zLa le) c lc 0 := zIx_congr _ _ (fun l _ hl => h6 l (by omega))
theorem zSlF_no {p : Nat} (h : zIx (zLa le) (nI (t p)) lc 0 = -1) : zSlF t le lc p = none := if_pos h
theorem zSlF_yes (hlc : lc ≤ 8) {p : Nat} (h : ¬ zIx (zLa le) (nI (t p)) lc 0 = -1) : ∃ l, l < lc ∧ zIx (zLa le) (nI (t p)) lc 0 = nI l ∧ zSlF t le lc p = some l := by
  obtain ⟨l, _, h2, h3⟩ := zIx_in _ _ h
  refine ⟨l, by omega, h3, ?_⟩
  unfold zSlF
  rw [if_neg h, h3, nI_tn (by omega)]
theorem zSlF_lt (hlc : lc ≤ 8) {p l : Nat} (h : zSlF t le lc p = some l) : l < lc := by
  by_cases q : zIx (zLa le) (nI (t p)) lc 0 = -1
  · rw [zSlF_no q] at h; cases h
  · obtain ⟨l2, h1, _, h3⟩ := zSlF_yes hlc q
    rw [h3] at h
    cases h
    exact h1
theorem zCslok (hlc : lc ≤ 8) (hle : ∀ l, l < lc → le l < 26) {G1 G5 : Nat → Int32} (h5 : ∀ j, j < 26 → G5 j = zIx (zLa le) (nI (97 + j)) lc 0) {p : Nat} (h1 : G1 p = nI (t p)) (ht : t p < 256) : zSlOk G1 G5 t (zSlF t le lc) p := by
  refine ⟨h1, ht, ?_⟩
  rw [zSl_eq hle h5, h1]
  by_cases q : zIx (zLa le) (nI (t p)) lc 0 = -1
  · exact Or.inl ⟨zSlF_no q, q⟩
  · obtain ⟨l, q1, q2, q3⟩ := zSlF_yes hlc q
    exact Or.inr ⟨l, by omega, q3, q2⟩
theorem zRslok (hlc : lc ≤ 8) {G1 G6 : Nat → Int32} (h6 : ∀ l, l < lc → G6 l = zLa le l) {p : Nat} (h1 : G1 p = nI (t p)) (ht : t p < 256) : zMlOk G1 G6 lc t (zSlF t le lc) p := by
  refine ⟨h1, ht, ?_⟩
  rw [zIx6 h6, h1]
  by_cases q : zIx (zLa le) (nI (t p)) lc 0 = -1
  · exact Or.inl ⟨zSlF_no q, q⟩
  · obtain ⟨l, q1, q2, q3⟩ := zSlF_yes hlc q
    exact Or.inr ⟨l, q1, q3, q2⟩
theorem zPM_sub {b : Bool} {L : List (List Nat)} {x : List Nat} (h : x ∈ zPM b L) : x ∈ L := by
  unfold zPM at h
  split at h
  · cases h
  · exact h
theorem zAQ_good (hB : B ≤ 10) {bb : Bool} {ds : List Nat} (h : ds ∈ zAQ B nw lc t at0 ln le mi sd bb) : ds.length = lc ∧ ∀ d ∈ ds, d < 10 := by
  have h1 := zPM_sub h
  unfold zAnsM at h1
  have h2 := (List.mem_filter.mp h1).1
  exact ⟨zEn_len _ _ _ _ h2, fun d hd => Nat.lt_of_lt_of_le (zEn_lt _ _ _ _ h2 d hd) hB⟩
theorem zPQ_AQ (hP : zPI B tn n nw lc t at0 ln le as) (bb : Bool) : zPQ B nw lc t at0 ln le mi sd bb = ((zAQ B nw lc t at0 ln le mi sd bb).map (zPk 0 0)).take 1000 := by
  obtain ⟨p1, p2, p3, p4, p5, p6, p7, p8, p9, p10, p11⟩ := hP
  unfold zPQ zAQ
  rw [zAns_LM p2 p5 (show zWs B (zSlF t le lc) (fun p => (t p : Int) - 48) (zSgX mi sd) at0 ln nw = ((zWF B nw lc t at0 ln le mi sd).1, (zWF B nw lc t at0 ln le mi sd).2) from rfl) (fun w hw => ⟨(p8 w hw).2.1, by unfold zSgX; split <;> simp, fun p q1 q2 => ⟨fun l hl => zSlF_lt p6 hl, (p8 w hw).2.2.2 p q1 q2⟩⟩)]
  unfold zPP zPM
  by_cases h1 : (decide (nw = 0) || (bb && zZF nw lc t at0 ln le)) = true
  · rw [if_pos h1, if_pos (by revert h1; cases decide (nw = 0) <;> cases (bb && zZF nw lc t at0 ln le) <;> simp)]
    rfl
  · rw [if_neg h1]
    by_cases h2 : B < lc
    · rw [if_pos (by rw [decide_eq_true h2]; simp)]
      unfold zAnsM
      rw [zEn_none h2]
      rfl
    · rw [if_neg (by rw [decide_eq_false h2]; revert h1; cases decide (nw = 0) <;> cases (bb && zZF nw lc t at0 ln le) <;> simp)]
theorem zAt_congr {z : Int32} {F G : Nat → Int32} {m : Nat} (h : ∀ j, j < m → F j = G j) (k : Int32) : zAt z F m k = zAt z G m k := by
  unfold zAt
  split
  · next q => exact h _ (by omega)
  · rfl
theorem zGet_mem {k : Nat} (h : k < as.length) : as.getD k [] ∈ as := by
  rw [List.getD_eq_getElem?_getD, List.getElem?_eq_getElem h]
  exact List.getElem_mem h
/-- the packed answer k of the class -/
theorem zAnsK (hK : zKA f g bar as) {cnt k : Nat} (hcnt : cnt ≤ 1000) (hc : f (cond bar 22 24) = nI cnt) (h : k < as.length) : zAt (nI 0) (cond bar (g 12) (g 13)) cnt (nI k) = zPk 0 0 (as.getD k []) := by
  obtain ⟨cnt2, q1, q2, q3, q4⟩ := hK
  rw [hc] at q2
  have e := (nI_eq (a := cnt) (b := cnt2) (by omega) (by omega)).mp q2
  rw [zAt_in (j := k) (by omega) (by omega) rfl]
  exact q4 k h
theorem zDo_as (hP : zPI B tn n nw lc t at0 ln le as) {k l : Nat} (h : k < as.length) (hl : l < lc) : zDo (zPk 0 0 (as.getD k [])) (nI l) = nI ((as.getD k []).getD l 0) ∧ (as.getD k []).getD l 0 ≤ 9 := by
  obtain ⟨p1, p2, p3, p4, p5, p6, p7, p8, p9, p10, p11⟩ := hP
  obtain ⟨q1, q2⟩ := p11 _ (zGet_mem h)
  exact ⟨zDo_zPk (by omega) (fun d hd => Nat.lt_trans (q2 d hd) (by decide)) (by omega), Nat.le_of_lt_succ (zGetD_lt (by decide) q2)⟩
/-- the digit at a place, for both -/
theorem zDg_Md (hP : zPI B tn n nw lc t at0 ln le as) (hC : zCT f g n nw lc t at0 ln le mi sd) (hR : zRT g' n nw lc t at0 ln le mi sd) (hA : zAr (g' 16) as lc) {k p : Nat} (hk : k < as.length) (hp : p < n) : zDg (g 1) n (g 5) (nI p) (zPk 0 0 (as.getD k [])) = zMd (g' 1) (g' 6) (g' 16) lc k p := by
  have hPI := hP
  obtain ⟨p1, p2, p3, p4, p5, p6, p7, p8, p9, p10, p11⟩ := hP
  unfold zDg zMd
  rw [zAt_in (j := p) (by omega) hp rfl, hC.1 p hp, hR.1 p hp, zSl_eq p9 hC.2.2.2, zIx6 hR.2.2]
  by_cases q : zIx (zLa le) (nI (t p)) lc 0 = -1
  · rw [if_pos q, if_pos q]
  · rw [if_neg q, if_neg q]
    obtain ⟨l, q1, q2, q3⟩ := zSlF_yes p6 q
    rw [q2, (zDo_as hPI hk q1).1, nI_tn (by omega), hA k l hk q1]
theorem zMd_n (hP : zPI B tn n nw lc t at0 ln le as) (hR : zRT g' n nw lc t at0 ln le mi sd) (hA : zAr (g' 16) as lc) {k p w : Nat} (hk : k < as.length) (hw : w < nw) (h1 : at0 w ≤ p) (h2 : p < at0 w + ln w) : ∃ N, N ≤ 9 ∧ zMd (g' 1) (g' 6) (g' 16) lc k p = nI N := by
  have hPI := hP
  obtain ⟨p1, p2, p3, p4, p5, p6, p7, p8, p9, p10, p11⟩ := hP
  obtain ⟨a1, a2, a3, a4⟩ := p8 w hw
  unfold zMd
  rw [hR.1 p (by omega), zIx6 hR.2.2]
  by_cases q : zIx (zLa le) (nI (t p)) lc 0 = -1
  · rw [if_pos q]
    have := a4 p h1 h2 (zSlF_no q)
    exact ⟨t p - 48, by omega, pk_sub (by omega)⟩
  · rw [if_neg q]
    obtain ⟨l, q1, q2, q3⟩ := zSlF_yes p6 q
    rw [q2, nI_tn (by omega), hA k l hk q1]
    exact ⟨_, (zDo_as hPI hk q1).2, rfl⟩
theorem zKept_lt {kept : Nat} {k : Int32} (h : zKept kept k = true) : k.toInt.toNat < kept ∧ k = nI k.toInt.toNat := by
  unfold zKept at h
  simp only [Bool.and_eq_true, decide_eq_true_eq] at h
  refine ⟨by omega, ?_⟩
  apply Int32.toInt_inj.mp
  have := Int32.toInt_lt k
  rw [nI_toInt (by omega)]
  omega
/-! the answers of the reading calls are the same -/
theorem e_digit (hP : zPI B tn n nw lc t at0 ln le as) (hC : zCI f g B tn n nw lc tt t at0 ln le mi sd bar as) (hR : zRI f' g' B tn n nw lc tt t at0 ln le mi sd bar as) {cnt : Nat} (hcnt : cnt ≤ 1000) (hc : f (cond bar 22 24) = nI cnt) (ka c : Int32) : zDi (zKept as.length ka) (zSl (g 5) c) (zDo (zAt (nI 0) (cond bar (g 12) (g 13)) cnt ka) (zSl (g 5) c)) = zDi (zKept as.length ka) (zIx (g' 6) c lc 0) (g' 16 (8 * ka.toInt.toNat + (zIx (g' 6) c lc 0).toInt.toNat)) := by
  have hPI := hP
  obtain ⟨p1, p2, p3, p4, p5, p6, p7, p8, p9, p10, p11⟩ := hP
  rw [zSl_eq p9 hC.2.2.1.2.2.2, zIx6 hR.2.2.1.2.2]
  unfold zDi
  by_cases q : zKept as.length ka = true ∧ ¬ zIx (zLa le) c lc 0 = -1
  · rw [if_pos q, if_pos q]
    obtain ⟨k1, k2⟩ := zKept_lt q.1
    obtain ⟨l, _, q1, q2⟩ := zIx_in _ _ q.2
    rw [q2, nI_tn (by omega), k2, nI_tn (by omega), zAnsK hC.2.2.2.2 hcnt hc k1, (zDo_as hPI k1 (by omega)).1, hR.2.2.2 _ l k1 (by omega)]
  · rw [if_neg q, if_neg q]
theorem zMx {a l q : Nat} : max a (a + l - q) = a + (l - q) := by omega
theorem zMx2 {a l q : Nat} : a + l - (a + (l - q)) = l - (l - q) := by omega
theorem e_val (hP : zPI B tn n nw lc t at0 ln le as) (hC : zCT f g n nw lc t at0 ln le mi sd) (hR : zRT g' n nw lc t at0 ln le mi sd) (hA : zAr (g' 16) as lc) {k w q : Nat} (hk : k < as.length) (hw : w < nw) : zHv (nI B).toInt64 (fun zi => zDg (g 1) n (g 5) (nI zi) (zPk 0 0 (as.getD k []))) (at0 w + ln w - max (at0 w) (at0 w + ln w - q)) (max (at0 w) (at0 w + ln w - q)) (lN 0) = zHv (nI B).toInt64 (fun zp => zMd (g' 1) (g' 6) (g' 16) lc k zp) (ln w - (ln w - q)) (at0 w + (ln w - q)) (lN 0) := by
  rw [zMx, zMx2]
  have := (hP.2.2.2.2.2.2.2.1 w hw).2.2.1
  exact zHv_congr _ _ _ (fun j q1 q2 => zDg_Md hP hC hR hA hk (by omega))
theorem e_side (hP : zPI B tn n nw lc t at0 ln le as) (hC : zCI f g B tn n nw lc tt t at0 ln le mi sd bar as) (hR : zRI f' g' B tn n nw lc tt t at0 ln le mi sd bar as) {cnt : Nat} (hcnt : cnt ≤ 1000) (hc : f (cond bar 22 24) = nI cnt) (ka s0 : Int32) : (if zKept as.length ka = true ∧ 0 ≤ s0.toInt ∧ s0.toInt ≤ 1 then zSv (zBh f g) (zTk g n) (fun k => zHv (nI B).toInt64 (fun zi => zDg (g 1) n (g 5) (nI zi) (zAt (nI 0) (cond bar (g 12) (g 13)) cnt ka)) (at0 k + ln k - max (at0 k) (at0 k + ln k - 8)) (max (at0 k) (at0 k + ln k - 8)) (lN 0)) (decide (s0 = nI 1)) nw 0 (lN 0) else -1) = (if zKept as.length ka = true ∧ 0 ≤ s0.toInt ∧ s0.toInt ≤ 1 then zSv sd mi (fun zw => zHv (nI B).toInt64 (fun zp => zMd (g' 1) (g' 6) (g' 16) lc ka.toInt.toNat zp) (ln zw - (ln zw - 8)) (at0 zw + (ln zw - 8)) (lN 0)) (decide (s0 = nI 1)) nw 0 (lN 0) else -1) := by
  by_cases q : zKept as.length ka = true ∧ 0 ≤ s0.toInt ∧ s0.toInt ≤ 1
  · rw [if_pos q, if_pos q]
    obtain ⟨k1, k2⟩ := zKept_lt q.1
    rw [k2, nI_tn (by have := hP.2.2.2.2.2.2.2.2.2.1; omega), zAnsK hC.2.2.2.2 hcnt hc k1]
    exact zSv_congr _ _ _ (fun w _ hw => ⟨(hC.2.2.1.2.1 w (by omega)).2.2.1, (hC.2.2.1.2.1 w (by omega)).2.2.2, e_val hP hC.2.2.1 hR.2.2.1 hR.2.2.2 k1 (by omega)⟩)
  · rw [if_neg q, if_neg q]
theorem e_carry (hP : zPI B tn n nw lc t at0 ln le as) (hC : zCI f g B tn n nw lc tt t at0 ln le mi sd bar as) (hR : zRI f' g' B tn n nw lc tt t at0 ln le mi sd bar as) {cnt : Nat} (hcnt : cnt ≤ 1000) (hc : f (cond bar 22 24) = nI cnt) (ka c : Int32) : (if zKept as.length ka = true ∧ 0 ≤ c.toInt ∧ c.toInt ≤ 8 ∧ zHc (zTk g n) (zBh f g) nw 0 0 = true then (zCv (zBh f g) (fun k => zHv (nI B).toInt64 (fun zi => zDg (g 1) n (g 5) (nI zi) (zAt (nI 0) (cond bar (g 12) (g 13)) cnt ka)) (at0 k + ln k - max (at0 k) (at0 k + ln k - (c.toInt.toNat + 1))) (max (at0 k) (at0 k + ln k - (c.toInt.toNat + 1))) (lN 0)) nw 0 (lN 0) / lN (B ^ (c.toInt.toNat + 1))).toInt32 else -1) = (if zKept as.length ka = true ∧ 0 ≤ c.toInt ∧ c.toInt ≤ 8 ∧ zHc mi sd nw 0 0 = true then (zDv (nI B).toInt64 (c.toInt.toNat + 1) (zCv sd (fun zw => zHv (nI B).toInt64 (fun zp => zMd (g' 1) (g' 6) (g' 16) lc ka.toInt.toNat zp) (ln zw - (ln zw - (c.toInt.toNat + 1))) (at0 zw + (ln zw - (c.toInt.toNat + 1))) (lN 0)) nw 0 (lN 0))).toInt32 else -1) := by
  rw [show zHc (zTk g n) (zBh f g) nw 0 0 = zHc mi sd nw 0 0 from zHc_congr _ _ _ (fun w _ hw => ⟨(hC.2.2.1.2.1 w (by omega)).2.2.1, (hC.2.2.1.2.1 w (by omega)).2.2.2⟩)]
  by_cases q : zKept as.length ka = true ∧ 0 ≤ c.toInt ∧ c.toInt ≤ 8 ∧ zHc mi sd nw 0 0 = true
  · rw [if_pos q, if_pos q]
    obtain ⟨k1, k2⟩ := zKept_lt q.1
    have hB1 := hP.1
    have hB2 := hP.2.1
    have hnw := hP.2.2.2.2.1
    rw [k2, nI_tn (by have := hP.2.2.2.2.2.2.2.2.2.1; omega), zAnsK hC.2.2.2.2 hcnt hc k1]
    rw [zCv_congr (bh2 := sd) (E2 := fun zw => zHv (nI B).toInt64 (fun zp => zMd (g' 1) (g' 6) (g' 16) lc ka.toInt.toNat zp) (ln zw - (ln zw - (c.toInt.toNat + 1))) (at0 zw + (ln zw - (c.toInt.toNat + 1))) (lN 0)) _ _ _ (fun w _ hw => ⟨(hC.2.2.1.2.1 w (by omega)).2.2.1, e_val hP hC.2.2.1 hR.2.2.1 hR.2.2.2 k1 (by omega)⟩)]
    have hx : ∀ w, w < nw → ∃ N, zHv (nI B).toInt64 (fun zp => zMd (g' 1) (g' 6) (g' 16) lc ka.toInt.toNat zp) (ln w - (ln w - (c.toInt.toNat + 1))) (at0 w + (ln w - (c.toInt.toNat + 1))) (lN 0) = lN N ∧ N < 100000000 := by
      intro w hw
      obtain ⟨a1, a2, a3, _⟩ := hP.2.2.2.2.2.2.2.1 w hw
      have hd : ∀ j, at0 w + (ln w - (c.toInt.toNat + 1)) ≤ j → j < at0 w + (ln w - (c.toInt.toNat + 1)) + (ln w - (ln w - (c.toInt.toNat + 1))) → zMd (g' 1) (g' 6) (g' 16) lc ka.toInt.toNat j = nI (zMd (g' 1) (g' 6) (g' 16) lc ka.toInt.toNat j).toInt.toNat ∧ (zMd (g' 1) (g' 6) (g' 16) lc ka.toInt.toNat j).toInt.toNat ≤ 9 := by
        intro j j1 j2
        obtain ⟨N, hN, e⟩ := zMd_n hP hR.2.2.1 hR.2.2.2 k1 hw (p := j) (by omega) (by omega)
        rw [e, nI_tn (by omega)]
        exact ⟨rfl, hN⟩
      refine ⟨_, zHv_n hB2 _ _ 0 hd, ?_⟩
      have h1 := zHn_le hB2 (N := fun j => (zMd (g' 1) (g' 6) (g' 16) lc ka.toInt.toNat j).toInt.toNat) (ln w - (ln w - (c.toInt.toNat + 1))) (at0 w + (ln w - (c.toInt.toNat + 1))) 0 (fun j q1 q2 => (hd j q1 q2).2)
      have h2 : 10 ^ (ln w - (ln w - (c.toInt.toNat + 1))) ≤ 10 ^ 8 := Nat.pow_le_pow_right (by decide) (by omega)
      omega
    obtain ⟨e1, e2⟩ := zCv_n (bh := sd) (E := fun zw => zHv (nI B).toInt64 (fun zp => zMd (g' 1) (g' 6) (g' 16) lc ka.toInt.toNat zp) (ln zw - (ln zw - (c.toInt.toNat + 1))) (at0 zw + (ln zw - (c.toInt.toNat + 1))) (lN 0)) (N := fun w => if h : w < nw then (hx w h).choose else 0) nw 0 0 (fun w _ hw => by
      have hw : w < nw := by omega
      rw [dif_pos hw]
      exact (hx w hw).choose_spec)
    rw [e1, zDv_n (by omega) hB2 _ _ (by omega)]
    have hp := zPow (B := B) (c := c.toInt.toNat + 1) (by omega) hB2 (by omega)
    rw [pk_lDiv (by omega) hp.1 (by omega)]
  · rw [if_neg q, if_neg q]
theorem e_text (hP : zPI B tn n nw lc t at0 ln le as) (hC : zCI f g B tn n nw lc tt t at0 ln le mi sd bar as) (hR : zRI f' g' B tn n nw lc tt t at0 ln le mi sd bar as) {cnt : Nat} (hcnt : cnt ≤ 1000) (hc : f (cond bar 22 24) = nI cnt) (ka i : Int32) : zTx (zKept as.length ka) (zLet (zAt (-1) (g 1) n i)) (zAt (-1) (g 1) n i) (zDg (g 1) n (g 5) i (zAt (nI 0) (cond bar (g 12) (g 13)) cnt ka)) = zTx (zKept as.length ka) (zLet (zAt (-1) (g' 1) n i)) (zAt (-1) (g' 1) n i) (zMd (g' 1) (g' 6) (g' 16) lc ka.toInt.toNat i.toInt.toNat) := by
  rw [zAt_congr (F := g 1) (G := g' 1) (fun j hj => by rw [hC.2.2.1.1 j hj, hR.2.2.1.1 j hj]) i]
  by_cases q : zKept as.length ka = true
  · by_cases q2 : 0 ≤ i.toInt ∧ i.toInt < n
    · obtain ⟨k1, k2⟩ := zKept_lt q
      have hn := hP.2.2.2.1
      have hi : i = nI i.toInt.toNat := by
        apply Int32.toInt_inj.mp
        rw [nI_toInt (by omega)]
        omega
      congr 1
      rw [k2, nI_tn (by have := hP.2.2.2.2.2.2.2.2.2.1; omega), zAnsK hC.2.2.2.2 hcnt hc k1]
      conv => lhs; rw [hi]
      exact zDg_Md hP hC.2.2.1 hR.2.2.1 hR.2.2.2 k1 (by omega)
    · have e : zAt (-1) (g' 1) n i = -1 := by unfold zAt; rw [if_neg q2]
      rw [e, show zLet (-1) = false by decide]
      rfl
  · have q : zKept as.length ka = false := by simpa using q
    rw [q]
    rfl
theorem e_fixed (hP : zPI B tn n nw lc t at0 ln le as) (hC : zCI f g B tn n nw lc tt t at0 ln le mi sd bar as) (hR : zRI f' g' B tn n nw lc tt t at0 ln le mi sd bar as) {cnt : Nat} (hcnt : cnt ≤ 1000) (hc : f (cond bar 22 24) = nI cnt) : (if as.length = 0 then nI 0 else nI (zFx (fun e0 => zSm (fun k => zDo (zAt (nI 0) (cond bar (g 12) (g 13)) cnt (nI k)) (nI e0)) (as.length - 1) 1) lc 0 0)) = (if as.length = 0 then nI 0 else nI (zFx (fun e0 => zSm2 (fun k => g' 16 (8 * k + e0)) (as.length - 1) 1 true) lc 0 0)) := by
  by_cases q : as.length = 0
  · rw [if_pos q, if_pos q]
  · rw [if_neg q, if_neg q]
    congr 1
    refine zFx_congr _ _ _ (fun l _ hl => ?_)
    have key : ∀ k, k < as.length → zDo (zAt (nI 0) (cond bar (g 12) (g 13)) cnt (nI k)) (nI l) = g' 16 (8 * k + l) := fun k hk => by
      rw [zAnsK hC.2.2.2.2 hcnt hc hk, (zDo_as hP hk (by omega)).1, hR.2.2.2 k l hk (by omega)]
    exact zSm_tie (key 0 (by omega)) _ _ (fun k _ hk => key k (by omega))
end ZI
