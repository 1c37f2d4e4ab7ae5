/-! THE TWO TOGETHER: letters and words, as the class lists them and as the reference does -/
theorem zIx_none {F : Nat → Int32} {c : Int32} : ∀ (m k : Nat), (∀ l, k ≤ l → l < k + m → F l ≠ c) → zIx F c m k = -1 := by
  intro m
  induction m with
  | zero => intro k _; rfl
  | succ m ih =>
    intro k h
    simp only [zIx]
    rw [if_neg (h k (Nat.le_refl _) (by omega))]
    exact ih (k + 1) (fun l h1 h2 => h l (by omega) (by omega))
theorem zIx_congr {F G : Nat → Int32} {c : Int32} : ∀ (m k : Nat), (∀ l, k ≤ l → l < k + m → F l = G l) → zIx F c m k = zIx G c m k := by
  intro m
  induction m with
  | zero => intro k _; rfl
  | succ m ih =>
    intro k h
    simp only [zIx]
    rw [h k (Nat.le_refl _) (by omega), ih (k + 1) (fun l h1 h2 => h l (by omega) (by omega))]
theorem zIx_last {F : Nat → Int32} {c : Int32} : ∀ (m k : Nat), (∀ l, k ≤ l → l < k + m → F l ≠ c) → F (k + m) = c → zIx F c (m + 1) k = nI (k + m) := by
  intro m
  induction m with
  | zero =>
    intro k _ h
    have h : F k = c := h
    simp only [zIx]
    rw [if_pos h]
    rfl
  | succ m ih =>
    intro k h1 h2
    rw [show zIx F c (m + 1 + 1) k = if F k = c then nI k else zIx F c (m + 1) (k + 1) from rfl, if_neg (h1 k (Nat.le_refl _) (by omega)), ih (k + 1) (fun l q1 q2 => h1 l (by omega) (by omega)) (by rw [show k + 1 + m = k + (m + 1) by omega]; exact h2)]
    congr 1
    omega
theorem zIx_more {F : Nat → Int32} {c : Int32} : ∀ (m k : Nat), F (k + m) ≠ c → zIx F c (m + 1) k = zIx F c m k := by
  intro m
  induction m with
  | zero =>
    intro k h
    have h : ¬ F k = c := h
    simp only [zIx]
    rw [if_neg h]
  | succ m ih =>
    intro k h
    rw [show zIx F c (m + 1 + 1) k = if F k = c then nI k else zIx F c (m + 1) (k + 1) from rfl, show zIx F c (m + 1) k = if F k = c then nI k else zIx F c m (k + 1) from rfl, ih (k + 1) (by rw [show k + 1 + m = k + (m + 1) by omega]; exact h)]
theorem zIx_hit {F : Nat → Int32} {c : Int32} : ∀ (m k l : Nat), k ≤ l → l < k + m → k + m < 2 ^ 31 → F l = c → ¬ zIx F c m k = -1 := by
  intro m
  induction m with
  | zero => intro k l h1 h2; omega
  | succ m ih =>
    intro k l h1 h2 h3 h4
    simp only [zIx]
    by_cases e : F k = c
    · rw [if_pos e]
      exact nI_nem1 (by omega)
    · rw [if_neg e]
      have hne : k ≠ l := fun q => e (by rw [q]; exact h4)
      exact ih (k + 1) l (by omega) (by omega) (by omega) h4
def zLa (le : Nat → Nat) : Nat → Int32 := fun l => nI (97 + le l)
theorem zLa_ne {le : Nat → Nat} {l i : Nat} (h1 : le l < 26) (h2 : i < 26) (h : le l ≠ i) : zLa le l ≠ nI (97 + i) := by
  intro q
  have := (nI_eq (a := 97 + le l) (b := 97 + i) (by omega) (by omega)).mp q
  omega
theorem zCn26 {sn i : Nat} (hp : zPc sn ≤ 8) (hi : i ≤ 26) : zCn sn i ≤ 8 := by
  have h1 := zCn_le sn i (32 - i)
  rw [show i + (32 - i) = 32 by omega] at h1
  have h2 : zCn sn 32 = zPc sn := rfl
  omega
/-- letters: the class's two tables, the reference's one -/
theorem zLl_tie {sn : Nat} (hp : zPc sn ≤ 8) : ∀ (k i : Nat) (le : Nat → Nat) (B4 S5 : Nat → Int32), i + k = 26 → (∀ l, l < zCn sn i → B4 l = zLa le l) → (∀ l, l < zCn sn i → le l < i) → (∀ j, j < i → S5 j = zIx (zLa le) (nI (97 + j)) (zCn sn i) 0) → (∀ j, j < i → sn.testBit j = true → ∃ l, l < zCn sn i ∧ le l = j) →
    (zLl sn k i (zCn sn i) B4 S5).1 = (zLn sn k i (zCn sn i) le).1 ∧ (zLn sn k i (zCn sn i) le).1 ≤ 8 ∧ (∀ l, l < (zLn sn k i (zCn sn i) le).1 → (zLl sn k i (zCn sn i) B4 S5).2.1 l = zLa (zLn sn k i (zCn sn i) le).2 l ∧ (zLn sn k i (zCn sn i) le).2 l < 26) ∧ (∀ j, j < 26 → (zLl sn k i (zCn sn i) B4 S5).2.2 j = zIx (zLa (zLn sn k i (zCn sn i) le).2) (nI (97 + j)) (zLn sn k i (zCn sn i) le).1 0) ∧ (∀ j, j < 26 → sn.testBit j = true → ∃ l, l < (zLn sn k i (zCn sn i) le).1 ∧ (zLn sn k i (zCn sn i) le).2 l = j) := by
  intro k
  induction k with
  | zero =>
    intro i le B4 S5 hi h1 h2 h3 h4
    obtain rfl : i = 26 := by omega
    simp only [zLl, zLn]
    exact ⟨trivial, zCn26 hp (Nat.le_refl _), fun l hl => ⟨h1 l hl, h2 l hl⟩, h3, h4⟩
  | succ k ih =>
    intro i le B4 S5 hi h1 h2 h3 h4
    by_cases hb : sn.testBit i = true
    · have hlt := zCn_lt hp (by omega) hb
      have e : zCn sn i + 1 = zCn sn (i + 1) := by rw [zCn_S, hb]; rfl
      have hne : ∀ l, 0 ≤ l → l < 0 + zCn sn i → zLa (upN le (zCn sn i) i) l ≠ nI (97 + i) := fun l _ hl => zLa_ne (by rw [upN_o _ _ (by omega)]; have := h2 l (by omega); omega) (by omega) (by rw [upN_o _ _ (by omega)]; have := h2 l (by omega); omega)
      have hla : zLa (upN le (zCn sn i) i) (zCn sn i) = nI (97 + i) := by unfold zLa; rw [upN_s]
      have hag : ∀ l, 0 ≤ l → l < 0 + zCn sn i → zLa le l = zLa (upN le (zCn sn i) i) l := fun l _ hl => by unfold zLa; rw [upN_o _ _ (by omega)]
      rw [show zLl sn (k + 1) i (zCn sn i) B4 S5 = zLl sn k (i + 1) (zCn sn i + 1) (upd B4 (zCn sn i) (nI (97 + i))) (upd (upd S5 i (-1)) i (nI (zCn sn i))) from if_pos (by rw [hb, decide_eq_true hlt]; rfl), show zLn sn (k + 1) i (zCn sn i) le = zLn sn k (i + 1) (zCn sn i + 1) (upN le (zCn sn i) i) from if_pos hb]
      rw [e]
      refine ih (i + 1) _ _ _ (by omega) (fun l hl => ?_) (fun l hl => ?_) (fun j hj => ?_) (fun j hj hbj => ?_)
      · by_cases q : l = zCn sn i
        · rw [q, pk_us, hla]
        · rw [pk_un q, h1 l (by omega)]
          exact hag l (by omega) (by omega)
      · by_cases q : l = zCn sn i
        · rw [q, upN_s]; omega
        · rw [upN_o _ _ q]; have := h2 l (by omega); omega
      · rw [← e]
        by_cases q : j = i
        · rw [q, pk_us, zIx_last (zCn sn i) 0 hne (by rw [Nat.zero_add]; exact hla), Nat.zero_add]
        · rw [pk_un q, pk_un q, h3 j (by omega), zIx_more (zCn sn i) 0 (by rw [Nat.zero_add, hla]; intro w; have := (nI_eq (a := 97 + i) (b := 97 + j) (by omega) (by omega)).mp w; omega)]
          exact zIx_congr _ _ hag
      · by_cases q : j = i
        · exact ⟨zCn sn i, by omega, by rw [upN_s, q]⟩
        · obtain ⟨l, q1, q2⟩ := h4 j (by omega) hbj
          exact ⟨l, by omega, by rw [upN_o _ _ (by omega)]; exact q2⟩
    · have hb : sn.testBit i = false := by simpa using hb
      have e : zCn sn i = zCn sn (i + 1) := by rw [zCn_S, hb]; rfl
      rw [show zLl sn (k + 1) i (zCn sn i) B4 S5 = zLl sn k (i + 1) (zCn sn i) B4 (upd S5 i (-1)) from if_neg (by rw [hb]; exact Bool.false_ne_true), show zLn sn (k + 1) i (zCn sn i) le = zLn sn k (i + 1) (zCn sn i) le from if_neg (by rw [hb]; decide)]
      rw [e] at h1 h2 h3 h4 ⊢
      refine ih (i + 1) _ _ _ (by omega) h1 (fun l hl => by have := h2 l hl; omega) (fun j hj => ?_) (fun j hj hbj => ?_)
      · by_cases q : j = i
        · rw [q, pk_us]
          exact (zIx_none _ _ (fun l _ hl => zLa_ne (by have := h2 l (by omega); omega) (by omega) (by have := h2 l (by omega); omega))).symm
        · rw [pk_un q]
          exact h3 j (by omega)
      · by_cases q : j = i
        · rw [q, hb] at hbj; cases hbj
        · exact h4 j (by omega) hbj
/-- words: what the class has of them so far, and what the reference has -/
def zWt (B : Nat) (t : Nat → Nat) (i w sg : Nat) (bh : Bool) (at0 ln : Nat → Nat) (mi sd : Nat → Bool) (SA SE : Nat → Int32) (q : Int32) : Prop :=
  (∀ j, j < w → SA j = nI (at0 j) ∧ SE j = nI (at0 j + ln j) ∧ 1 ≤ ln j ∧ ln j ≤ 8 ∧ at0 j + ln j ≤ i ∧ mi j = zM0 t (at0 j) ∧ sd j = (bh && decide (q < nI (at0 j))) ∧ ∀ p, at0 j ≤ p → p < at0 j + ln j → zIsS B (t p) = true) ∧ (0 < sg → 1 ≤ w ∧ ln (w - 1) = sg ∧ at0 (w - 1) + sg = i) ∧ (bh = true → ∃ qn, q = nI qn ∧ qn < i) ∧ w ≤ 8
theorem zSgn_not {B u : Nat} (hB : B ≤ 10) (h : zSgn u = true) (h2 : zIsS B u = false) {w sg sn : Nat} {bh : Bool} : (gStep B w sg sn bh u).1 = false := by
  refine gs_n1 hB h2 ?_
  unfold zSgn at h
  simp at h
  omega
theorem zLw_tie {B : Nat} (hB : B ≤ 10) {t : Nat → Nat} : ∀ (k i w sg sn : Nat) (bh : Bool) (at0 ln : Nat → Nat) (mi sd : Nat → Bool) (SA SE : Nat → Int32) (q : Int32), i + k ≤ 80 → gRun B t k i w sg sn bh = -1 → zWt B t i w sg bh at0 ln mi sd SA SE q →
    (zLw t k i w SA SE q (decide (0 < sg))).1 = (zRk t k i w sg bh at0 ln mi sd).1 ∧ zWt B t (i + k) (zRk t k i w sg bh at0 ln mi sd).1 0 true (zRk t k i w sg bh at0 ln mi sd).2.1 (zRk t k i w sg bh at0 ln mi sd).2.2.1 (zRk t k i w sg bh at0 ln mi sd).2.2.2.1 (zRk t k i w sg bh at0 ln mi sd).2.2.2.2 (zLw t k i w SA SE q (decide (0 < sg))).2.1 (zLw t k i w SA SE q (decide (0 < sg))).2.2.1 (zLw t k i w SA SE q (decide (0 < sg))).2.2.2 := by
  intro k
  induction k with
  | zero =>
    intro i w sg sn bh at0 ln mi sd SA SE q hi hR hW
    simp only [gRun] at hR
    by_cases hc : (bh && decide (0 < sg)) = true
    · simp only [zLw, zRk]
      have hb : bh = true := by revert hc; cases bh <;> simp
      subst hb
      refine ⟨trivial, ?_, fun h => by omega, hW.2.2.1, hW.2.2.2⟩
      rw [Nat.add_zero]
      exact hW.1
    · rw [if_neg hc] at hR
      exact absurd hR (nI_nem1 (by omega))
  | succ k ih =>
    intro i w sg sn bh at0 ln mi sd SA SE q hi hR hW
    obtain ⟨h1, h2, h3, h8⟩ := hW
    simp only [gRun] at hR
    by_cases hc : (gStep B w sg sn bh (t i)).1 = true
    · rw [if_pos hc] at hR
      simp only [zLw, zRk]
      by_cases hs : zSgn (t i) = true
      · have hS : zIsS B (t i) = true := by
          cases e : zIsS B (t i) with
          | true => rfl
          | false => rw [zSgn_not hB hs e] at hc; cases hc
        have h61 : ¬ t i = 61 := by
          intro e
          rw [e] at hs
          revert hs
          decide
        have lim : (if sg = 0 then w + 1 else w) ≤ 8 ∧ sg + 1 ≤ 8 := by
          by_cases q1 : 8 < (if sg = 0 then w + 1 else w) ∨ 8 < sg + 1
          · rw [gs_fail hB hS q1] at hc; cases hc
          · constructor
            · exact Nat.not_lt.mp (fun q => q1 (Or.inl q))
            · exact Nat.not_lt.mp (fun q => q1 (Or.inr q))
        have st : (gStep B w sg sn bh (t i)).2.1 = (if sg = 0 then w + 1 else w) ∧ (gStep B w sg sn bh (t i)).2.2.1 = sg + 1 ∧ (gStep B w sg sn bh (t i)).2.2.2.2 = bh := by
          revert hc
          unfold gStep gSign
          by_cases c1 : 97 ≤ t i ∧ t i ≤ 122
          · rw [if_pos c1]
            by_cases c2 : zPc (sn ||| 2 ^ (t i - 97)) ≤ 8
            · rw [if_pos c2]; exact fun _ => ⟨rfl, rfl, rfl⟩
            · rw [if_neg c2]; exact fun q => absurd q Bool.false_ne_true
          · rw [if_neg c1]
            by_cases c2 : 48 ≤ t i ∧ t i ≤ 57
            · rw [if_pos c2]
              by_cases c3 : t i - 48 < B
              · rw [if_pos c3]; exact fun _ => ⟨rfl, rfl, rfl⟩
              · rw [if_neg c3]; exact fun q => absurd q Bool.false_ne_true
            · exfalso
              unfold zSgn at hs
              simp at hs
              omega
        rw [st.1, st.2.1, st.2.2] at hR
        rw [if_pos hs, hs, show zLwQ i (t i) q = q from if_neg h61]
        by_cases hg : sg = 0
        · subst hg
          rw [if_pos rfl] at hR lim ⊢
          have hst : zStt (t i) w (decide (0 < 0)) = true := zStT hs rfl (by omega)
          have eW : zLwW (t i) w (decide (0 < 0)) = w + 1 := if_pos hst
          rw [eW, show zLwA i (t i) w (decide (0 < 0)) SA = upd SA w (nI i) from if_pos hst, show zLwE i (t i) w (decide (0 < 0)) SE = upd SE w (nI (i + 1)) by unfold zLwE; rw [eW, hs, decide_eq_true (by omega), Bool.and_self, if_pos rfl, Nat.add_sub_cancel], show true = decide (0 < 0 + 1) from rfl]
          have := ih (i + 1) (w + 1) (0 + 1) _ bh (upN at0 w i) (upN ln w 1) (upN mi w (zM0 t i)) (upN sd w bh) (upd SA w (nI i)) (upd SE w (nI (i + 1))) q (by omega) hR ?_
          · rw [show i + 1 + k = i + (k + 1) by omega] at this
            exact this
          · refine ⟨fun j hj => ?_, fun _ => ⟨by omega, by rw [Nat.add_sub_cancel, upN_s], by rw [Nat.add_sub_cancel, upN_s]⟩, fun hb => ?_, by omega⟩
            · by_cases e : j = w
              · subst e
                rw [pk_us, pk_us, upN_s, upN_s, upN_s, upN_s]
                refine ⟨rfl, rfl, by omega, by omega, by omega, rfl, ?_, fun p q1 q2 => ?_⟩
                · cases hb : bh with
                  | false => rfl
                  | true =>
                    obtain ⟨qn, rfl, hqn⟩ := h3 hb
                    rw [decide_eq_true (nI_lt hqn (by omega))]
                    rfl
                · rw [show p = i by omega]; exact hS
              · rw [pk_un e, pk_un e, upN_o _ _ e, upN_o _ _ e, upN_o _ _ e, upN_o _ _ e]
                obtain ⟨a1, a2, a3, a4, a5, a6, a7, a8⟩ := h1 j (by omega)
                exact ⟨a1, a2, a3, a4, by omega, a6, a7, a8⟩
            · obtain ⟨qn, e, hqn⟩ := h3 hb
              exact ⟨qn, e, by omega⟩
        · rw [if_neg hg] at hR lim ⊢
          obtain ⟨g1, g2, g3⟩ := h2 (by omega)
          have hst : ¬ zStt (t i) w (decide (0 < sg)) = true := zStF2 (decide_eq_true (by omega))
          have eW : zLwW (t i) w (decide (0 < sg)) = w := if_neg hst
          rw [eW, show zLwA i (t i) w (decide (0 < sg)) SA = SA from if_neg hst, show zLwE i (t i) w (decide (0 < sg)) SE = upd SE (w - 1) (nI (i + 1)) by unfold zLwE; rw [eW, hs, decide_eq_true (p := 0 < w) (by omega)]; rfl, show true = decide (0 < sg + 1) from (decide_eq_true (by omega)).symm]
          have := ih (i + 1) w (sg + 1) _ bh at0 (upN ln (w - 1) (sg + 1)) mi sd SA (upd SE (w - 1) (nI (i + 1))) q (by omega) hR ?_
          · rw [show i + 1 + k = i + (k + 1) by omega] at this
            exact this
          · refine ⟨fun j hj => ?_, fun _ => ⟨g1, upN_s _ _ _, by omega⟩, fun hb => ?_, h8⟩
            · obtain ⟨a1, a2, a3, a4, a5, a6, a7, a8⟩ := h1 j hj
              by_cases e : j = w - 1
              · subst e
                rw [pk_us, upN_s]
                refine ⟨a1, by congr 1; omega, by omega, by omega, by omega, a6, a7, fun p q1 q2 => ?_⟩
                by_cases e2 : p = i
                · rw [e2]; exact hS
                · exact a8 p q1 (by omega)
              · rw [pk_un e, upN_o _ _ e]
                exact ⟨a1, a2, a3, a4, by omega, a6, a7, a8⟩
            · obtain ⟨qn, e, hqn⟩ := h3 hb
              exact ⟨qn, e, by omega⟩
      · have hs : zSgn (t i) = false := by simpa using hs
        rw [if_neg (by rw [hs]; decide), hs]
        have hst : ¬ zStt (t i) w (decide (0 < sg)) = true := zStF1 hs
        rw [show zLwW (t i) w (decide (0 < sg)) = w from if_neg hst, show zLwA i (t i) w (decide (0 < sg)) SA = SA from if_neg hst, show zLwE i (t i) w (decide (0 < sg)) SE = SE by unfold zLwE; rw [hs, Bool.false_and]; rfl, show false = decide (0 < 0) from rfl]
        have st : (gStep B w sg sn bh (t i)).2.1 = w ∧ (gStep B w sg sn bh (t i)).2.2.1 = 0 ∧ (gStep B w sg sn bh (t i)).2.2.2.2 = (bh || decide (t i = 61)) ∧ (t i = 61 → bh = false) := by
          revert hc
          unfold zSgn at hs
          simp only [Bool.or_eq_false_iff, Bool.and_eq_false_iff, decide_eq_false_iff_not] at hs
          unfold gStep gEnd
          rw [if_neg (by omega), if_neg (by omega)]
          by_cases c3 : t i = 61
          · rw [if_pos c3]
            cases bh with
            | true => exact fun q => absurd q Bool.false_ne_true
            | false => exact fun _ => ⟨rfl, rfl, by rw [c3]; rfl, fun _ => rfl⟩
          · rw [if_neg c3]
            by_cases c4 : t i = 43 ∨ t i = 45
            · rw [if_pos c4]
              exact fun _ => ⟨rfl, rfl, by rw [decide_eq_false c3, Bool.or_false], fun q => absurd q c3⟩
            · rw [if_neg c4]
              exact fun q => absurd q Bool.false_ne_true
        rw [st.1, st.2.1, st.2.2.1] at hR
        have := ih (i + 1) w 0 _ (bh || decide (t i = 61)) at0 ln mi sd SA SE (zLwQ i (t i) q) (by omega) hR ?_
        · rw [show i + 1 + k = i + (k + 1) by omega] at this
          exact this
        · by_cases c3 : t i = 61
          · rw [show zLwQ i (t i) q = nI i from if_pos c3, decide_eq_true c3, Bool.or_true]
            refine ⟨fun j hj => ?_, fun h => by omega, fun _ => ⟨i, rfl, by omega⟩, h8⟩
            obtain ⟨a1, a2, a3, a4, a5, a6, a7, a8⟩ := h1 j hj
            refine ⟨a1, a2, a3, a4, by omega, a6, ?_, a8⟩
            rw [a7, st.2.2.2 c3, Bool.false_and, decide_eq_false (nI_nlt (by omega) (by omega))]
            rfl
          · rw [show zLwQ i (t i) q = q from if_neg c3, decide_eq_false c3, Bool.or_false]
            refine ⟨fun j hj => ?_, fun h => by omega, fun hb => ?_, h8⟩
            · obtain ⟨a1, a2, a3, a4, a5, a6, a7, a8⟩ := h1 j hj
              exact ⟨a1, a2, a3, a4, by omega, a6, a7, a8⟩
            · obtain ⟨qn, e, hqn⟩ := h3 hb
              exact ⟨qn, e, by omega⟩
    · rw [if_neg hc] at hR
      exact absurd hR (nI_nem1 (by omega))
theorem zSn_mono {t : Nat → Nat} {b : Nat} : ∀ (k i sn : Nat), sn.testBit b = true → (zSn t k i sn).testBit b = true := by
  intro k
  induction k with
  | zero => intro i sn h; exact h
  | succ k ih =>
    intro i sn h
    simp only [zSn]
    refine ih _ _ ?_
    split
    · rw [Nat.testBit_or, h, Bool.true_or]
    · exact h
theorem zSn_has {t : Nat → Nat} {p : Nat} (hp : 97 ≤ t p ∧ t p ≤ 122) : ∀ (k i sn : Nat), i ≤ p → p < i + k → (zSn t k i sn).testBit (t p - 97) = true := by
  intro k
  induction k with
  | zero => intro i sn h1 h2; omega
  | succ k ih =>
    intro i sn h1 h2
    simp only [zSn]
    by_cases e : i = p
    · subst e
      rw [if_pos hp]
      refine zSn_mono _ _ _ ?_
      rw [Nat.testBit_or, Nat.testBit_two_pow_self, Bool.or_true]
    · exact ih _ _ (by omega) (by omega)
