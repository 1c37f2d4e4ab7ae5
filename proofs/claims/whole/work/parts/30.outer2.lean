/-! what the search for all answers leaves of the object -/
def zKo (bar : Bool) (f f2 : Nat → Int32) : Prop := ∀ j, (j < 14 ∨ j = 18 ∨ (bar = true ∧ (j = 24 ∨ j = 25)) ∨ (bar = false ∧ (j = 22 ∨ j = 23))) → f2 j = f j
def zKgo (bar : Bool) (g g2 : Nat → Nat → Int32) : Prop := ∀ j, (j < 6 ∨ (bar = true ∧ j = 13) ∨ (bar = false ∧ j = 12)) → g2 j = g j
def zAA (bar : Bool) (PP : List Int32) (f : Nat → Int32) (g : Nat → Nat → Int32) (f2 : Nat → Int32) (g2 : Nat → Nat → Int32) : Prop :=
  zKo bar f f2 ∧ zKgo bar g g2 ∧ f2 (cond bar 22 24) = nI PP.length ∧ f2 (cond bar 23 25) = nI 1 ∧ zIs (cond bar (g2 12) (g2 13)) PP
theorem WO_kp {a : Nat → Nat} {f f2 : Nat → Int32} (h : zKp f f2) : WO a f2 = WO a f := by
  unfold WO
  rw [h 0 (by omega), h 1 (by omega), h 2 (by omega)]
theorem WO_kp2 {a : Nat → Nat} {f f3 : Nat → Int32} (h : zKp (swF f) f3) : WO a (swF f3) = WO a f := by
  unfold WO
  rw [show swF f3 0 = f 0 from h 0 (by omega), show swF f3 1 = f 1 from h 1 (by omega), show swF f3 2 = f 2 from h 2 (by omega)]
theorem zAA_t {PP : List Int32} {f f2 : Nat → Int32} {g g2 : Nat → Nat → Int32} (h1 : zKp f f2) (h2 : zKg g g2) (h3 : f2 22 = nI PP.length) (h4 : zIs (g2 12) PP) : zAA true PP f g (upd f2 23 (nI 1)) g2 := by
  refine ⟨fun j hj => ?_, fun j hj => ?_, h3, rfl, h4⟩
  · have hj : j < 14 ∨ j = 18 ∨ j = 24 ∨ j = 25 := by simpa using hj
    rw [pk_un (by omega)]
    exact h1 j (by omega)
  · have hj : j < 6 ∨ j = 13 := by simpa using hj
    exact h2 j (by omega)
theorem swJ_in {j : Nat} (hj : j < 14 ∨ j = 18 ∨ j = 22 ∨ j = 23) : swJ j < 14 ∨ swJ j = 18 ∨ 24 ≤ swJ j := by
  unfold swJ
  repeat' split
  all_goals omega
theorem swK_in {j : Nat} (hj : j < 6 ∨ j = 12) : swK j < 6 ∨ 13 ≤ swK j := by
  unfold swK
  repeat' split
  all_goals omega
theorem zAA_f {PP : List Int32} {f f3 : Nat → Int32} {g g3 : Nat → Nat → Int32} (h1 : zKp (swF f) f3) (h2 : zKg (swG g) g3) (h3 : f3 22 = nI PP.length) (h4 : zIs (g3 12) PP) : zAA false PP f g (upd (swF f3) 25 (nI 1)) (swG g3) := by
  refine ⟨fun j hj => ?_, fun j hj => ?_, h3, rfl, h4⟩
  · have hj : j < 14 ∨ j = 18 ∨ j = 22 ∨ j = 23 := by simpa using hj
    rw [pk_un (by omega)]
    show f3 (swJ j) = f j
    rw [h1 (swJ j) (swJ_in hj)]
    show f (swJ (swJ j)) = f j
    rw [swJ2]
  · have hj : j < 6 ∨ j = 12 := by simpa using hj
    show g3 (swK j) = g j
    rw [h2 (swK j) (swK_in hj)]
    show g (swK (swK j)) = g j
    rw [swK2]
theorem zMinI {m k : Nat} (hm : m ≤ 1000) (hk : k ≤ 1000) : (if nI k < nI m then nI k else nI m) = nI (min m k) := by
  by_cases h : k < m
  · rw [if_pos (nI_lt h (by omega)), Nat.min_eq_right (by omega)]
  · rw [if_neg (nI_nlt (by omega) (by omega)), Nat.min_eq_left (by omega)]
theorem zMost {x : Int32} (h1 : ¬ x < 0) (h2 : x ≤ nI 1000) : ∃ m, m ≤ 1000 ∧ x = nI m := nI_of2 (M := nI 1000) (n := 1000) (by decide) h1 h2
theorem zMostF {x : Int32} (h : x < 0 ∨ ¬ x ≤ nI 1000) : ¬ (0 ≤ x.toInt ∧ x.toInt ≤ 1000) := by
  rw [Int32.lt_iff_toInt_lt, Int32.le_iff_toInt_le, nI_toInt (by decide)] at h
  have h0 : (0 : Int32).toInt = 0 := by decide
  omega
theorem zMostT {m : Nat} (h : m ≤ 1000) : 0 ≤ (nI m).toInt ∧ (nI m).toInt ≤ 1000 := by
  rw [nI_toInt (by omega)]
  omega
theorem zPP_le (b : Bool) (L : List Int32) : (zPP b (L.take 1000)).length ≤ 1000 := by
  unfold zPP
  split
  · decide
  · exact List.length_take_le _ _
theorem zSwF (f : Nat → Int32) {x y : Int32} : swF (upd (upd (swF f) 22 x) 23 y) = upd (upd f 24 x) 25 y := by
  funext j
  show upd (upd (swF f) 22 x) 23 y (swJ j) = _
  unfold upd
  by_cases h1 : j = 25
  · subst h1; rfl
  · by_cases h2 : j = 24
    · subst h2; rfl
    · have e1 : ¬ swJ j = 23 := fun e => h1 (by rw [← swJ2 j, e]; rfl)
      have e2 : ¬ swJ j = 22 := fun e => h2 (by rw [← swJ2 j, e]; rfl)
      rw [if_neg e1, if_neg e2, if_neg h1, if_neg h2]
      show f (swJ (swJ j)) = f j
      rw [swJ2]
theorem zSwG (g : Nat → Nat → Int32) : swG (swG g) = g := by
  funext j
  show g (swK (swK j)) = g j
  rw [swK2]
