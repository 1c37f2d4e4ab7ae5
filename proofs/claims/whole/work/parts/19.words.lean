/-! the words and letters of a text, as the class lists them -/
def zSgn (u : Nat) : Bool := (decide (97 ≤ u) && decide (u ≤ 122)) || (decide (48 ≤ u) && decide (u ≤ 57))
def zStt (u w : Nat) (ins : Bool) : Bool := zSgn u && !ins && decide (w < 8)
def zLwW (u w : Nat) (ins : Bool) : Nat := if zStt u w ins = true then w + 1 else w
def zLwA (i u w : Nat) (ins : Bool) (SA : Nat → Int32) : Nat → Int32 := if zStt u w ins = true then upd SA w (nI i) else SA
def zLwE (i u w : Nat) (ins : Bool) (SE : Nat → Int32) : Nat → Int32 := if (zSgn u && decide (0 < zLwW u w ins)) = true then upd SE (zLwW u w ins - 1) (nI (i + 1)) else SE
def zLwQ (i u : Nat) (q : Int32) : Int32 := if u = 61 then nI i else q
def zLw (t : Nat → Nat) : Nat → Nat → Nat → (Nat → Int32) → (Nat → Int32) → Int32 → Bool → Nat × (Nat → Int32) × (Nat → Int32) × Int32
  | 0, _, w, SA, SE, q, _ => (w, SA, SE, q)
  | k + 1, i, w, SA, SE, q, ins => zLw t k (i + 1) (zLwW (t i) w ins) (zLwA i (t i) w ins SA) (zLwE i (t i) w ins SE) (zLwQ i (t i) q) (zSgn (t i))
theorem zLwW_le {u w : Nat} {ins : Bool} (h : w ≤ 8) : zLwW u w ins ≤ 8 := by
  unfold zLwW
  split
  · next h2 =>
    unfold zStt at h2
    simp only [Bool.and_eq_true, decide_eq_true_eq] at h2
    omega
  · exact h
theorem zStT {u w : Nat} {ins : Bool} (h1 : zSgn u = true) (h2 : ins = false) (h3 : w < 8) : zStt u w ins = true := by
  unfold zStt
  simp [h1, h2, h3]
theorem zStF1 {u w : Nat} {ins : Bool} (h1 : zSgn u = false) : ¬ zStt u w ins = true := by
  unfold zStt
  simp [h1]
theorem zStF2 {u w : Nat} {ins : Bool} (h1 : ins = true) : ¬ zStt u w ins = true := by
  unfold zStt
  simp [h1]
theorem zStF3 {u w : Nat} {ins : Bool} (h1 : 8 ≤ w) : ¬ zStt u w ins = true := by
  unfold zStt
  simp
  omega
theorem zSgT {u : Nat} (hu : u < 2 ^ 31) (h : zLet (nI u) = true ∨ zDig (nI u) = true) : nI 1 = zB (zSgn u) := by
  unfold zSgn
  rw [zLet_nI hu, zDig_nI hu] at h
  rcases h with h | h
  · rw [h]; rfl
  · rw [h, Bool.or_true]; rfl
theorem zSgF {u : Nat} (hu : u < 2 ^ 31) (h : zLet (nI u) = false) (h2 : zDig (nI u) = false) : nI 0 = zB (zSgn u) := by
  unfold zSgn
  rw [zLet_nI hu] at h
  rw [zDig_nI hu] at h2
  rw [h, h2]
  rfl
theorem zU5 (f : Nat → Int32) {x y z : Int32} : upd (upd (upd f 11 x) 10 y) 11 z = upd (upd f 11 z) 10 y := by
  funext j
  unfold upd
  by_cases h1 : j = 11
  · subst h1; rfl
  · simp [h1]
theorem zA5 (g : Nat → Nat → Int32) {SA SE X : Nat → Int32} : sA (sA (sA g 2 SA) 3 SE) 2 X = sA (sA g 2 X) 3 SE := by
  rw [sA_comm _ _ _ (by decide), sA_sA]
def zSn (t : Nat → Nat) : Nat → Nat → Nat → Nat
  | 0, _, sn => sn
  | k + 1, i, sn => zSn t k (i + 1) (if 97 ≤ t i ∧ t i ≤ 122 then sn ||| 2 ^ (t i - 97) else sn)
theorem zSn_lt' {t : Nat → Nat} : ∀ (k i sn : Nat), sn < 2 ^ 26 → zSn t k i sn < 2 ^ 26 := by
  intro k
  induction k with
  | zero => intro i sn h; exact h
  | succ k ih =>
    intro i sn h
    simp only [zSn]
    refine ih _ _ ?_
    split
    · next h2 => exact zSnLt h h2.2
    · exact h
theorem zSn_lt {t : Nat → Nat} (n : Nat) : zSn t n 0 0 < 2 ^ 26 := zSn_lt' n 0 0 (by decide)
def zLl (sn : Nat) : Nat → Nat → Nat → (Nat → Int32) → (Nat → Int32) → Nat × (Nat → Int32) × (Nat → Int32)
  | 0, _, lc, B4, S5 => (lc, B4, S5)
  | k + 1, i, lc, B4, S5 => if (sn.testBit i && decide (lc < 8)) = true then zLl sn k (i + 1) (lc + 1) (upd B4 lc (nI (97 + i))) (upd (upd S5 i (-1)) i (nI lc)) else zLl sn k (i + 1) lc B4 (upd S5 i (-1))
theorem zA6 (g : Nat → Nat → Int32) {B4 S5 : Nat → Int32} {i lc : Nat} {x y : Int32} : updA (updA (updA (sA (sA g 4 B4) 5 S5) 5 i (-1)) 4 lc x) 5 i y = sA (sA g 4 (upd B4 lc x)) 5 (upd (upd S5 i (-1)) i y) := by
  funext q
  unfold updA
  by_cases h5 : q = 5
  · subst h5; rfl
  · by_cases h4 : q = 4
    · subst h4; rfl
    · simp [sA, h5, h4]
