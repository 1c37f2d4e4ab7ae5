/-! the reference takes a text over -/
def zLn (sn : Nat) : Nat → Nat → Nat → (Nat → Nat) → Nat × (Nat → Nat)
  | 0, _, lc, le => (lc, le)
  | k + 1, i, lc, le => if sn.testBit i = true then zLn sn k (i + 1) (lc + 1) (upN le lc i) else zLn sn k (i + 1) lc le
def zL0 (sn : Nat) : Nat × (Nat → Nat) := zLn sn 26 0 0 (fun _ => 0)
theorem zLn_a {sn i lc : Nat} {le : Nat → Nat} (hi : i < 26) (h : sn.testBit i = true) : zLn sn (26 - i) i lc le = zLn sn (26 - (i + 1)) (i + 1) (lc + 1) (upN le lc i) := by
  rw [show 26 - i = (26 - (i + 1)) + 1 by omega]
  simp only [zLn]
  rw [if_pos h]
theorem zLn_b {sn i lc : Nat} {le : Nat → Nat} (hi : i < 26) (h : sn.testBit i = false) : zLn sn (26 - i) i lc le = zLn sn (26 - (i + 1)) (i + 1) lc le := by
  rw [show 26 - i = (26 - (i + 1)) + 1 by omega]
  simp only [zLn]
  rw [if_neg (by rw [h]; decide)]
def zCn (sn i : Nat) : Nat := ((List.range i).filter (fun j => sn.testBit j)).length
theorem zCn_S (sn i : Nat) : zCn sn (i + 1) = zCn sn i + (if sn.testBit i then 1 else 0) := by
  unfold zCn
  rw [List.range_succ, List.filter_append, List.length_append, zfilt1]
  cases sn.testBit i <;> rfl
theorem zCn_le (sn i j : Nat) : zCn sn i ≤ zCn sn (i + j) := by
  induction j with
  | zero => exact Nat.le_refl _
  | succ j ih =>
    rw [← Nat.add_assoc, zCn_S]
    omega
theorem zCn_lt {sn i : Nat} (hp : zPc sn ≤ 8) (hi : i < 26) (h : sn.testBit i = true) : zCn sn i < 8 := by
  have h1 := zCn_le sn (i + 1) (32 - (i + 1))
  rw [show i + 1 + (32 - (i + 1)) = 32 by omega, zCn_S, h] at h1
  have h2 : zCn sn 32 = zPc sn := rfl
  simp at h1
  omega
def zS1 (f : Nat → Int32) (g : Nat → Nat → Int32) (t : Nat → Nat) (n : Nat) (f2 : Nat → Int32) (g2 : Nat → Nat → Int32) (i : Nat) : Prop := (∀ j, j = 0 ∨ j = 7 → f2 j = f j) ∧ f2 1 = nI 0 ∧ zLE f2 g2 (zR0 t n) (zSn t n 0 0) ∧ g2 0 = g 0 ∧ ∀ k, k < i → g2 1 k = nI (t k)
def zS2 (f : Nat → Int32) (g : Nat → Nat → Int32) (t : Nat → Nat) (n : Nat) (f2 : Nat → Int32) (g2 : Nat → Nat → Int32) (w : Nat) : Prop := zS1 f g t n f2 g2 n ∧ f2 3 = nI n ∧ f2 4 = nI (zR0 t n).1 ∧ ∀ j, j < w → g2 2 j = nI ((zR0 t n).2.1 j) ∧ g2 3 j = nI ((zR0 t n).2.2.1 j) ∧ g2 4 j = zB ((zR0 t n).2.2.2.1 j) ∧ g2 5 j = zB ((zR0 t n).2.2.2.2 j)
def zS3 (f : Nat → Int32) (g : Nat → Nat → Int32) (t : Nat → Nat) (n : Nat) (f2 : Nat → Int32) (g2 : Nat → Nat → Int32) (lc : Nat) (le : Nat → Nat) : Prop := zS2 f g t n f2 g2 (zR0 t n).1 ∧ f2 5 = nI lc ∧ ∀ j, j < lc → g2 6 j = nI (97 + le j)
def zRd (f : Nat → Int32) (g : Nat → Nat → Int32) (t : Nat → Nat) (n : Nat) (f2 : Nat → Int32) (g2 : Nat → Nat → Int32) : Prop := zS3 f g t n f2 g2 (zL0 (zSn t n 0 0)).1 (zL0 (zSn t n 0 0)).2 ∧ f2 6 = nI 0
theorem zLE_f {f : Nat → Int32} {g : Nat → Nat → Int32} {R : Nat × (Nat → Nat) × (Nat → Nat) × (Nat → Bool) × (Nat → Bool)} {sn : Nat} {j : Nat} {v : Int32} (h : zLE f g R sn) (hj : j ≠ 9) : zLE (upd f j v) g R sn := ⟨by rw [pk_un (Ne.symm hj)]; exact h.1, h.2⟩
theorem zLE_g {f : Nat → Int32} {g : Nat → Nat → Int32} {R : Nat × (Nat → Nat) × (Nat → Nat) × (Nat → Bool) × (Nat → Bool)} {sn : Nat} {k m : Nat} {v : Int32} (h : zLE f g R sn) (hk : k < 7) : zLE f (updA g k m v) R sn := by
  have e : ∀ q, 7 ≤ q → updA g k m v q = g q := fun q hq => by rw [updA, sA_o _ _ _ (by omega)]
  unfold zLE
  rw [e 7 (by omega), e 8 (by omega), e 9 (by omega), e 10 (by omega), e 11 (by omega)]
  exact h
theorem zS1_s {f f2 : Nat → Int32} {g g2 : Nat → Nat → Int32} {t : Nat → Nat} {n i : Nat} (h : zS1 f g t n f2 g2 i) : zS1 f g t n f2 (updA g2 1 i (nI (t i))) (i + 1) := by
  obtain ⟨q1, q2, q3, q4, q5⟩ := h
  refine ⟨q1, q2, zLE_g q3 (by decide), by rw [updA, sA_o _ _ _ (by decide)]; exact q4, fun k hk => ?_⟩
  rw [updA, sA_s]
  by_cases e : k = i
  · rw [e, pk_us]
  · rw [pk_un e]; exact q5 k (by omega)
theorem zS1_f {f f2 : Nat → Int32} {g g2 : Nat → Nat → Int32} {t : Nat → Nat} {n i j : Nat} {v : Int32} (h : zS1 f g t n f2 g2 i) (h0 : j ≠ 0) (h1 : j ≠ 1) (h7 : j ≠ 7) (h9 : j ≠ 9) : zS1 f g t n (upd f2 j v) g2 i := by
  obtain ⟨q1, q2, q3, q4, q5⟩ := h
  exact ⟨fun k hk => by rw [pk_un (by omega)]; exact q1 k hk, by rw [pk_un (Ne.symm h1)]; exact q2, zLE_f q3 h9, q4, q5⟩
theorem zS1_g {f f2 : Nat → Int32} {g g2 : Nat → Nat → Int32} {t : Nat → Nat} {n i j m : Nat} {v : Int32} (h : zS1 f g t n f2 g2 i) (h1 : 1 < j) (h7 : j < 7) : zS1 f g t n f2 (updA g2 j m v) i := by
  obtain ⟨q1, q2, q3, q4, q5⟩ := h
  refine ⟨q1, q2, zLE_g q3 h7, by rw [updA, sA_o _ _ _ (by omega)]; exact q4, fun k hk => ?_⟩
  rw [updA, sA_o _ _ _ (by omega)]
  exact q5 k hk
theorem zS2_s {f f2 : Nat → Int32} {g g2 : Nat → Nat → Int32} {t : Nat → Nat} {n w : Nat} (h : zS2 f g t n f2 g2 w) : zS2 f g t n f2 (updA (updA (updA (updA g2 2 w (nI ((zR0 t n).2.1 w))) 3 w (nI ((zR0 t n).2.2.1 w))) 4 w (zB ((zR0 t n).2.2.2.1 w))) 5 w (zB ((zR0 t n).2.2.2.2 w))) (w + 1) := by
  obtain ⟨q1, q2, q3, q4⟩ := h
  refine ⟨zS1_g (zS1_g (zS1_g (zS1_g q1 (by decide) (by decide)) (by decide) (by decide)) (by decide) (by decide)) (by decide) (by decide), q2, q3, fun j hj => ?_⟩
  by_cases e : j = w
  · subst e
    simp [updA, sA, upd]
  · have := q4 j (by omega)
    simpa [updA, sA, upd, e] using this
theorem zS2_f {f f2 : Nat → Int32} {g g2 : Nat → Nat → Int32} {t : Nat → Nat} {n i j : Nat} {v : Int32} (h : zS2 f g t n f2 g2 i) (h0 : j = 5 ∨ j = 6) : zS2 f g t n (upd f2 j v) g2 i := by
  obtain ⟨q1, q2, q3, q4⟩ := h
  exact ⟨zS1_f q1 (by omega) (by omega) (by omega) (by omega), by rw [pk_un (by omega)]; exact q2, by rw [pk_un (by omega)]; exact q3, q4⟩
theorem zS3_s {f f2 : Nat → Int32} {g g2 : Nat → Nat → Int32} {t : Nat → Nat} {n i lc : Nat} {le : Nat → Nat} (h : zS3 f g t n f2 g2 lc le) : zS3 f g t n (upd f2 5 (nI (lc + 1))) (updA g2 6 lc (nI (97 + i))) (lc + 1) (upN le lc i) := by
  obtain ⟨q1, q2, q3⟩ := h
  have h2 := zS2_f (j := 5) (v := nI (lc + 1)) q1 (Or.inl rfl)
  obtain ⟨a1, a2, a3, a4⟩ := h2
  refine ⟨⟨zS1_g a1 (by decide) (by decide), a2, a3, fun j hj => ?_⟩, pk_us, fun j hj => ?_⟩
  · have := a4 j hj
    simpa [updA, sA, upd] using this
  · rw [updA, sA_s]
    by_cases e : j = lc
    · rw [e, pk_us, upN_s]
    · rw [pk_un e, upN_o _ _ e]; exact q3 j (by omega)
theorem zSn_pc {B : Nat} {t : Nat → Nat} : ∀ (k i w sg sn : Nat) (bh : Bool), zPc sn ≤ 8 → gRun B t k i w sg sn bh = -1 → i + k < 2 ^ 31 → zPc (zSn t k i sn) ≤ 8 := by
  intro k
  induction k with
  | zero => intro i w sg sn bh h1 _ _; exact h1
  | succ k ih =>
    intro i w sg sn bh h1 h2 h3
    simp only [gRun] at h2
    simp only [zSn]
    by_cases hc : (gStep B w sg sn bh (t i)).1 = true
    · rw [if_pos hc] at h2
      have key : (gStep B w sg sn bh (t i)).2.2.2.1 = (if 97 ≤ t i ∧ t i ≤ 122 then sn ||| 2 ^ (t i - 97) else sn) ∧ zPc (gStep B w sg sn bh (t i)).2.2.2.1 ≤ 8 := by
        revert hc
        unfold gStep gSign gEnd
        by_cases c1 : 97 ≤ t i ∧ t i ≤ 122
        · rw [if_pos c1, if_pos c1]
          by_cases c2 : zPc (sn ||| 2 ^ (t i - 97)) ≤ 8
          · rw [if_pos c2]
            exact fun _ => ⟨rfl, c2⟩
          · rw [if_neg c2]
            exact fun q => absurd q Bool.false_ne_true
        · rw [if_neg c1, if_neg c1]
          intro _
          repeat' split
          all_goals exact ⟨rfl, h1⟩
      rw [← key.1]
      exact ih _ _ _ _ _ key.2 h2 (by omega)
    · rw [if_neg hc] at h2
      exact absurd h2 (nI_nem1 (by omega))
