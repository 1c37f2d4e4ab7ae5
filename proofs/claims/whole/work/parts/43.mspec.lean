/-! what the reference's small methods answer -/
def zIx (F : Nat → Int32) (c : Int32) : Nat → Nat → Int32
  | 0, _ => -1
  | m + 1, k => if F k = c then nI k else zIx F c m (k + 1)
theorem zIx_in {F : Nat → Int32} {c : Int32} : ∀ (m k : Nat), ¬ zIx F c m k = -1 → ∃ l, k ≤ l ∧ l < k + m ∧ zIx F c m k = nI l := by
  intro m
  induction m with
  | zero => intro k h; exact absurd rfl h
  | succ m ih =>
    intro k h
    simp only [zIx] at h ⊢
    by_cases e : F k = c
    · rw [if_pos e]
      exact ⟨k, Nat.le_refl _, by omega, rfl⟩
    · rw [if_neg e] at h ⊢
      obtain ⟨l, h1, h2, h3⟩ := ih (k + 1) h
      exact ⟨l, by omega, by omega, h3⟩
def zMd (G1 G6 G16 : Nat → Int32) (lc k p : Nat) : Int32 := if zIx G6 (G1 p) lc 0 = -1 then G1 p - nI 48 else G16 (8 * k + (zIx G6 (G1 p) lc 0).toInt.toNat)
theorem nI_tn {l : Nat} (h : l < 2 ^ 31) : (nI l).toInt.toNat = l := by
  rw [nI_toInt h]
  rfl
def zDv (b : Int64) : Nat → Int64 → Int64
  | 0, v => v
  | m + 1, v => zDv b m (v / b)
def zSm2 (D : Nat → Int32) : Nat → Nat → Bool → Bool
  | 0, _, b => b
  | m + 1, k, b => zSm2 D m (k + 1) (b && decide (D k = D 0))
theorem zAddBo {c : Nat} {b : Bool} : nI c + zB b = nI (if b then c + 1 else c) := by
  cases b
  · show nI c + nI 0 = nI c
    rw [nI_add, Nat.add_zero]
  · exact nI_add c 1
theorem zS01 {s : Int32} (h1 : ¬ s < 0) (h2 : s ≤ nI 1) : ∃ b, s = zB b := by
  obtain ⟨j, hj, e⟩ := nI_of2 (x := s) (M := nI 1) (n := 1) (by decide) h1 h2
  by_cases q : j = 1
  · exact ⟨true, by rw [e, q]; rfl⟩
  · exact ⟨false, by rw [e, show j = 0 by omega]; rfl⟩
theorem zS01d (b : Bool) : decide (zB b = nI 1) = b := by cases b <;> decide
theorem zBaseNe {B : Nat} (h1 : 1 ≤ B) (h2 : B ≤ 10) : ¬ (nI B).toInt64 = 0 := by
  rw [nI_l (by omega)]
  exact zDvNe ⟨by omega, by omega⟩
