/-! WHAT A TEXT WEIGHS, in whole numbers -/
def zUp (c : Nat → Int) (l : Nat) (x : Int) : Nat → Int := fun q => if q = l then x else c q
/-- one sign: its digit's part, or its letter's -/
def zW1 (sl : Nat → Option Nat) (dg : Nat → Int) (p : Nat) (un : Int) (s : Int × (Nat → Int)) : Int × (Nat → Int) := match sl p with
  | none => (s.1 + un * dg p, s.2)
  | some l => (s.1, zUp s.2 l (s.2 l + un))
/-- m signs from place a0 on, from the last to the first -/
def zWk (B : Nat) (sl : Nat → Option Nat) (dg : Nat → Int) (a0 : Nat) : Nat → Int → Int × (Nat → Int) → Int × (Nat → Int)
  | 0, _, s => s
  | m + 1, un, s => zWk B sl dg a0 m (un * B) (zW1 sl dg (a0 + m) un s)
/-- k words -/
def zWs (B : Nat) (sl : Nat → Option Nat) (dg : Nat → Int) (sg : Nat → Int) (at0 ln : Nat → Nat) : Nat → Int × (Nat → Int)
  | 0 => (0, fun _ => 0)
  | k + 1 => zWk B sl dg (at0 k) (ln k) (sg k) (zWs B sl dg sg at0 ln k)
/-- the letters that stand in front of a word of two signs or more; a 0 in front of such -/
def zFm (sl : Nat → Option Nat) (at0 ln : Nat → Nat) : Nat → Nat
  | 0 => 0
  | k + 1 => if 1 < ln k then (match sl (at0 k) with | some l => zFm sl at0 ln k ||| 2 ^ l | none => zFm sl at0 ln k) else zFm sl at0 ln k
def zZf (sl : Nat → Option Nat) (t : Nat → Nat) (at0 ln : Nat → Nat) : Nat → Bool
  | 0 => false
  | k + 1 => zZf sl t at0 ln k || (decide (1 < ln k) && (sl (at0 k)).isNone && decide (t (at0 k) = 48))
def zRel (G : Nat → Int32) (c : Nat → Int) : Prop := ∀ l, l < 8 → G l = Int32.ofInt (c l)
/-- what the class knows of a place: the slot of its byte -/
def zSlOk (G1 G5 : Nat → Int32) (t : Nat → Nat) (sl : Nat → Option Nat) (p : Nat) : Prop := G1 p = nI (t p) ∧ t p < 256 ∧ ((sl p = none ∧ zSl G5 (G1 p) = -1) ∨ ∃ l, l < 8 ∧ sl p = some l ∧ zSl G5 (G1 p) = nI l)
theorem nI_ofInt (n : Nat) : nI n = Int32.ofInt (n : Int) := by
  apply Int32.toBitVec_inj.mp
  simp [nI]
theorem nI_nem1 {l : Nat} (h : l < 2 ^ 31) : ¬ nI l = -1 := by
  intro e
  have h1 := nI_pos h
  rw [e] at h1
  exact h1 (by decide)
theorem zSlOk_lt {G1 G5 : Nat → Int32} {t : Nat → Nat} {sl : Nat → Option Nat} {p l : Nat} (h : zSlOk G1 G5 t sl p) (h2 : sl p = some l) : l < 8 := by
  rcases h.2.2 with q | ⟨l', q1, q2, _⟩
  · rw [q.1] at h2; cases h2
  · rw [q2] at h2; cases h2; exact q1
theorem zU3 (f : Nat → Int32) {x y z w : Int32} : upd (upd (upd (upd f 19 x) 20 y) 21 z) 19 w = upd (upd (upd f 19 w) 20 y) 21 z := by
  funext j
  unfold upd
  by_cases h1 : j = 19
  · subst h1; rfl
  · simp [h1]
theorem zU4 (f : Nat → Int32) {x y z y' z' : Int32} : upd (upd (upd (upd (upd f 19 x) 20 y) 21 z) 20 y') 21 z' = upd (upd (upd f 19 x) 20 y') 21 z' := by
  funext j
  unfold upd
  by_cases h1 : j = 21
  · simp [h1]
  · by_cases h2 : j = 20
    · simp [h2]
    · simp [h1, h2]
theorem zLen (a l : Nat) : nI (a + l) - nI a = nI l := by
  rw [pk_sub (by omega), Nat.add_sub_cancel_left]
theorem zW1_none {sl : Nat → Option Nat} {dg : Nat → Int} {p : Nat} {un : Int} {s : Int × (Nat → Int)} (h : sl p = none) : zW1 sl dg p un s = (s.1 + un * dg p, s.2) := by
  unfold zW1
  rw [h]
theorem zW1_some {sl : Nat → Option Nat} {dg : Nat → Int} {p l : Nat} {un : Int} {s : Int × (Nat → Int)} (h : sl p = some l) : zW1 sl dg p un s = (s.1, zUp s.2 l (s.2 l + un)) := by
  unfold zW1
  rw [h]
theorem zRel_up {G : Nat → Int32} {c : Nat → Int} {l : Nat} {x : Int} (h : zRel G c) : zRel (upd G l (Int32.ofInt x)) (zUp c l x) := by
  intro j hj
  unfold zUp
  by_cases e : j = l
  · rw [e, pk_us, if_pos rfl]
  · rw [pk_un e, if_neg e]
    exact h j hj
theorem zLow0 {st : Nat} (h : st ≤ 80) : nI (st + 0) - nI 1 < nI st := by
  rw [Int32.lt_iff_toInt_lt, pk_sub_toInt (by omega) (by decide), nI_toInt (by omega)]
  omega
theorem zPr2 (s m : Nat) : nI (s + (m + 1)) - nI 1 = nI (s + m) := zPr (s + m)
theorem zAcc {r un : Int} {t : Nat} : Int32.ofInt r + Int32.ofInt un * (nI t - nI 48) = Int32.ofInt (r + un * ((t : Int) - 48)) := by
  rw [Int32.ofInt_add, Int32.ofInt_mul, Int32.ofInt_sub, nI_ofInt, nI_ofInt]
  rfl
theorem zMulB {un : Int} {B : Nat} : Int32.ofInt un * nI B = Int32.ofInt (un * B) := by
  rw [Int32.ofInt_mul, nI_ofInt]
theorem zFm_lt {sl : Nat → Option Nat} {at0 ln : Nat → Nat} : ∀ k, (∀ w, w < k → ∀ l, sl (at0 w) = some l → l < 8) → zFm sl at0 ln k < 256 := by
  intro k
  induction k with
  | zero => intro _; show 0 < 256; decide
  | succ k ih =>
    intro h
    have h1 := ih (fun w hw => h w (by omega))
    unfold zFm
    split
    · split
      · next l hl =>
        exact Nat.or_lt_two_pow (n := 8) h1 (Nat.pow_lt_pow_right (by decide) (h k (by omega) l hl))
      · exact h1
    · exact h1
/-! how many ways there are -/
def zFf : Nat → Nat → Nat
  | _, 0 => 1
  | n, k + 1 => n * zFf (n - 1) k
theorem zfmLen {l : List Nat} {f : Nat → List (List Nat)} {p : Nat → Bool} {M : Nat} (h : ∀ d, d ∈ l → p d = true → (f d).length ≤ M) (h0 : ∀ d, d ∈ l → p d = false → f d = []) : (l.flatMap f).length ≤ (l.filter p).length * M := by
  induction l with
  | nil => simp
  | cons d l ih =>
    have ih := ih (fun x hx => h x (List.mem_cons_of_mem _ hx)) (fun x hx => h0 x (List.mem_cons_of_mem _ hx))
    rw [List.flatMap_cons, List.length_append]
    cases hp : p d with
    | true =>
      rw [List.filter_cons_of_pos hp, List.length_cons, Nat.add_mul, Nat.one_mul]
      have := h d List.mem_cons_self hp
      omega
    | false =>
      rw [List.filter_cons_of_neg (by rw [hp]; decide), h0 d List.mem_cons_self hp]
      simpa using ih
theorem zFr_S (B u : Nat) : zFr (B + 1) u = zFr B u + (if u.testBit B then 0 else 1) := by
  unfold zFr
  rw [List.range_succ, List.filter_append, List.length_append, zfilt1]
  cases u.testBit B <;> simp
theorem zFr_ge {u d : Nat} : ∀ B, B ≤ d → zFr B (u ||| 2 ^ d) = zFr B u := by
  intro B
  induction B with
  | zero => intro _; rfl
  | succ B ih =>
    intro h
    rw [zFr_S, zFr_S, ih (by omega), Nat.testBit_or, Nat.testBit_two_pow, decide_eq_false (by omega), Bool.or_false]
theorem zFr_or {u d : Nat} (hd : u.testBit d = false) : ∀ B, d < B → zFr B (u ||| 2 ^ d) + 1 = zFr B u := by
  intro B
  induction B with
  | zero => intro h; omega
  | succ B ih =>
    intro h
    rw [zFr_S, zFr_S, Nat.testBit_or, Nat.testBit_two_pow]
    by_cases e : d = B
    · subst e
      rw [zFr_ge d (Nat.le_refl _), hd]
      simp
    · rw [decide_eq_false e, Bool.or_false, ← ih (by omega)]
      omega
theorem zEn_ff (B : Nat) (ok : Nat → Nat → Bool) : ∀ k i u, (zEn B ok k i u).length ≤ zFf (zFr B u) k := by
  intro k
  induction k with
  | zero => intro i u; simp [zEn, zFf]
  | succ k ih =>
    intro i u
    simp only [zEn, zFf]
    refine Nat.le_trans (zfmLen (p := fun d => !u.testBit d) (M := zFf (zFr B u - 1) k) ?_ ?_) (Nat.le_of_eq rfl)
    · intro d hd hp
      have hp : u.testBit d = false := by simpa using hp
      have hB := List.mem_range.mp hd
      have h1 := zFr_or hp B hB
      split
      · simp
      · rw [List.length_map]
        have h2 := ih (i + 1) (u ||| 2 ^ d)
        rw [show zFr B u - 1 = zFr B (u ||| 2 ^ d) by omega]
        exact h2
    · intro d _ hp
      have hp : u.testBit d = true := by simpa using hp
      rw [if_pos (by simp [hp])]
theorem zFr_le (B : Nat) : zFr B 0 ≤ B := by
  unfold zFr
  exact Nat.le_trans (List.length_filter_le _ _) (by simp)
theorem zFf_5040 : ∀ n, n < 11 → ∀ k, k < 5 → zFf n k ≤ 5040 := by decide
theorem zLs_len (B : Nat) (ok : Nat → Nat → Bool) (wt : Nat → Int32) (k i : Nat) (hB : B ≤ 10) (hk : k ≤ 4) : (zLs B ok wt k i 0 0 0).length ≤ 5040 := by
  rw [zLs_eq, List.length_map]
  have h1 := zEn_ff B ok k i 0
  have h2 := zFf_5040 (zFr B 0) (by have := zFr_le B; omega) k (by omega)
  omega
theorem zFf_0 : ∀ k n, n < k → zFf n k = 0 := by
  intro k
  induction k with
  | zero => intro n h; omega
  | succ k ih =>
    intro n h
    unfold zFf
    by_cases e : n = 0
    · rw [e, Nat.zero_mul]
    · rw [ih (n - 1) (by omega), Nat.mul_zero]
/-- more letters than digits: no way -/
theorem zEn_none {B : Nat} {ok : Nat → Nat → Bool} {k i : Nat} (h : B < k) : zEn B ok k i 0 = [] := by
  have h1 := zEn_ff B ok k i 0
  rw [zFf_0 k _ (by have := zFr_le B; omega)] at h1
  exact List.eq_nil_of_length_eq_zero (by omega)
/-! totals in whole numbers -/
def zTotI (c : Nat → Int) : Nat → Int → List Nat → Int
  | _, t, [] => t
  | i, t, d :: ds => zTotI c (i + 1) (t + (d : Int) * c i) ds
theorem zTot_I {G : Nat → Int32} {c : Nat → Int} (h : zRel G c) : ∀ (ds : List Nat) (i : Nat) (t : Int), i + ds.length ≤ 8 → zTot G i (Int32.ofInt t) ds = Int32.ofInt (zTotI c i t ds) := by
  intro ds
  induction ds with
  | nil => intro i t _; rfl
  | cons d ds ih =>
    intro i t hl
    simp only [zTot, zTotI]
    rw [List.length_cons] at hl
    rw [h i (by omega), nI_ofInt, ← Int32.ofInt_mul, ← Int32.ofInt_add]
    exact ih (i + 1) _ (by omega)
