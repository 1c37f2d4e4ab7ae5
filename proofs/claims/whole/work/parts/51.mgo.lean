/-! the reference goes through all ways: one after another, with a way back -/
def zAnsM (B : Nat) (ok : Nat → Nat → Bool) (c : Nat → Int) (r : Int) (lc : Nat) : List (List Nat) := (zEn B ok lc 0 0).filter (fun ds => Int64.ofInt (zTotI c 0 r ds) == 0)
def zTr (c : Nat → Int) (r : Int) : List Nat → Int
  | [] => r
  | d :: p => zTr c r p + c p.length * (d : Int)
theorem zTotI_app (c : Nat → Int) : ∀ (e l : List Nat) (i : Nat) (t : Int), zTotI c i t (e ++ l) = zTotI c (i + e.length) (zTotI c i t e) l := by
  intro e
  induction e with
  | nil => intro l i t; simp [zTotI]
  | cons d e ih =>
    intro l i t
    simp only [zTotI, List.cons_append, List.length_cons]
    rw [ih, show i + 1 + e.length = i + (e.length + 1) by omega]
theorem zTr_eq (c : Nat → Int) (r : Int) : ∀ p : List Nat, zTotI c 0 r p.reverse = zTr c r p := by
  intro p
  induction p with
  | nil => rfl
  | cons d p ih =>
    rw [List.reverse_cons, zTotI_app, ih, List.length_reverse, Nat.zero_add]
    show zTr c r p + (d : Int) * c p.length = _
    rw [Int.mul_comm]
    rfl
def zTl (B : Nat) (ok : Nat → Nat → Bool) (k : Nat) (p : List Nat) (s : Nat) : List (List Nat) := (List.range' s (B - s)).flatMap fun d => if (zMk p).testBit d || !ok p.length d then [] else (zEn B ok k (p.length + 1) (zMk p ||| 2 ^ d)).map (fun e => p.reverse ++ d :: e)
def zRest (B : Nat) (ok : Nat → Nat → Bool) : Nat → List Nat → List (List Nat)
  | _, [] => []
  | k, d :: p => zTl B ok (k + 1) p (d + 1) ++ zRest B ok (k + 1) p
def zRm (B : Nat) (ok : Nat → Nat → Bool) (k : Nat) (p : List Nat) (s : Nat) : List (List Nat) := zTl B ok k p s ++ zRest B ok k p
theorem zTl_S {B : Nat} {ok : Nat → Nat → Bool} {k : Nat} {p : List Nat} {s : Nat} (h : s < B) : zTl B ok k p s = (if ((zMk p).testBit s || !ok p.length s) = true then [] else (zEn B ok k (p.length + 1) (zMk p ||| 2 ^ s)).map (fun e => p.reverse ++ s :: e)) ++ zTl B ok k p (s + 1) := by
  unfold zTl
  rw [show B - s = (B - (s + 1)) + 1 by omega, List.range'_succ, List.flatMap_cons]
theorem zTl_skip {B : Nat} {ok : Nat → Nat → Bool} {k : Nat} {p : List Nat} {s : Nat} (h : s < B) (hb : ((zMk p).testBit s || !ok p.length s) = true) : zTl B ok k p s = zTl B ok k p (s + 1) := by
  rw [zTl_S h, if_pos hb, List.nil_append]
theorem zTl_end {B : Nat} {ok : Nat → Nat → Bool} {k : Nat} {p : List Nat} : zTl B ok k p B = [] := by
  unfold zTl
  rw [Nat.sub_self]
  rfl
theorem zTl_0 {B : Nat} {ok : Nat → Nat → Bool} {k : Nat} {p : List Nat} : zTl B ok k p 0 = (zEn B ok (k + 1) p.length (zMk p)).map (fun e => p.reverse ++ e) := by
  unfold zTl
  simp only [zEn]
  rw [Nat.sub_zero, ← List.range_eq_range', List.map_flatMap]
  congr 1
  funext d
  by_cases hc : ((zMk p).testBit d || !ok p.length d) = true
  · rw [if_pos hc, if_pos hc]; rfl
  · rw [if_neg hc, if_neg hc, List.map_map]; rfl
theorem zTl_down {B : Nat} {ok : Nat → Nat → Bool} {k : Nat} {p : List Nat} {s : Nat} (h : s < B) (hb : ¬ ((zMk p).testBit s || !ok p.length s) = true) : zTl B ok (k + 1) p s = zTl B ok k (s :: p) 0 ++ zTl B ok (k + 1) p (s + 1) := by
  rw [zTl_S h, if_neg hb, zTl_0]
  congr 1
  rw [List.length_cons, zMk, Nat.or_comm (2 ^ s)]
  congr 1
  funext e
  rw [List.reverse_cons, List.append_assoc]
  rfl
theorem zTl_leaf {B : Nat} {ok : Nat → Nat → Bool} {p : List Nat} {s : Nat} (h : s < B) (hb : ¬ ((zMk p).testBit s || !ok p.length s) = true) : zTl B ok 0 p s = (s :: p).reverse :: zTl B ok 0 p (s + 1) := by
  rw [zTl_S h, if_neg hb]
  simp only [zEn]
  rw [List.map_cons, List.map_nil, List.reverse_cons]
  rfl
theorem zRm_start {B : Nat} {ok : Nat → Nat → Bool} {lc : Nat} (h : 1 ≤ lc) : zRm B ok (lc - 1) [] 0 = zEn B ok lc 0 0 := by
  unfold zRm
  rw [zTl_0, show lc - 1 + 1 = lc by omega]
  show List.map (fun e => [] ++ e) (zEn B ok lc 0 0) ++ [] = _
  rw [List.append_nil]
  exact List.map_id' _
/-- how much is left to do -/
def zMuR (B : Nat) : Nat → List Nat → Nat
  | _, [] => 0
  | k, d :: p => (B - (d + 1)) * 12 ^ (k + 1) + 1 + zMuR B (k + 1) p
def zMu (B k : Nat) (p : List Nat) (s : Nat) : Nat := (B - s) * 12 ^ k + 1 + zMuR B k p
theorem zMu_pos (B k : Nat) (p : List Nat) (s : Nat) : 0 < zMu B k p s := by
  unfold zMu
  omega
theorem zMu_back (B k : Nat) (p : List Nat) (s d : Nat) : zMu B (k + 1) p (d + 1) < zMu B k (d :: p) s := by
  unfold zMu
  simp only [zMuR]
  omega
theorem zMu_next {B k : Nat} {p : List Nat} {s d : Nat} (h : s ≤ d) (hd : d < B) : zMu B k p (d + 1) < zMu B k p s := by
  unfold zMu
  have h1 : (B - (d + 1)) * 12 ^ k < (B - s) * 12 ^ k := Nat.mul_lt_mul_of_pos_right (by omega) (Nat.pow_pos (by decide))
  omega
theorem zMu_down {B k : Nat} {p : List Nat} {s d : Nat} (hB : B ≤ 10) (h : s ≤ d) (hd : d < B) : zMu B k (d :: p) 0 < zMu B (k + 1) p s := by
  unfold zMu
  simp only [zMuR]
  have h0 : 0 < 12 ^ k := Nat.pow_pos (by decide)
  have h1 : (B - (d + 1) + 1) * 12 ^ (k + 1) ≤ (B - s) * 12 ^ (k + 1) := Nat.mul_le_mul_right _ (by omega)
  rw [Nat.add_mul, Nat.one_mul] at h1
  have h2 : (B - 0) * 12 ^ k ≤ 10 * 12 ^ k := Nat.mul_le_mul_right _ (by omega)
  have h3 : 12 ^ (k + 1) = 12 * 12 ^ k := by rw [Nat.pow_succ, Nat.mul_comm]
  omega
/-! the state on the way -/
def zGd (B : Nat) : List Nat → Prop
  | [] => True
  | d :: p => d < B ∧ (zMk p).testBit d = false ∧ zGd B p
def zDr (F : Nat → Int32) (p : List Nat) : Prop := ∀ k, k < p.length → F k = nI (p.reverse.getD k 0)
def zTa (F : Nat → Int32) (p : List Nat) (B : Nat) : Prop := ∀ d, d < B → F d = zB ((zMk p).testBit d)
def zAr (G : Nat → Int32) (A : List (List Nat)) (lc : Nat) : Prop := ∀ i k, i < A.length → k < lc → G (8 * i + k) = nI ((A.getD i []).getD k 0)
theorem zDr_push {F : Nat → Int32} {p : List Nat} {d : Nat} (h : zDr F p) : zDr (upd F p.length (nI d)) (d :: p) := by
  intro k hk
  rw [List.length_cons] at hk
  rw [List.reverse_cons]
  by_cases e : k = p.length
  · subst e
    rw [pk_us, List.getD_eq_getElem?_getD, List.getElem?_append_right (by simp), List.length_reverse, Nat.sub_self]
    rfl
  · rw [pk_un e, h k (by omega), List.getD_eq_getElem?_getD, List.getD_eq_getElem?_getD, List.getElem?_append_left (by simp; omega)]
theorem zDr_pop {F : Nat → Int32} {p : List Nat} {d : Nat} (h : zDr F (d :: p)) : zDr F p ∧ F p.length = nI d := by
  constructor
  · intro k hk
    have := h k (by rw [List.length_cons]; omega)
    rw [List.reverse_cons, List.getD_eq_getElem?_getD, List.getElem?_append_left (by simp; omega)] at this
    rw [this, List.getD_eq_getElem?_getD]
  · have := h p.length (by rw [List.length_cons]; omega)
    rw [List.reverse_cons, List.getD_eq_getElem?_getD, List.getElem?_append_right (by simp), List.length_reverse, Nat.sub_self] at this
    exact this
theorem zDr_upd {F : Nat → Int32} {p : List Nat} {j : Nat} {v : Int32} (h : zDr F p) (hj : p.length ≤ j) : zDr (upd F j v) p := fun k hk => by
  rw [pk_un (by omega)]
  exact h k hk
theorem zTa_push {F : Nat → Int32} {p : List Nat} {d B : Nat} (h : zTa F p B) : zTa (upd F d (nI 1)) (d :: p) B := by
  intro k hk
  rw [zMk, Nat.testBit_or, Nat.testBit_two_pow]
  by_cases e : k = d
  · subst e
    rw [pk_us, decide_eq_true rfl, Bool.true_or]
    rfl
  · rw [pk_un e, decide_eq_false (Ne.symm e), Bool.false_or]
    exact h k hk
theorem zTa_pop {F : Nat → Int32} {p : List Nat} {d B : Nat} (hd : (zMk p).testBit d = false) (h : zTa F (d :: p) B) : zTa (upd F d (nI 0)) p B := by
  intro k hk
  by_cases e : k = d
  · subst e
    rw [pk_us, hd]
    rfl
  · have := h k hk
    rw [zMk, Nat.testBit_or, Nat.testBit_two_pow, decide_eq_false (Ne.symm e), Bool.false_or] at this
    rw [pk_un e]
    exact this
def zGI (gw g1 : Nat → Nat → Int32) (B lc : Nat) (kp : Bool) (A : List (List Nat)) (p : List Nat) : Prop := (∀ j, j ≠ 14 → j ≠ 15 → (j ≠ 16 ∨ kp = false) → g1 j = gw j) ∧ zDr (g1 14) p ∧ zTa (g1 15) p B ∧ (kp = true → zAr (g1 16) A lc) ∧ zGd B p
theorem zGI_pop {gw g1 : Nat → Nat → Int32} {B lc d : Nat} {kp : Bool} {A : List (List Nat)} {p : List Nat} (h : zGI gw g1 B lc kp A (d :: p)) : zGI gw (updA g1 15 d (nI 0)) B lc kp A p := by
  obtain ⟨q1, q2, q3, q4, q5⟩ := h
  refine ⟨fun j h1 h2 h3 => ?_, (zDr_pop q2).1, ?_, q4, q5.2.2⟩
  · rw [updA, sA_o _ _ _ h2]
    exact q1 j h1 h2 h3
  · rw [updA, sA_s]
    exact zTa_pop q5.2.1 q3
theorem zGI_m1 {gw g1 : Nat → Nat → Int32} {B lc j : Nat} {kp : Bool} {A : List (List Nat)} {p : List Nat} {v : Int32} (h : zGI gw g1 B lc kp A p) (hj : p.length ≤ j) : zGI gw (updA g1 14 j v) B lc kp A p := by
  obtain ⟨q1, q2, q3, q4, q5⟩ := h
  refine ⟨fun j h1 h2 h3 => ?_, ?_, q3, q4, q5⟩
  · rw [updA, sA_o _ _ _ h1]
    exact q1 j h1 h2 h3
  · rw [updA, sA_s]
    exact zDr_upd q2 hj
theorem zGI_push {gw g1 : Nat → Nat → Int32} {B lc d : Nat} {kp : Bool} {A : List (List Nat)} {p : List Nat} (h : zGI gw g1 B lc kp A p) (hd : d < B) (hb : (zMk p).testBit d = false) : zGI gw (updA (updA g1 14 p.length (nI d)) 15 d (nI 1)) B lc kp A (d :: p) := by
  obtain ⟨q1, q2, q3, q4, q5⟩ := h
  refine ⟨fun j h1 h2 h3 => ?_, ?_, ?_, q4, hd, hb, q5⟩
  · rw [updA, sA_o _ _ _ h2, updA, sA_o _ _ _ h1]
    exact q1 j h1 h2 h3
  · show zDr (updA g1 14 p.length (nI d) 14) (d :: p)
    rw [updA, sA_s]
    exact zDr_push q2
  · rw [updA, sA_s]
    exact zTa_push q3
/-- an answer is written down: k of its digits so far -/
def zArk (G : Nat → Int32) (A : List (List Nat)) (p : List Nat) (lc k : Nat) : Prop := zAr G A lc ∧ ∀ j, j < k → G (8 * A.length + j) = nI (p.reverse.getD j 0)
theorem zArk_s {G : Nat → Int32} {A : List (List Nat)} {p : List Nat} {lc k : Nat} (hl : lc ≤ 8) (h : zArk G A p lc k) : zArk (upd G (8 * A.length + k) (nI (p.reverse.getD k 0))) A p lc (k + 1) := by
  refine ⟨fun i j hi hj => ?_, fun j hj => ?_⟩
  · rw [pk_un (by omega)]
    exact h.1 i j hi hj
  · by_cases e : j = k
    · rw [e, pk_us]
    · rw [pk_un (by omega)]
      exact h.2 j (by omega)
theorem zArk_end {G : Nat → Int32} {A : List (List Nat)} {p : List Nat} {lc : Nat} (h : zArk G A p lc lc) : zAr G (A ++ [p.reverse]) lc := by
  intro i k hi hk
  rw [List.length_append, List.length_singleton] at hi
  by_cases e : i = A.length
  · subst e
    rw [h.2 k hk, List.getD_eq_getElem?_getD (l := A ++ [p.reverse]), List.getElem?_append_right (Nat.le_refl _), Nat.sub_self]
    rfl
  · rw [h.1 i k (by omega) hk, List.getD_eq_getElem?_getD (l := A), List.getD_eq_getElem?_getD (l := A ++ [p.reverse]), List.getElem?_append_left (by omega)]
theorem zSumAdd {x y : Int} {d : Nat} (hd : d < 256) : Int64.ofInt x + Int64.ofInt y * (nI d).toInt64 = Int64.ofInt (x + y * (d : Int)) := by
  rw [nI_toL (by omega), Int64.ofInt_add, Int64.ofInt_mul]
theorem zSumSub {x y : Int} {d : Nat} (hd : d < 256) : Int64.ofInt (x + y * (d : Int)) - Int64.ofInt y * (nI d).toInt64 = Int64.ofInt x := by
  rw [nI_toL (by omega), ← Int64.ofInt_mul, ← Int64.ofInt_sub]
  congr 1
  omega
theorem zCmpE {x y : Int64} : lg_cmp x y = 0 ↔ x = y := by
  unfold lg_cmp
  constructor
  · intro h
    by_cases h1 : x > y
    · rw [if_pos h1] at h; exact absurd h (by decide)
    · rw [if_neg h1] at h
      by_cases h2 : x = y
      · exact h2
      · rw [if_neg h2] at h; exact absurd h (by decide)
  · intro h
    subst h
    rw [if_neg (fun q => Int64.lt_irrefl q), if_pos rfl]
def zPM (b : Bool) (L : List (List Nat)) : List (List Nat) := if b then [] else L
theorem zFlt_yes {P : List Nat → Bool} {x : List Nat} {A R L : List (List Nat)} (h : P x = true) (e : A ++ ((x :: R).filter P) = L) : (A ++ [x]) ++ R.filter P = L := by
  rw [← e, List.filter_cons_of_pos h, List.append_assoc]
  rfl
theorem zFlt_no {P : List Nat → Bool} {x : List Nat} {A R L : List (List Nat)} (h : ¬ P x = true) (e : A ++ ((x :: R).filter P) = L) : A ++ R.filter P = L := by
  rw [← e, List.filter_cons_of_neg h]
