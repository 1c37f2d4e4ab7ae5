/-! ALL THE WAYS TO GIVE DIGITS TO LETTERS, in their order: k letters from letter i on, none of the digits of the set u -/
def zEn (B : Nat) (ok : Nat → Nat → Bool) : Nat → Nat → Nat → List (List Nat)
  | 0, _, _ => [[]]
  | k + 1, i, u => (List.range B).flatMap fun d => if u.testBit d || !ok i d then [] else (zEn B ok k (i + 1) (u ||| 2 ^ d)).map (d :: ·)
def zMk : List Nat → Nat
  | [] => 0
  | d :: ds => 2 ^ d ||| zMk ds
def zTot (wt : Nat → Int32) : Nat → Int32 → List Nat → Int32
  | _, t, [] => t
  | i, t, d :: ds => zTot wt (i + 1) (t + nI d * wt i) ds
def zPk : Nat → Int32 → List Nat → Int32
  | _, x, [] => x
  | i, x, d :: ds => zPk (i + 1) (zWd x (nI i) (nI d)) ds
theorem zEn_split (B : Nat) (ok : Nat → Nat → Bool) (k : Nat) : ∀ (m i u : Nat), zEn B ok (m + k) i u = (zEn B ok m i u).flatMap fun e => (zEn B ok k (i + m) (u ||| zMk e)).map (e ++ ·) := by
  intro m
  induction m with
  | zero =>
    intro i u
    simp [zEn, zMk]
  | succ m ih =>
    intro i u
    rw [show m + 1 + k = (m + k) + 1 by omega]
    simp only [zEn]
    rw [List.flatMap_assoc]
    congr 1
    funext d
    by_cases hc : (u.testBit d || !ok i d) = true
    · rw [if_pos hc, if_pos hc]; rfl
    · rw [if_neg hc, if_neg hc, ih, List.flatMap_map, List.map_flatMap]
      congr 1
      funext e
      rw [List.map_map, show i + 1 + m = i + (m + 1) by omega, zMk, Nat.or_assoc]
      rfl
theorem zfm {α β : Type} {l : List α} {f g : α → List β} (h : ∀ a ∈ l, f a = g a) : l.flatMap f = l.flatMap g := by
  induction l with
  | nil => rfl
  | cons x l ih => rw [List.flatMap_cons, List.flatMap_cons, h x List.mem_cons_self, ih (fun a ha => h a (List.mem_cons_of_mem _ ha))]
theorem zAnd1 (d v : Nat) : 2 ^ d &&& v = 0 ↔ v.testBit d = false := by
  constructor
  · intro h
    have h1 : (2 ^ d &&& v).testBit d = false := by rw [h]; exact Nat.zero_testBit d
    rw [Nat.testBit_and, Nat.testBit_two_pow_self, Bool.true_and] at h1
    exact h1
  · intro h
    apply Nat.eq_of_testBit_eq
    intro i
    rw [Nat.testBit_and, Nat.testBit_two_pow, Nat.zero_testBit]
    by_cases e : d = i
    · subst e; rw [h, Bool.and_false]
    · rw [decide_eq_false e, Bool.false_and]
theorem zAnd0 (d x v : Nat) : (2 ^ d ||| x) &&& v = 0 ↔ v.testBit d = false ∧ x &&& v = 0 := by
  rw [Nat.and_or_distrib_right, Nat.or_eq_zero_iff, zAnd1]
theorem zEn_filter (B : Nat) (ok : Nat → Nat → Bool) (v : Nat) : ∀ (k i u : Nat), zEn B ok k i (u ||| v) = (zEn B ok k i u).filter (fun ds => zMk ds &&& v == 0) := by
  intro k
  induction k with
  | zero =>
    intro i u
    simp [zEn, zMk]
  | succ k ih =>
    intro i u
    simp only [zEn]
    rw [List.filter_flatMap]
    congr 1
    funext d
    rw [Nat.testBit_or]
    by_cases h1 : (u.testBit d || !ok i d) = true
    · rw [if_pos (by cases h : u.testBit d <;> simp_all), if_pos h1]; rfl
    · rw [if_neg h1]
      by_cases h2 : v.testBit d = true
      · rw [if_pos (by simp [h2]), List.filter_map]
        symm
        rw [List.map_eq_nil_iff, List.filter_eq_nil_iff]
        intro ds _ hq
        simp only [Function.comp, zMk, beq_iff_eq] at hq
        have := (zAnd0 d (zMk ds) v).mp hq
        rw [h2] at this
        exact absurd this.1 (by decide)
      · have h2 : v.testBit d = false := by simpa using h2
        rw [if_neg (by simp only [h2, Bool.or_false]; exact h1), List.filter_map, show (u ||| v) ||| 2 ^ d = (u ||| 2 ^ d) ||| v by rw [Nat.or_assoc, Nat.or_comm v, ← Nat.or_assoc], ih]
        congr 1
        congr 1
        funext ds
        simp only [Function.comp, zMk]
        rw [Bool.eq_iff_iff, beq_iff_eq, beq_iff_eq, zAnd0]
        simp [h2]
theorem zTot_add (wt : Nat → Int32) : ∀ (ds : List Nat) (i : Nat) (t : Int32), zTot wt i t ds = t + zTot wt i 0 ds := by
  intro ds
  induction ds with
  | nil => intro i t; simp [zTot]
  | cons d ds ih =>
    intro i t
    simp only [zTot]
    rw [ih, ih (i + 1) (0 + nI d * wt i), Int32.zero_add, Int32.add_assoc]
theorem zTot_app (wt : Nat → Int32) : ∀ (e l : List Nat) (i : Nat) (t : Int32), zTot wt i t (e ++ l) = zTot wt (i + e.length) (zTot wt i t e) l := by
  intro e
  induction e with
  | nil => intro l i t; simp [zTot]
  | cons d e ih =>
    intro l i t
    simp only [zTot, List.cons_append, List.length_cons]
    rw [ih, show i + 1 + e.length = i + (e.length + 1) by omega]
theorem zPk_or : ∀ (ds : List Nat) (i : Nat) (x : Int32), zPk i x ds = x ||| zPk i 0 ds := by
  intro ds
  induction ds with
  | nil => intro i x; simp [zPk]
  | cons d ds ih =>
    intro i x
    simp only [zPk]
    rw [ih, ih (i + 1) (zWd 0 (nI i) (nI d))]
    simp only [zWd]
    rw [Int32.zero_or, Int32.or_assoc]
theorem zPk_app : ∀ (e l : List Nat) (i : Nat) (x : Int32), zPk i x (e ++ l) = zPk (i + e.length) (zPk i x e) l := by
  intro e
  induction e with
  | nil => intro l i x; simp [zPk]
  | cons d e ih =>
    intro l i x
    simp only [zPk, List.cons_append, List.length_cons]
    rw [ih, show i + 1 + e.length = i + (e.length + 1) by omega]
theorem zEn_len {B : Nat} {ok : Nat → Nat → Bool} : ∀ (k i u : Nat) (ds : List Nat), ds ∈ zEn B ok k i u → ds.length = k := by
  intro k
  induction k with
  | zero =>
    intro i u ds h
    simp [zEn] at h
    simp [h]
  | succ k ih =>
    intro i u ds h
    simp only [zEn, List.mem_flatMap] at h
    obtain ⟨d, _, h⟩ := h
    by_cases hc : (u.testBit d || !ok i d) = true
    · rw [if_pos hc] at h; cases h
    · rw [if_neg hc] at h
      obtain ⟨ds', h1, rfl⟩ := List.mem_map.mp h
      simp [ih _ _ _ h1]
/-- the same as rows of the machine: sum, digits, used -/
def zLs (B : Nat) (ok : Nat → Nat → Bool) (wt : Nat → Int32) : Nat → Nat → Nat → Int32 → Int32 → List (Int32 × Int32 × Nat)
  | 0, _, u, x, t => [(t, x, u)]
  | k + 1, i, u, x, t => (List.range B).flatMap fun d => if u.testBit d || !ok i d then [] else zLs B ok wt k (i + 1) (u ||| 2 ^ d) (zWd x (nI i) (nI d)) (t + nI d * wt i)
theorem zLs_eq (B : Nat) (ok : Nat → Nat → Bool) (wt : Nat → Int32) : ∀ (k i u : Nat) (x t : Int32), zLs B ok wt k i u x t = (zEn B ok k i u).map (fun ds => (zTot wt i t ds, zPk i x ds, u ||| zMk ds)) := by
  intro k
  induction k with
  | zero => intro i u x t; simp [zLs, zEn, zTot, zPk, zMk]
  | succ k ih =>
    intro i u x t
    simp only [zLs, zEn]
    rw [List.map_flatMap]
    congr 1
    funext d
    by_cases hc : (u.testBit d || !ok i d) = true
    · rw [if_pos hc, if_pos hc]; rfl
    · rw [if_neg hc, if_neg hc, ih, List.map_map]
      congr 1
      funext ds
      simp only [Function.comp, zTot, zPk, zMk, Nat.or_assoc]
/-- the rows that bring a total to 0 and use no digit of u -/
def zJn (wl : List (Int32 × Int32 × Nat)) (u : Nat) (x t : Int32) : List Int32 := (wl.filter (fun w => w.1 == -t && w.2.2 &&& u == 0)).map (fun w => x ||| w.2.1)
def zTE (B : Nat) (ok : Nat → Nat → Bool) (wt : Nat → Int32) (wl : List (Int32 × Int32 × Nat)) : Nat → Nat → Nat → Int32 → Int32 → List Int32
  | 0, _, u, x, t => zJn wl u x t
  | k + 1, i, u, x, t => (List.range B).flatMap fun d => if u.testBit d || !ok i d then [] else zTE B ok wt wl k (i + 1) (u ||| 2 ^ d) (zWd x (nI i) (nI d)) (t + nI d * wt i)
theorem zTE_eq (B : Nat) (ok : Nat → Nat → Bool) (wt : Nat → Int32) (wl : List (Int32 × Int32 × Nat)) : ∀ (k i u : Nat) (x t : Int32), zTE B ok wt wl k i u x t = (zEn B ok k i u).flatMap (fun ds => zJn wl (u ||| zMk ds) (zPk i x ds) (zTot wt i t ds)) := by
  intro k
  induction k with
  | zero => intro i u x t; simp [zTE, zEn, zTot, zPk, zMk]
  | succ k ih =>
    intro i u x t
    simp only [zTE, zEn]
    rw [List.flatMap_assoc]
    congr 1
    funext d
    by_cases hc : (u.testBit d || !ok i d) = true
    · rw [if_pos hc, if_pos hc]; rfl
    · rw [if_neg hc, if_neg hc, ih, List.flatMap_map]
      congr 1
      funext ds
      simp only [zTot, zPk, zMk, Nat.or_assoc]
theorem zNegEq (x y : Int32) : (x == -y) = (y + x == 0) := by
  rw [Bool.eq_iff_iff, beq_iff_eq, beq_iff_eq]
  constructor
  · intro h; rw [h, Int32.add_neg_eq_sub, Int32.sub_self]
  · intro h
    have : x = -y + (y + x) := by rw [← Int32.add_assoc, Int32.add_left_neg, Int32.zero_add]
    rw [this, h, Int32.add_zero]
/-- the search by halves finds all answers, in their order -/
theorem zHalves (B : Nat) (ok : Nat → Nat → Bool) (wt : Nat → Int32) (D : Int32) (m k : Nat) :
    zTE B ok wt (zLs B ok wt k m 0 0 0) m 0 0 0 D = ((zEn B ok (m + k) 0 0).filter (fun ds => zTot wt 0 D ds == 0)).map (zPk 0 0) := by
  rw [zTE_eq, zEn_split, List.filter_flatMap, List.map_flatMap]
  refine zfm (fun e he => ?_)
  have hl := zEn_len _ _ _ _ he
  rw [zEn_filter, Nat.zero_or, Nat.zero_add, List.filter_map, List.filter_filter, List.map_map]
  unfold zJn
  rw [zLs_eq, List.filter_map, List.map_map]
  have h1 : (fun ds : List Nat => ((zTot wt m 0 ds, zPk m 0 ds, 0 ||| zMk ds) : Int32 × Int32 × Nat)) = fun ds => (zTot wt m 0 ds, zPk m 0 ds, zMk ds) := by funext ds; rw [Nat.zero_or]
  rw [h1]
  congr 1
  · funext l
    simp only [Function.comp]
    rw [zPk_app, hl, Nat.zero_add, zPk_or l m (zPk 0 0 e)]
  · congr 1
    funext l
    simp only [Function.comp]
    rw [zTot_app, hl, Nat.zero_add, zTot_add wt l m (zTot wt 0 D e), zNegEq]
/-- how many there can be -/
def zFr (B u : Nat) : Nat := ((List.range B).filter (fun d => !u.testBit d)).length
