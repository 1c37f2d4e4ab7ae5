/-! THE TWO TOGETHER: answers, packed and in rows -/
theorem zBig16 {d j : Nat} (hd : d < 16) (hj : 4 ≤ j) : d.testBit j = false := Nat.testBit_lt_two_pow (Nat.lt_of_lt_of_le hd (Nat.pow_le_pow_right (n := 2) (by decide) hj))
theorem b_zPk : ∀ (ds : List Nat) (i : Nat) (x : Int32) (j : Nat), j < 32 → i + ds.length ≤ 8 → (∀ d ∈ ds, d < 16) → bt (zPk i x ds) j = (bt x j || (decide (4 * i ≤ j) && (ds.getD ((j - 4 * i) / 4) 0).testBit ((j - 4 * i) % 4))) := by
  intro ds
  induction ds with
  | nil =>
    intro i x j hj hl hd
    simp [zPk]
  | cons d ds ih =>
    intro i x j hj hl hd
    rw [List.length_cons] at hl
    simp only [zPk]
    rw [ih (i + 1) _ j hj (by omega) (fun e he => hd e (List.mem_cons_of_mem _ he))]
    unfold zWd
    rw [b_or, pk_mul, b_shl (4 * i) (by omega) _ hj, b_nI (by omega), Bool.or_assoc]
    congr 1
    have hd0 := hd d List.mem_cons_self
    by_cases h1 : 4 * i ≤ j
    · rw [decide_eq_true h1, Bool.true_and, Bool.true_and]
      by_cases h2 : 4 * (i + 1) ≤ j
      · rw [decide_eq_true h2, Bool.true_and, zBig16 hd0 (by omega), Bool.false_or]
        rw [show (j - 4 * i) / 4 = (j - 4 * (i + 1)) / 4 + 1 by omega, show (j - 4 * i) % 4 = (j - 4 * (i + 1)) % 4 by omega, List.getD_cons_succ]
      · rw [decide_eq_false h2, Bool.false_and, Bool.or_false, show (j - 4 * i) / 4 = 0 by omega, show (j - 4 * i) % 4 = j - 4 * i by omega, List.getD_cons_zero]
    · rw [decide_eq_false h1, decide_eq_false (by omega)]
      rfl
theorem zGetD_lt {ds : List Nat} {b l : Nat} (hb : 0 < b) (h : ∀ d ∈ ds, d < b) : ds.getD l 0 < b := by
  rw [List.getD_eq_getElem?_getD]
  cases e : ds[l]? with
  | none => exact hb
  | some d => exact h d (List.mem_of_getElem? e)
/-- a digit out of a packed answer -/
theorem zDo_zPk {ds : List Nat} {l : Nat} (hl : ds.length ≤ 8) (hd : ∀ d ∈ ds, d < 16) (h8 : l < 8) : zDo (zPk 0 0 ds) (nI l) = nI (ds.getD l 0) := by
  apply b_ext
  intro i hi
  unfold zDo
  have h15 : ∀ i, i < 32 → bt (nI 15) i = decide (i < 4) := by decide +kernel
  rw [b_and, pk_mul, b_ushr (4 * l) (by omega), h15 i hi, b_nI hi]
  have hlt := zGetD_lt (l := l) (by decide) hd
  by_cases h4 : i < 4
  · rw [b_zPk ds 0 0 (4 * l + i) (by omega) (by omega) hd, decide_eq_true h4, Bool.and_true, decide_eq_true (by omega), Bool.true_and, show (4 * l + i - 4 * 0) / 4 = l by omega, show (4 * l + i - 4 * 0) % 4 = i by omega]
    rw [show bt 0 (4 * l + i) = false from BitVec.getLsbD_zero, Bool.false_or]
  · rw [decide_eq_false h4, Bool.and_false, zBig16 hlt (by omega)]
theorem zEn_lt {B : Nat} {ok : Nat → Nat → Bool} : ∀ (k i u : Nat) (ds : List Nat), ds ∈ zEn B ok k i u → ∀ d ∈ ds, d < B := by
  intro k
  induction k with
  | zero =>
    intro i u ds h
    simp [zEn] at h
    simp [h]
  | succ k ih =>
    intro i u ds h
    simp only [zEn, List.mem_flatMap] at h
    obtain ⟨d, hd, h⟩ := h
    by_cases hc : (u.testBit d || !ok i d) = true
    · rw [if_pos hc] at h; cases h
    · rw [if_neg hc] at h
      obtain ⟨ds', h1, rfl⟩ := List.mem_map.mp h
      intro e he
      rcases List.mem_cons.mp he with rfl | he
      · exact List.mem_range.mp hd
      · exact ih _ _ _ h1 e he
/-! how large a total can be -/
theorem zTotI_add (c : Nat → Int) : ∀ (ds : List Nat) (i : Nat) (t x : Int), zTotI c i (t + x) ds = zTotI c i t ds + x := by
  intro ds
  induction ds with
  | nil => intro i t x; rfl
  | cons d ds ih =>
    intro i t x
    simp only [zTotI]
    rw [show t + x + (d : Int) * c i = t + (d : Int) * c i + x by omega, ih]
theorem zTotI_up (c : Nat → Int) (l : Nat) (un : Int) : ∀ (ds : List Nat) (i : Nat) (t : Int), i ≤ l → l < i + ds.length → zTotI (zUp c l (c l + un)) i t ds = zTotI c i t ds + un * ((ds.getD (l - i) 0 : Nat) : Int) := by
  have far : ∀ (ds : List Nat) (i : Nat) (t : Int), l < i → zTotI (zUp c l (c l + un)) i t ds = zTotI c i t ds := by
    intro ds
    induction ds with
    | nil => intro i t _; rfl
    | cons d ds ih =>
      intro i t hi
      simp only [zTotI]
      rw [show zUp c l (c l + un) i = c i from if_neg (by omega), ih (i + 1) _ (by omega)]
  intro ds
  induction ds with
  | nil => intro i t h1 h2; simp at h2; omega
  | cons d ds ih =>
    intro i t h1 h2
    rw [List.length_cons] at h2
    simp only [zTotI]
    by_cases e : i = l
    · subst e
      rw [show zUp c i (c i + un) i = c i + un from if_pos rfl, far ds (i + 1) _ (by omega), Nat.sub_self, List.getD_cons_zero, show t + (d : Int) * (c i + un) = t + (d : Int) * c i + un * (d : Int) by rw [Int.mul_add, Int.mul_comm (d : Int) un]; omega, zTotI_add]
    · rw [show zUp c l (c l + un) i = c i from if_neg e, ih (i + 1) _ (by omega) (by omega), show l - i = (l - (i + 1)) + 1 by omega, List.getD_cons_succ]
def zDp (sl : Nat → Option Nat) (t : Nat → Nat) (ds : List Nat) (p : Nat) : Int := match sl p with
  | none => (t p : Int) - 48
  | some l => ((ds.getD l 0 : Nat) : Int)
theorem zW1_tot {sl : Nat → Option Nat} {t : Nat → Nat} {ds : List Nat} {p : Nat} {un : Int} {s : Int × (Nat → Int)} (h : ∀ l, sl p = some l → l < ds.length) : zTotI (zW1 sl (fun p => (t p : Int) - 48) p un s).2 0 (zW1 sl (fun p => (t p : Int) - 48) p un s).1 ds = zTotI s.2 0 s.1 ds + un * zDp sl t ds p := by
  unfold zDp
  cases e : sl p with
  | none =>
    rw [zW1_none e]
    exact zTotI_add _ _ _ _ _
  | some l =>
    rw [zW1_some e]
    have := zTotI_up s.2 l un ds 0 s.1 (Nat.zero_le _) (by have := h l e; omega)
    rw [Nat.sub_zero] at this
    exact this
/-- what m signs come to -/
def zVl (B : Nat) (D : Nat → Int) (a0 : Nat) : Nat → Int
  | 0 => 0
  | m + 1 => D (a0 + m) + B * zVl B D a0 m
theorem zWk_tot {B : Nat} {sl : Nat → Option Nat} {t : Nat → Nat} {ds : List Nat} {a0 : Nat} : ∀ (m : Nat) (un : Int) (s : Int × (Nat → Int)), (∀ p l, a0 ≤ p → p < a0 + m → sl p = some l → l < ds.length) → zTotI (zWk B sl (fun p => (t p : Int) - 48) a0 m un s).2 0 (zWk B sl (fun p => (t p : Int) - 48) a0 m un s).1 ds = zTotI s.2 0 s.1 ds + un * zVl B (zDp sl t ds) a0 m := by
  intro m
  induction m with
  | zero => intro un s _; simp [zWk, zVl]
  | succ m ih =>
    intro un s h
    simp only [zWk, zVl]
    rw [ih (un * B) _ (fun p l h1 h2 h3 => h p l h1 (by omega) h3), zW1_tot (fun l hl => h (a0 + m) l (by omega) (by omega) hl), Int.mul_add, Int.mul_assoc]
    omega
theorem zVl_le {B : Nat} {D : Nat → Int} {a0 : Nat} (hB : B ≤ 10) : ∀ (m : Nat), (∀ p, a0 ≤ p → p < a0 + m → 0 ≤ D p ∧ D p ≤ 9) → 0 ≤ zVl B D a0 m ∧ zVl B D a0 m ≤ 10 ^ m - 1 := by
  intro m
  induction m with
  | zero => intro _; simp [zVl]
  | succ m ih =>
    intro h
    obtain ⟨h1, h2⟩ := ih (fun p q1 q2 => h p q1 (by omega))
    obtain ⟨h3, h4⟩ := h (a0 + m) (by omega) (by omega)
    simp only [zVl]
    have h5 : (0 : Int) ≤ B * zVl B D a0 m := Int.mul_nonneg (by omega) h1
    have h6 : (B : Int) * zVl B D a0 m ≤ 10 * zVl B D a0 m := Int.mul_le_mul_of_nonneg_right (by omega) h1
    rw [Int.pow_succ]
    omega
theorem zPow10 {m : Nat} (h : m ≤ 8) : (10 : Int) ^ m ≤ 100000000 := by
  have key : ∀ m, m < 9 → (10 : Int) ^ m ≤ 100000000 := by decide
  exact key m (by omega)
theorem zWs_tot {B : Nat} {sl : Nat → Option Nat} {t : Nat → Nat} {sg : Nat → Int} {at0 ln : Nat → Nat} {ds : List Nat} (hB : B ≤ 10) : ∀ (k : Nat), (∀ w, w < k → ln w ≤ 8 ∧ (sg w = 1 ∨ sg w = -1) ∧ ∀ p, at0 w ≤ p → p < at0 w + ln w → (∀ l, sl p = some l → l < ds.length) ∧ 0 ≤ zDp sl t ds p ∧ zDp sl t ds p ≤ 9) → -(100000000 * (k : Int)) ≤ zTotI (zWs B sl (fun p => (t p : Int) - 48) sg at0 ln k).2 0 (zWs B sl (fun p => (t p : Int) - 48) sg at0 ln k).1 ds ∧ zTotI (zWs B sl (fun p => (t p : Int) - 48) sg at0 ln k).2 0 (zWs B sl (fun p => (t p : Int) - 48) sg at0 ln k).1 ds ≤ 100000000 * (k : Int) := by
  intro k
  induction k with
  | zero =>
    intro _
    simp only [zWs]
    have : ∀ (ds : List Nat) (i : Nat), zTotI (fun _ => 0) i 0 ds = 0 := by
      intro ds
      induction ds with
      | nil => intro i; rfl
      | cons d ds ih => intro i; simp only [zTotI]; rw [Int.mul_zero, Int.add_zero, ih]
    rw [this]
    simp
  | succ k ih =>
    intro h
    obtain ⟨h1, h2⟩ := ih (fun w hw => h w (by omega))
    obtain ⟨h3, h4, h5⟩ := h k (by omega)
    simp only [zWs]
    rw [zWk_tot _ _ _ (fun p l q1 q2 q3 => (h5 p q1 q2).1 l q3)]
    obtain ⟨h6, h7⟩ := zVl_le (B := B) (D := zDp sl t ds) (a0 := at0 k) hB (ln k) (fun p q1 q2 => (h5 p q1 q2).2)
    have h8 := zPow10 h3
    rcases h4 with e | e
    · rw [e, Int.one_mul]; omega
    · rw [e]; omega
theorem zZero {x : Int} (h1 : -(2 ^ 31) < x) (h2 : x < 2 ^ 31) : (Int32.ofInt x == 0) = (Int64.ofInt x == 0) := by
  have e1 : Int32.size = 4294967296 := rfl
  have e2 : Int64.size = 18446744073709551616 := rfl
  rw [Bool.eq_iff_iff, beq_iff_eq, beq_iff_eq]
  constructor
  · intro h
    have := congrArg Int32.toInt h
    rw [Int32.toInt_ofInt, Int.bmod_eq_of_le (by omega) (by omega)] at this
    rw [this]
    rfl
  · intro h
    have := congrArg Int64.toInt h
    rw [Int64.toInt_ofInt, Int.bmod_eq_of_le (by omega) (by omega)] at this
    rw [this]
    rfl
theorem zAns_LM {B : Nat} {ok : Nat → Nat → Bool} {sl : Nat → Option Nat} {t : Nat → Nat} {sg : Nat → Int} {at0 ln : Nat → Nat} {nw lc : Nat} {r : Int} {c : Nat → Int} (hB : B ≤ 10) (hnw : nw ≤ 8) (hrc : zWs B sl (fun p => (t p : Int) - 48) sg at0 ln nw = (r, c)) (h : ∀ w, w < nw → ln w ≤ 8 ∧ (sg w = 1 ∨ sg w = -1) ∧ ∀ p, at0 w ≤ p → p < at0 w + ln w → (∀ l, sl p = some l → l < lc) ∧ (sl p = none → 48 ≤ t p ∧ t p ≤ 57)) : zAnsL B ok c r lc = zAnsM B ok c r lc := by
  unfold zAnsL zAnsM
  apply List.filter_congr
  intro ds hds
  have hl := zEn_len _ _ _ _ hds
  have hlt := zEn_lt _ _ _ _ hds
  have := zWs_tot (ds := ds) (t := t) hB nw (fun w hw => ⟨(h w hw).1, (h w hw).2.1, fun p q1 q2 => by
    obtain ⟨a1, a2⟩ := (h w hw).2.2 p q1 q2
    refine ⟨fun l hl2 => by rw [hl]; exact a1 l hl2, ?_⟩
    unfold zDp
    cases e : sl p with
    | none =>
      have := a2 e
      show 0 ≤ (t p : Int) - 48 ∧ (t p : Int) - 48 ≤ 9
      omega
    | some l =>
      have hlt2 : ds.getD l 0 < 10 := zGetD_lt (by decide) (fun d hd => Nat.lt_of_lt_of_le (hlt d hd) hB)
      show 0 ≤ ((ds.getD l 0 : Nat) : Int) ∧ ((ds.getD l 0 : Nat) : Int) ≤ 9
      omega⟩)
  rw [hrc] at this
  dsimp only at this
  exact zZero (by omega) (by omega)
/-! values -/
theorem zHv_congr {b : Int64} {D D2 : Nat → Int32} : ∀ (k i : Nat) (v : Int64), (∀ j, i ≤ j → j < i + k → D j = D2 j) → zHv b D k i v = zHv b D2 k i v := by
  intro k
  induction k with
  | zero => intro i v _; rfl
  | succ k ih =>
    intro i v h
    simp only [zHv]
    rw [h i (Nat.le_refl _) (by omega), ih (i + 1) _ (fun j q1 q2 => h j (by omega) (by omega))]
theorem zSv_congr {bh bh2 tk tk2 : Nat → Bool} {E E2 : Nat → Int64} {b : Bool} : ∀ (k i : Nat) (v : Int64), (∀ j, i ≤ j → j < i + k → bh j = bh2 j ∧ tk j = tk2 j ∧ E j = E2 j) → zSv bh tk E b k i v = zSv bh2 tk2 E2 b k i v := by
  intro k
  induction k with
  | zero => intro i v _; rfl
  | succ k ih =>
    intro i v h
    simp only [zSv]
    obtain ⟨h1, h2, h3⟩ := h i (Nat.le_refl _) (by omega)
    rw [h1, h2, h3, ih (i + 1) _ (fun j q1 q2 => h j (by omega) (by omega))]
theorem zCv_congr {bh bh2 : Nat → Bool} {E E2 : Nat → Int64} : ∀ (k i : Nat) (v : Int64), (∀ j, i ≤ j → j < i + k → bh j = bh2 j ∧ E j = E2 j) → zCv bh E k i v = zCv bh2 E2 k i v := by
  intro k
  induction k with
  | zero => intro i v _; rfl
  | succ k ih =>
    intro i v h
    simp only [zCv]
    obtain ⟨h1, h3⟩ := h i (Nat.le_refl _) (by omega)
    rw [h1, h3, ih (i + 1) _ (fun j q1 q2 => h j (by omega) (by omega))]
theorem zHc_congr {tk tk2 bh bh2 : Nat → Bool} : ∀ (k i c : Nat), (∀ j, i ≤ j → j < i + k → bh j = bh2 j ∧ tk j = tk2 j) → zHc tk bh k i c = zHc tk2 bh2 k i c := by
  intro k
  induction k with
  | zero => intro i v _; rfl
  | succ k ih =>
    intro i v h
    simp only [zHc]
    obtain ⟨h1, h3⟩ := h i (Nat.le_refl _) (by omega)
    rw [h1, h3, ih (i + 1) _ (fun j q1 q2 => h j (by omega) (by omega))]
def zHn (B : Nat) (D : Nat → Nat) : Nat → Nat → Nat → Nat
  | 0, _, v => v
  | k + 1, i, v => zHn B D k (i + 1) (v * B + D i)
theorem zHv_n {B : Nat} (hB : B ≤ 10) {D : Nat → Int32} {N : Nat → Nat} : ∀ (k i v : Nat), (∀ j, i ≤ j → j < i + k → D j = nI (N j) ∧ N j ≤ 9) → zHv (nI B).toInt64 D k i (lN v) = lN (zHn B N k i v) := by
  intro k
  induction k with
  | zero => intro i v _; rfl
  | succ k ih =>
    intro i v h
    simp only [zHv, zHn]
    obtain ⟨h1, h2⟩ := h i (Nat.le_refl _) (by omega)
    rw [h1, nI_l (n := N i) (by omega), show lN v * (nI B).toInt64 + lN (N i) = lN (v * B + N i) by rw [nI_l (by omega), lN_mul, lN_add], ih (i + 1) _ (fun j q1 q2 => h j (by omega) (by omega))]
theorem zHn_le {B : Nat} (hB : B ≤ 10) {N : Nat → Nat} : ∀ (k i v : Nat), (∀ j, i ≤ j → j < i + k → N j ≤ 9) → zHn B N k i v + 1 ≤ (v + 1) * 10 ^ k := by
  intro k
  induction k with
  | zero => intro i v _; simp [zHn]
  | succ k ih =>
    intro i v h
    simp only [zHn]
    have h1 := h i (Nat.le_refl _) (by omega)
    have h2 := ih (i + 1) (v * B + N i) (fun j q1 q2 => h j (by omega) (by omega))
    refine Nat.le_trans h2 ?_
    rw [Nat.pow_succ, ← Nat.mul_assoc, Nat.mul_right_comm]
    refine Nat.mul_le_mul_right _ ?_
    have : v * B ≤ v * 10 := Nat.mul_le_mul_left _ hB
    omega
def zCn2 (bh : Nat → Bool) (E : Nat → Nat) : Nat → Nat → Nat → Nat
  | 0, _, v => v
  | k + 1, i, v => zCn2 bh E k (i + 1) (if bh i then v else v + E i)
theorem zCv_n {bh : Nat → Bool} {E : Nat → Int64} {N : Nat → Nat} : ∀ (k i v : Nat), (∀ j, i ≤ j → j < i + k → E j = lN (N j) ∧ N j < 100000000) → zCv bh E k i (lN v) = lN (zCn2 bh N k i v) ∧ zCn2 bh N k i v ≤ v + 100000000 * k := by
  intro k
  induction k with
  | zero => intro i v _; exact ⟨rfl, by simp [zCn2]⟩
  | succ k ih =>
    intro i v h
    simp only [zCv, zCn2]
    obtain ⟨h1, h2⟩ := h i (Nat.le_refl _) (by omega)
    by_cases e : bh i = true
    · rw [if_pos e, if_pos e]
      obtain ⟨a1, a2⟩ := ih (i + 1) v (fun j q1 q2 => h j (by omega) (by omega))
      exact ⟨a1, by omega⟩
    · rw [if_neg e, if_neg e, h1, lN_add]
      obtain ⟨a1, a2⟩ := ih (i + 1) (v + N i) (fun j q1 q2 => h j (by omega) (by omega))
      exact ⟨a1, by omega⟩
theorem zDv_n {B : Nat} (h1 : 1 ≤ B) (h2 : B ≤ 10) : ∀ (m x : Nat), x < 2 ^ 62 → zDv (nI B).toInt64 m (lN x) = lN (x / B ^ m) := by
  intro m
  induction m with
  | zero => intro x _; simp [zDv]
  | succ m ih =>
    intro x hx
    simp only [zDv]
    rw [nI_l (by omega), pk_lDiv (by omega) (by omega) (by omega), ← nI_l (by omega), ih (x / B) (Nat.lt_of_le_of_lt (Nat.div_le_self _ _) hx), Nat.div_div_eq_div_mul, Nat.pow_succ, Nat.mul_comm B]
/-! always the same -/
theorem zSm2_f {D : Nat → Int32} : ∀ m k, zSm2 D m k false = false := by
  intro m
  induction m with
  | zero => intro k; rfl
  | succ m ih => intro k; simp only [zSm2, Bool.false_and]; exact ih _
theorem zSm_tie {D D2 : Nat → Int32} (h0 : D 0 = D2 0) : ∀ m k, (∀ j, k ≤ j → j < k + m → D j = D2 j) → zSm D m k = zSm2 D2 m k true := by
  intro m
  induction m with
  | zero => intro k _; rfl
  | succ m ih =>
    intro k h
    simp only [zSm, zSm2, Bool.true_and]
    rw [h k (Nat.le_refl _) (by omega), h0]
    by_cases e : D2 k = D2 0
    · rw [if_pos e, decide_eq_true e]
      exact ih _ (fun j q1 q2 => h j (by omega) (by omega))
    · rw [if_neg e, decide_eq_false e, zSm2_f]
theorem zFx_congr {P P2 : Nat → Bool} : ∀ m i c, (∀ j, i ≤ j → j < i + m → P j = P2 j) → zFx P m i c = zFx P2 m i c := by
  intro m
  induction m with
  | zero => intro i c _; rfl
  | succ m ih =>
    intro i c h
    simp only [zFx]
    rw [h i (Nat.le_refl _) (by omega), ih (i + 1) _ (fun j q1 q2 => h j (by omega) (by omega))]
