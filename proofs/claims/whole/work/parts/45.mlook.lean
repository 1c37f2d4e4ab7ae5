/-! the reference's look at a text, in numbers -/
def zIsS (B u : Nat) : Bool := (decide (97 ≤ u) && decide (u ≤ 122)) || (decide (48 ≤ u) && decide (u < 48 + B))
def upN {α : Type} (F : Nat → α) (k : Nat) (x : α) : Nat → α := fun q => if q = k then x else F q
theorem upN_s {α : Type} (F : Nat → α) (k : Nat) (x : α) : upN F k x k = x := by simp [upN]
theorem upN_o {α : Type} (F : Nat → α) {k j : Nat} (x : α) (h : j ≠ k) : upN F k x j = F j := by simp [upN, h]
def zM0 (t : Nat → Nat) (i : Nat) : Bool := decide (0 < i) && decide (t (i - 1) = 45)
def zRk (t : Nat → Nat) : Nat → Nat → Nat → Nat → Bool → (Nat → Nat) → (Nat → Nat) → (Nat → Bool) → (Nat → Bool) → Nat × (Nat → Nat) × (Nat → Nat) × (Nat → Bool) × (Nat → Bool)
  | 0, _, w, _, _, at0, ln, mi, sd => (w, at0, ln, mi, sd)
  | k + 1, i, w, sg, bh, at0, ln, mi, sd => if zSgn (t i) = true then (if sg = 0 then zRk t k (i + 1) (w + 1) 1 bh (upN at0 w i) (upN ln w 1) (upN mi w (zM0 t i)) (upN sd w bh) else zRk t k (i + 1) w (sg + 1) bh at0 (upN ln (w - 1) (sg + 1)) mi sd) else zRk t k (i + 1) w 0 (bh || decide (t i = 61)) at0 ln mi sd
theorem zRk_a {t : Nat → Nat} {n i w sg : Nat} {bh : Bool} {at0 ln : Nat → Nat} {mi sd : Nat → Bool} (hi : i < n) (hs : zSgn (t i) = true) (hg : sg = 0) : zRk t (n - i) i w sg bh at0 ln mi sd = zRk t (n - (i + 1)) (i + 1) (w + 1) 1 bh (upN at0 w i) (upN ln w 1) (upN mi w (zM0 t i)) (upN sd w bh) := by
  rw [show n - i = (n - (i + 1)) + 1 by omega]
  simp only [zRk]
  rw [if_pos hs, if_pos hg]
theorem zRk_b {t : Nat → Nat} {n i w sg : Nat} {bh : Bool} {at0 ln : Nat → Nat} {mi sd : Nat → Bool} (hi : i < n) (hs : zSgn (t i) = true) (hg : ¬ sg = 0) : zRk t (n - i) i w sg bh at0 ln mi sd = zRk t (n - (i + 1)) (i + 1) w (sg + 1) bh at0 (upN ln (w - 1) (sg + 1)) mi sd := by
  rw [show n - i = (n - (i + 1)) + 1 by omega]
  simp only [zRk]
  rw [if_pos hs, if_neg hg]
theorem zRk_c {t : Nat → Nat} {n i w sg : Nat} {bh : Bool} {at0 ln : Nat → Nat} {mi sd : Nat → Bool} (hi : i < n) (hs : ¬ zSgn (t i) = true) : zRk t (n - i) i w sg bh at0 ln mi sd = zRk t (n - (i + 1)) (i + 1) w 0 (bh || decide (t i = 61)) at0 ln mi sd := by
  rw [show n - i = (n - (i + 1)) + 1 by omega]
  simp only [zRk]
  rw [if_neg hs]
theorem zSn_a {t : Nat → Nat} {n i sn sn2 : Nat} (hi : i < n) (h : sn2 = if 97 ≤ t i ∧ t i ≤ 122 then sn ||| 2 ^ (t i - 97) else sn) : zSn t (n - i) i sn = zSn t (n - (i + 1)) (i + 1) sn2 := by
  rw [show n - i = (n - (i + 1)) + 1 by omega]
  simp only [zSn]
  rw [← h]
theorem zgF {B : Nat} {t : Nat → Nat} {n i w sg sn : Nat} {bh : Bool} (hi : i < n) (h : (gStep B w sg sn bh (t i)).1 = false) : gRun B t (n - i) i w sg sn bh = nI i := by
  rw [show n - i = (n - (i + 1)) + 1 by omega]
  simp only [gRun]
  rw [h]
  rfl
theorem zgT {B : Nat} {t : Nat → Nat} {n i w sg sn w2 sg2 sn2 : Nat} {bh bh2 : Bool} (hi : i < n) (h : gStep B w sg sn bh (t i) = (true, w2, sg2, sn2, bh2)) : gRun B t (n - i) i w sg sn bh = gRun B t (n - (i + 1)) (i + 1) w2 sg2 sn2 bh2 := by
  rw [show n - i = (n - (i + 1)) + 1 by omega]
  simp only [gRun]
  rw [h]
  rfl
theorem zIsS_sgn {B u : Nat} (hB : B ≤ 10) (h : zIsS B u = true) : zSgn u = true := by
  unfold zIsS at h
  unfold zSgn
  simp only [Bool.or_eq_true, Bool.and_eq_true, decide_eq_true_eq] at h ⊢
  omega
theorem gs_fail {B w sg sn u : Nat} {bh : Bool} (hB : B ≤ 10) (h : zIsS B u = true) (hf : 8 < (if sg = 0 then w + 1 else w) ∨ 8 < sg + 1) : (gStep B w sg sn bh u).1 = false := by
  have e : ∀ sn, (gSign w sg sn bh).1 = false := by
    intro sn
    unfold gSign
    dsimp only
    rcases hf with q | q
    · rw [decide_eq_false (p := (if sg = 0 then w + 1 else w) ≤ 8) (by omega), Bool.false_and]
    · rw [decide_eq_false (p := sg + 1 ≤ 8) (by omega), Bool.and_false]
  unfold gStep
  by_cases h1 : 97 ≤ u ∧ u ≤ 122
  · rw [if_pos h1]
    split
    · exact e _
    · rfl
  · rw [if_neg h1]
    by_cases h2 : 48 ≤ u ∧ u ≤ 57
    · rw [if_pos h2]
      split
      · exact e _
      · rfl
    · unfold zIsS at h
      simp only [Bool.or_eq_true, Bool.and_eq_true, decide_eq_true_eq] at h
      rw [if_neg h2, if_neg (by omega), if_neg (by omega)]
theorem gs_ok {B w sg sn sn2 u : Nat} {bh : Bool} (hB : B ≤ 10) (h : zIsS B u = true) (h2 : sn2 = if 97 ≤ u ∧ u ≤ 122 then sn ||| 2 ^ (u - 97) else sn) (hp : zPc sn2 ≤ 8) (l1 : (if sg = 0 then w + 1 else w) ≤ 8) (l2 : sg + 1 ≤ 8) : gStep B w sg sn bh u = (true, (if sg = 0 then w + 1 else w), sg + 1, sn2, bh) := by
  have e : ∀ sn, gSign w sg sn bh = (true, (if sg = 0 then w + 1 else w), sg + 1, sn, bh) := by
    intro sn
    unfold gSign
    rw [decide_eq_true l1, decide_eq_true l2]
    rfl
  unfold zIsS at h
  simp only [Bool.or_eq_true, Bool.and_eq_true, decide_eq_true_eq] at h
  unfold gStep
  by_cases h1 : 97 ≤ u ∧ u ≤ 122
  · rw [if_pos h1] at h2 ⊢
    rw [← h2, if_pos hp, e]
  · rw [if_neg h1] at h2 ⊢
    rw [if_pos (by omega), if_pos (by omega), e, h2]
theorem gs_let8 {B w sg sn u : Nat} {bh : Bool} (h : 97 ≤ u ∧ u ≤ 122) (hp : 8 < zPc (sn ||| 2 ^ (u - 97))) : (gStep B w sg sn bh u).1 = false := by
  unfold gStep
  rw [if_pos h, if_neg (by omega)]
theorem zIsS_n {B u : Nat} (hB : B ≤ 10) (h : zIsS B u = false) : ¬ (97 ≤ u ∧ u ≤ 122) ∧ ¬ (48 ≤ u ∧ u < 48 + B) := by
  unfold zIsS at h
  simp only [Bool.or_eq_false_iff, Bool.and_eq_false_iff, decide_eq_false_iff_not] at h
  omega
theorem gs_n0 {B w sn u : Nat} {bh : Bool} (hB : B ≤ 10) (h : zIsS B u = false) (hf : True) : (gStep B w 0 sn bh u).1 = false := by
  obtain ⟨h1, h2⟩ := zIsS_n hB h
  unfold gStep gEnd
  rw [if_neg h1]
  by_cases h3 : 48 ≤ u ∧ u ≤ 57
  · rw [if_pos h3, if_neg (by omega)]
  · rw [if_neg h3]
    repeat' split
    all_goals rfl
theorem gs_n1 {B w sg sn u : Nat} {bh : Bool} (hB : B ≤ 10) (h : zIsS B u = false) (hf : u ≠ 43 ∧ u ≠ 45 ∧ u ≠ 61) : (gStep B w sg sn bh u).1 = false := by
  obtain ⟨h1, h2⟩ := zIsS_n hB h
  unfold gStep gEnd
  rw [if_neg h1]
  by_cases h3 : 48 ≤ u ∧ u ≤ 57
  · rw [if_pos h3, if_neg (by omega)]
  · rw [if_neg h3, if_neg (by omega), if_neg (by omega)]
theorem gs_n2 {B w sg sn u : Nat} {bh : Bool} (hu : u = 61) (hb : bh = true) : (gStep B w sg sn bh u).1 = false := by
  subst hu
  subst hb
  rfl
theorem gs_n3 {B w sg sn u : Nat} {bh : Bool} (hu : u = 43 ∨ u = 45) (hs : 0 < sg) : gStep B w sg sn bh u = (true, w, 0, sn, bh) := by
  unfold gStep gEnd
  rw [if_neg (by omega), if_neg (by omega), if_neg (by omega), if_pos hu, decide_eq_true hs]
theorem gs_n4 {B w sg sn u : Nat} {bh : Bool} (hu : u = 61) (hb : bh = false) (hs : 0 < sg) : gStep B w sg sn bh u = (true, w, 0, sn, true) := by
  subst hu
  subst hb
  unfold gStep gEnd
  rw [if_neg (by omega), if_neg (by omega), if_pos rfl, if_neg (by decide), decide_eq_true hs]
theorem zPc_new {n d : Nat} (hd : d < 32) (h : n.testBit d = false) : zPc (n ||| 2 ^ d) = zPc n + 1 := by
  unfold zPc
  have key : ∀ N, d < N → ((List.range N).filter (fun i => (n ||| 2 ^ d).testBit i)).length = ((List.range N).filter (fun i => n.testBit i)).length + 1 := by
    have k0 : ∀ N, N ≤ d → ((List.range N).filter (fun i => (n ||| 2 ^ d).testBit i)).length = ((List.range N).filter (fun i => n.testBit i)).length := by
      intro N
      induction N with
      | zero => intro _; rfl
      | succ N ih =>
        intro hN
        rw [List.range_succ, List.filter_append, List.filter_append, List.length_append, List.length_append, ih (by omega), zfilt1, zfilt1, Nat.testBit_or, Nat.testBit_two_pow, decide_eq_false (by omega), Bool.or_false]
    intro N
    induction N with
    | zero => intro h; omega
    | succ N ih =>
      intro hN
      rw [List.range_succ, List.filter_append, List.filter_append, List.length_append, List.length_append, zfilt1, zfilt1, Nat.testBit_or, Nat.testBit_two_pow]
      by_cases e : d = N
      · subst e
        rw [k0 d (Nat.le_refl _), h, decide_eq_true rfl]
        rfl
      · rw [decide_eq_false e, Bool.or_false, ih (by omega)]
        omega
  exact key 32 hd
theorem zOr_in {n d : Nat} (h : n.testBit d = true) : n ||| 2 ^ d = n := by
  apply Nat.eq_of_testBit_eq
  intro j
  rw [Nat.testBit_or, Nat.testBit_two_pow]
  by_cases e : d = j
  · subst e
    rw [h]
    rfl
  · rw [decide_eq_false e, Bool.or_false]
/-- the reference's fields and arrays while it looks -/
def zLR (f : Nat → Int32) (g : Nat → Nat → Int32) (f1 : Nat → Int32) (g1 : Nat → Nat → Int32) (w sg sn : Nat) (at0 ln : Nat → Nat) (mi sd : Nat → Bool) : Prop :=
  (∀ j, j ≠ 9 → f1 j = f j) ∧ (∀ j, j < 7 ∨ 11 < j → g1 j = g j) ∧ f1 9 = nI w ∧ (∀ k, k < 26 → g1 11 k = zB (sn.testBit k)) ∧ (∀ j, j < w → g1 7 j = nI (at0 j) ∧ g1 8 j = nI (ln j) ∧ g1 9 j = zB (mi j) ∧ g1 10 j = zB (sd j)) ∧ (0 < sg → 1 ≤ w ∧ ln (w - 1) = sg) ∧ w ≤ 8 ∧ sg ≤ 8 ∧ sn < 2 ^ 26 ∧ zPc sn ≤ 8
theorem zLR_see {f f1 : Nat → Int32} {g g1 : Nat → Nat → Int32} {w sg sn d : Nat} {at0 ln : Nat → Nat} {mi sd : Nat → Bool} (h : zLR f g f1 g1 w sg sn at0 ln mi sd) (hd : d < 26) (hp : zPc (sn ||| 2 ^ d) ≤ 8) : zLR f g f1 (updA g1 11 d (nI 1)) w sg (sn ||| 2 ^ d) at0 ln mi sd := by
  obtain ⟨q1, q2, q3, q4, q5, q6, q7, q8, q9, q10⟩ := h
  refine ⟨q1, fun j hj => ?_, q3, fun k hk => ?_, fun j hj => ?_, q6, q7, q8, Nat.or_lt_two_pow q9 (Nat.pow_lt_pow_right (by decide) hd), hp⟩
  · rw [updA, sA_o _ _ _ (by omega)]
    exact q2 j hj
  · rw [updA, sA_s, Nat.testBit_or, Nat.testBit_two_pow]
    by_cases e : k = d
    · subst e
      rw [pk_us, decide_eq_true rfl, Bool.or_true]
      rfl
    · rw [pk_un e, decide_eq_false (Ne.symm e), Bool.or_false]
      exact q4 k hk
  · rw [updA, sA_o _ _ _ (by omega), sA_o _ _ _ (by omega), sA_o _ _ _ (by omega), sA_o _ _ _ (by omega)]
    exact q5 j hj
theorem zLR_new {f f1 : Nat → Int32} {g g1 : Nat → Nat → Int32} {w sn i : Nat} {at0 ln : Nat → Nat} {mi sd : Nat → Bool} {m0 bh : Bool} (h : zLR f g f1 g1 w 0 sn at0 ln mi sd) (hw : w < 8) : zLR f g (upd f1 9 (nI (w + 1))) (updA (updA (updA (updA (updA g1 7 w (nI i)) 8 w (nI 0)) 9 w (zB m0)) 10 w (zB bh)) 8 w (nI 1)) (w + 1) 1 sn (upN at0 w i) (upN ln w 1) (upN mi w m0) (upN sd w bh) := by
  obtain ⟨q1, q2, q3, q4, q5, q6, q7, q8, q9, q10⟩ := h
  refine ⟨fun j hj => ?_, fun j hj => ?_, by rw [pk_us], fun k hk => ?_, fun j hj => ?_, fun _ => ⟨by omega, by rw [Nat.add_sub_cancel, upN_s]⟩, by omega, by omega, q9, q10⟩
  · rw [pk_un hj]
    exact q1 j hj
  · have e7 : j ≠ 7 := by omega
    have e8 : j ≠ 8 := by omega
    have e9 : j ≠ 9 := by omega
    have e10 : j ≠ 10 := by omega
    simp only [updA, sA, if_neg e7, if_neg e8, if_neg e9, if_neg e10]
    exact q2 j hj
  · exact q4 k hk
  · by_cases e : j = w
    · subst e
      simp [updA, sA, upd, upN]
    · have := q5 j (by omega)
      simpa [updA, sA, upd, upN, e] using this
theorem zLR_more {f f1 : Nat → Int32} {g g1 : Nat → Nat → Int32} {w sg sn : Nat} {at0 ln : Nat → Nat} {mi sd : Nat → Bool} (h : zLR f g f1 g1 w sg sn at0 ln mi sd) (hs : 0 < sg) (hg : sg < 8) : zLR f g f1 (updA g1 8 (w - 1) (nI (sg + 1))) w (sg + 1) sn at0 (upN ln (w - 1) (sg + 1)) mi sd := by
  obtain ⟨q1, q2, q3, q4, q5, q6, q7, q8, q9, q10⟩ := h
  have hw := (q6 hs).1
  refine ⟨q1, fun j hj => ?_, q3, fun k hk => q4 k hk, fun j hj => ?_, fun _ => ⟨hw, upN_s _ _ _⟩, q7, by omega, q9, q10⟩
  · rw [updA, sA_o _ _ _ (by omega)]
    exact q2 j hj
  · have := q5 j hj
    by_cases e : j = w - 1
    · subst e
      refine ⟨this.1, ?_, this.2.2⟩
      rw [updA, sA_s, pk_us, upN_s]
    · simpa [updA, sA, upd, upN, e] using this
theorem zLR_end {f f1 : Nat → Int32} {g g1 : Nat → Nat → Int32} {w sg sn : Nat} {at0 ln : Nat → Nat} {mi sd : Nat → Bool} (h : zLR f g f1 g1 w sg sn at0 ln mi sd) : zLR f g f1 g1 w 0 sn at0 ln mi sd := by
  obtain ⟨q1, q2, q3, q4, q5, q6, q7, q8, q9, q10⟩ := h
  exact ⟨q1, q2, q3, q4, q5, fun q => by omega, q7, by omega, q9, q10⟩
/-- what a good look leaves -/
def zLE (f1 : Nat → Int32) (g1 : Nat → Nat → Int32) (R : Nat × (Nat → Nat) × (Nat → Nat) × (Nat → Bool) × (Nat → Bool)) (sn : Nat) : Prop := f1 9 = nI R.1 ∧ R.1 ≤ 8 ∧ (∀ k, k < 26 → g1 11 k = zB (sn.testBit k)) ∧ (∀ j, j < R.1 → g1 7 j = nI (R.2.1 j) ∧ g1 8 j = nI (R.2.2.1 j) ∧ g1 9 j = zB (R.2.2.2.1 j) ∧ g1 10 j = zB (R.2.2.2.2 j))
theorem zLR_fin {f f1 : Nat → Int32} {g g1 : Nat → Nat → Int32} {w sg sn : Nat} {at0 ln : Nat → Nat} {mi sd : Nat → Bool} (h : zLR f g f1 g1 w sg sn at0 ln mi sd) : zLE f1 g1 (w, at0, ln, mi, sd) sn := by
  obtain ⟨q1, q2, q3, q4, q5, q6, q7, q8, q9, q10⟩ := h
  exact ⟨q3, q7, q4, q5⟩
theorem zIsS_nI {B u : Nat} (hu : u < 2 ^ 31) : zLet (nI u) = (decide (97 ≤ u) && decide (u ≤ 122)) := zLet_nI hu
def zR0 (t : Nat → Nat) (n : Nat) : Nat × (Nat → Nat) × (Nat → Nat) × (Nat → Bool) × (Nat → Bool) := zRk t n 0 0 0 false (fun _ => 0) (fun _ => 0) (fun _ => false) (fun _ => false)
