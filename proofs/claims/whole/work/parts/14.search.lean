/-! THE SEARCH'S OWN WORDS -/
theorem zBit {u d : Nat} (hu : u < 2 ^ 31) (hd : d < 32) : (nI u >>> (nI d &&& 31)) &&& nI 1 = zB (u.testBit d) := by
  rw [pk_shrN hu (nI d &&& 31) d (s_l d hd), pk_andN (n := u / 2 ^ d) (by have := Nat.div_le_self u (2 ^ d); omega) (m := nI 1) 1 (by decide), Nat.testBit_eq_decide_div_mod_eq]
  have h : u / 2 ^ d % 2 ^ 1 = 0 ∨ u / 2 ^ d % 2 ^ 1 = 1 := by omega
  rcases h with h | h
  · rw [h, decide_eq_false (by omega)]; rfl
  · rw [h, decide_eq_true (by omega)]; rfl
def zOk (bar : Bool) (fr i d : Nat) : Bool := !(decide (d = 0) && bar && fr.testBit i)
def zWay (F7 F8 F9 : Nat → Int32) (wl : List (Int32 × Int32 × Nat)) : Prop := ∀ j (h : j < wl.length), F7 j = wl[j].1 ∧ F8 j = wl[j].2.1 ∧ F9 j = nI wl[j].2.2
theorem zWay_push {F7 F8 F9 : Nat → Int32} {wl : List (Int32 × Int32 × Nat)} (h : zWay F7 F8 F9 wl) (t x : Int32) (u : Nat) : zWay (upd F7 wl.length t) (upd F8 wl.length x) (upd F9 wl.length (nI u)) (wl ++ [(t, x, u)]) := by
  intro j hj
  rw [List.length_append, List.length_singleton] at hj
  by_cases e : j = wl.length
  · subst e
    simp [upd]
  · have h1 : j < wl.length := by omega
    have h2 := h j h1
    simp only [upd, if_neg e]
    rw [List.getElem_append_left h1]
    exact h2
/-- the first from w0 on in the chain c; -1 when there is none -/
def zIsN (hs : Nat → Nat) (N c w0 : Nat) (r : Int32) : Prop := (r = -1 ∧ ∀ w, w0 ≤ w → w < N → hs w ≠ c) ∨ (∃ w, r = nI w ∧ w0 ≤ w ∧ w < N ∧ hs w = c ∧ ∀ v, w0 ≤ v → v < w → hs v ≠ c)
theorem zIsN_end {hs : Nat → Nat} {N c : Nat} : zIsN hs N c N (-1) := Or.inl ⟨rfl, fun w h1 h2 => by omega⟩
theorem zIsN_hit {hs : Nat → Nat} {N w : Nat} (h : w < N) : zIsN hs N (hs w) w (nI w) := Or.inr ⟨w, rfl, Nat.le_refl _, h, rfl, fun v h1 h2 => by omega⟩
theorem zIsN_skip {hs : Nat → Nat} {N c w : Nat} {r : Int32} (hc : hs w ≠ c) (h : zIsN hs N c (w + 1) r) : zIsN hs N c w r := by
  rcases h with ⟨h1, h2⟩ | ⟨v, h1, h2, h3, h4, h5⟩
  · refine Or.inl ⟨h1, fun q q1 q2 => ?_⟩
    by_cases e : q = w
    · rw [e]; exact hc
    · exact h2 q (by omega) q2
  · refine Or.inr ⟨v, h1, by omega, h3, h4, fun q q1 q2 => ?_⟩
    by_cases e : q = w
    · rw [e]; exact hc
    · exact h5 q (by omega) q2
def rmL (k : Nat) : Room := { frames := 2 + k, cells := 0, slots := 0, locals := 45 + 25 * k }
theorem upd_self {f : Nat → Int32} {k : Nat} {v : Int32} (h : f k = v) : upd f k v = f := by
  funext j
  by_cases e : j = k
  · rw [e, pk_us, h]
  · rw [pk_un e]
theorem upd_upd (f : Nat → Int32) (k : Nat) (v w : Int32) : upd (upd f k v) k w = upd f k w := by
  funext j
  by_cases e : j = k
  · rw [e, pk_us, pk_us]
  · rw [pk_un e, pk_un e, pk_un e]
theorem sA3_self (g : Nat → Nat → Int32) : sA (sA (sA g 7 (g 7)) 8 (g 8)) 9 (g 9) = g := by
  rw [sA_self, show sA g 8 (g 8) = g from sA_self g 8, sA_self]
theorem sA3_3 (g : Nat → Nat → Int32) (A7 A8 A9 B7 B8 B9 : Nat → Int32) : sA (sA (sA (sA (sA (sA g 7 A7) 8 A8) 9 A9) 7 B7) 8 B8) 9 B9 = sA (sA (sA g 7 B7) 8 B8) 9 B9 := by
  funext q
  by_cases h7 : q = 7
  · simp [sA, h7]
  · by_cases h8 : q = 8
    · simp [sA, h8]
    · by_cases h9 : q = 9
      · simp [sA, h9]
      · simp [sA, h7, h8, h9]
def zPre (B : Nat) (ok : Nat → Nat → Bool) (wt : Nat → Int32) (k i u : Nat) (x t : Int32) (d : Nat) : List (Int32 × Int32 × Nat) := (List.range d).flatMap fun d => if u.testBit d || !ok i d then [] else zLs B ok wt k (i + 1) (u ||| 2 ^ d) (zWd x (nI i) (nI d)) (t + nI d * wt i)
theorem zPre_S {B : Nat} {ok : Nat → Nat → Bool} {wt : Nat → Int32} {k i u : Nat} {x t : Int32} {d : Nat} : zPre B ok wt k i u x t (d + 1) = zPre B ok wt k i u x t d ++ (if (u.testBit d || !ok i d) = true then [] else zLs B ok wt k (i + 1) (u ||| 2 ^ d) (zWd x (nI i) (nI d)) (t + nI d * wt i)) := by
  unfold zPre
  rw [List.range_succ, List.flatMap_append, List.flatMap_singleton]
theorem zPre_le (B : Nat) (ok : Nat → Nat → Bool) (wt : Nat → Int32) (k i u : Nat) (x t : Int32) {d : Nat} (h : d ≤ B) : (zPre B ok wt k i u x t d).length ≤ (zPre B ok wt k i u x t B).length := by
  have key : ∀ j, (zPre B ok wt k i u x t d).length ≤ (zPre B ok wt k i u x t (d + j)).length := by
    intro j
    induction j with
    | zero => exact Nat.le_refl _
    | succ j ih =>
      rw [← Nat.add_assoc, zPre_S, List.length_append]
      omega
  have := key (B - d)
  rw [show d + (B - d) = B by omega] at this
  exact this
theorem zMay0 {u d : Nat} {o : Bool} (h : zB (!u.testBit d && o) = 0) : (u.testBit d || !o) = true := by
  have h := zB_eq0.mp h
  revert h
  cases u.testBit d <;> cases o <;> simp
theorem zMay1 {u d : Nat} {o : Bool} (h : ¬ zB (!u.testBit d && o) = 0) : ¬ (u.testBit d || !o) = true := by
  have h := zB_n0 h
  revert h
  cases u.testBit d <;> cases o <;> simp
theorem zUse {u d : Nat} (h : d < 31) : nI u ||| (nI 1 <<< (nI d &&& 31)) = nI (u ||| 2 ^ d) := by
  rw [zShl h, nI_or]
theorem zOrLt {B u d : Nat} (hu : u < 2 ^ B) (hd : d < B) : u ||| 2 ^ d < 2 ^ B := Nat.or_lt_two_pow hu (Nat.pow_lt_pow_right (by decide) hd)
theorem zLt1024 {B u : Nat} (hu : u < 2 ^ B) (hB : B ≤ 10) : u < 1024 := Nat.lt_of_lt_of_le hu (Nat.le_trans (Nat.pow_le_pow_right (by decide) hB) (by decide))
/-! chains and answers -/
theorem sA2u {g : Nat → Nat → Int32} {A B : Nat → Int32} {k j m c : Nat} {x y : Int32} (h : k ≠ j) : updA (updA (sA (sA g k A) j B) k m x) j c y = sA (sA g k (upd A m x)) j (upd B c y) := by
  funext q
  unfold updA
  by_cases h1 : q = j
  · subst h1
    simp [sA, Ne.symm h]
  · by_cases h2 : q = k
    · subst h2
      simp [sA, h]
    · simp [sA, h1, h2]
theorem zPr (m : Nat) : nI (m + 1) - nI 1 = nI m := by
  rw [pk_sub (by omega)]
  rfl
theorem zM1 (m : Nat) : nI m + Int32.ofInt (-1) = nI m - nI 1 := by
  rw [Int32.sub_eq_add_neg]
  rfl
def zHs (x : Int32) : Nat := (x.toInt % 4099).toNat
theorem zHs_lt (x : Int32) : zHs x < 4099 := by
  unfold zHs
  have h1 := Int.emod_nonneg x.toInt (show (4099 : Int) ≠ 0 by decide)
  have h2 := Int.emod_lt_of_pos x.toInt (show (0 : Int) < 4099 by decide)
  omega
def zChain (S X F : Nat → Int32) (N : Nat) : Prop := (∀ c, c < 4099 → zIsN (fun w => zHs (S w)) N c 0 (F c)) ∧ ∀ w, w < N → zIsN (fun w => zHs (S w)) N (zHs (S w)) (w + 1) (X w)
theorem zCh1 {S F : Nat → Int32} {N m : Nat} (hm : m + 1 ≤ N) (h1 : ∀ c, c < 4099 → zIsN (fun w => zHs (S w)) N c (m + 1) (F c)) : ∀ c, c < 4099 → zIsN (fun w => zHs (S w)) N c m (upd F (zHs (S m)) (nI m) c) := by
  intro c hc
  by_cases e : c = zHs (S m)
  · subst e
    rw [pk_us]
    exact zIsN_hit (hs := fun w => zHs (S w)) (by omega)
  · rw [pk_un e]
    exact zIsN_skip (fun q => e q.symm) (h1 c hc)
theorem zCh2 {S X F : Nat → Int32} {N m : Nat} (hm : m + 1 ≤ N) (h1 : ∀ c, c < 4099 → zIsN (fun w => zHs (S w)) N c (m + 1) (F c)) (h2 : ∀ w, m + 1 ≤ w → w < N → zIsN (fun w => zHs (S w)) N (zHs (S w)) (w + 1) (X w)) : ∀ w, m ≤ w → w < N → zIsN (fun w => zHs (S w)) N (zHs (S w)) (w + 1) (upd X m (F (zHs (S m))) w) := by
  intro w q1 q2
  by_cases e : w = m
  · subst e
    rw [pk_us]
    exact h1 _ (zHs_lt _)
  · rw [pk_un e]
    exact h2 w (by omega) q2
theorem zIsN_neg {hs : Nat → Nat} {N c j : Nat} {r : Int32} (h : zIsN hs N c j r) (hr : r < 0) (hN : N < 2 ^ 31) : ∀ w, j ≤ w → w < N → hs w ≠ c := by
  rcases h with ⟨_, h2⟩ | ⟨w, h1, _, h3, _⟩
  · exact h2
  · rw [h1] at hr
    exact absurd hr (nI_pos (by omega))
theorem zIsN_pos {hs : Nat → Nat} {N c j : Nat} {r : Int32} (h : zIsN hs N c j r) (hr : ¬ r < 0) : ∃ w, r = nI w ∧ j ≤ w ∧ w < N ∧ hs w = c ∧ ∀ v, j ≤ v → v < w → hs v ≠ c := by
  rcases h with ⟨h1, _⟩ | h
  · rw [h1] at hr
    exact absurd (by decide) hr
  · exact h
def zIs (F : Nat → Int32) (P : List Int32) : Prop := ∀ j (h : j < P.length), F j = P[j]
theorem zIs_push {F : Nat → Int32} {P : List Int32} (h : zIs F P) (y : Int32) : zIs (upd F P.length y) (P ++ [y]) := by
  intro j hj
  rw [List.length_append, List.length_singleton] at hj
  by_cases e : j = P.length
  · subst e
    rw [pk_us]
    simp
  · rw [pk_un e, List.getElem_append_left (by omega)]
    exact h j (by omega)
theorem zTk1 {α : Type} (A C : List α) (h : 1000 ≤ (A.take 1000).length) : (A ++ C).take 1000 = A.take 1000 := by
  rw [List.length_take] at h
  exact List.take_append_of_le_length (by omega)
theorem zTk2 {α : Type} (A C : List α) : (A.take 1000 ++ C).take 1000 = (A ++ C).take 1000 := by
  by_cases h : A.length ≤ 1000
  · rw [List.take_of_length_le h]
  · rw [List.take_append_of_le_length (l₁ := A) (by omega), List.take_append_of_le_length (by rw [List.length_take]; omega), List.take_take]
    congr 1
theorem zAddB {D : va_G} {cA : ClassId} {a : Nat → Nat} {f : Nat → Int32} {g : Nat → Nat → Int32} {Q : List Int32} {F12 : Nat → Int32} {y : Int32} {H : Heap} {zu : zSt} (hI : zIs F12 Q) (hQ : Q.length ≤ 1000) (h : zu = if Q.length < 1000 then (upd (upd f 22 (nI Q.length)) 22 (nI (Q.length + 1)), updA (sA g 12 F12) 12 Q.length y) else (upd f 22 (nI Q.length), sA g 12 F12)) (hP : va_P D vwCl (WT cA a zu.1 zu.2) H) :
    ∃ F2, zIs F2 ((Q ++ [y]).take 1000) ∧ va_P D vwCl (WT cA a (upd f 22 (nI ((Q ++ [y]).take 1000).length)) (sA g 12 F2)) H := by
  by_cases hlt : Q.length < 1000
  · rw [if_pos hlt] at h
    subst h
    rw [List.take_of_length_le (by simp; omega)]
    refine ⟨upd F12 Q.length y, zIs_push hI y, ?_⟩
    rw [← upd_upd f 22 (nI Q.length) _, ← sA_sA g 12 F12 _, List.length_append]
    exact hP
  · rw [if_neg hlt] at h
    subst h
    rw [List.take_append_of_le_length (by omega), List.take_of_length_le hQ]
    exact ⟨F12, hI, hP⟩
theorem zAndLt {x u : Nat} (h : u < 1024) : x &&& u < 2 ^ 31 := Nat.lt_of_le_of_lt Nat.and_le_right (by omega)
theorem zfilt1 {α : Type} (p : α → Bool) (w : α) : List.filter p [w] = if p w = true then [w] else [] := by
  cases h : p w <;> simp [h]
theorem zJn_one (wl : List (Int32 × Int32 × Nat)) (w : Int32 × Int32 × Nat) (u : Nat) (x t : Int32) : zJn (wl ++ [w]) u x t = zJn wl u x t ++ (if (w.1 == -t && w.2.2 &&& u == 0) = true then [x ||| w.2.1] else []) := by
  unfold zJn
  rw [List.filter_append, List.map_append]
  congr 1
  rw [zfilt1]
  by_cases h : (w.1 == -t && w.2.2 &&& u == 0) = true
  · rw [if_pos h, if_pos h]; rfl
  · rw [if_neg h, if_neg h]; rfl
theorem zJn_skip {F7 F8 F9 : Nat → Int32} {wl : List (Int32 × Int32 × Nat)} {u : Nat} {x t : Int32} (hw : zWay F7 F8 F9 wl) (j : Nat) : ∀ n, j + n ≤ wl.length → (∀ v, j ≤ v → v < j + n → zHs (F7 v) ≠ zHs (-t)) → zJn (wl.take (j + n)) u x t = zJn (wl.take j) u x t := by
  intro n
  induction n with
  | zero => intro _ _; rfl
  | succ n ih =>
    intro h1 h2
    have hlt : j + n < wl.length := by omega
    rw [show j + (n + 1) = j + n + 1 by omega, List.take_succ, List.getElem?_eq_getElem hlt]
    show zJn (wl.take (j + n) ++ [wl[j + n]]) u x t = _
    rw [zJn_one, ih (by omega) (fun v q1 q2 => h2 v q1 (by omega)), if_neg, List.append_nil]
    intro q
    simp only [Bool.and_eq_true, beq_iff_eq] at q
    have h3 := h2 (j + n) (by omega) (by omega)
    rw [(hw (j + n) hlt).1, q.1] at h3
    exact h3 rfl
theorem zJn_to {F7 F8 F9 : Nat → Int32} {wl : List (Int32 × Int32 × Nat)} {u : Nat} {x t : Int32} (hw : zWay F7 F8 F9 wl) {j w : Nat} (h1 : j ≤ w) (h2 : w < wl.length) (h3 : ∀ v, j ≤ v → v < w → zHs (F7 v) ≠ zHs (-t)) : zJn (wl.take (w + 1)) u x t = zJn (wl.take j) u x t ++ (if (wl[w].1 == -t && wl[w].2.2 &&& u == 0) = true then [x ||| wl[w].2.1] else []) := by
  rw [List.take_succ, List.getElem?_eq_getElem h2]
  show zJn (wl.take w ++ [wl[w]]) u x t = _
  rw [zJn_one]
  have h4 := zJn_skip (u := u) (x := x) (t := t) hw j (w - j) (by omega) (fun v q1 q2 => h3 v q1 (by omega))
  rw [show j + (w - j) = w by omega] at h4
  rw [h4]
theorem zJn_all {wl : List (Int32 × Int32 × Nat)} {u : Nat} {x t : Int32} {j : Nat} (h : wl.length ≤ j) : zJn (wl.take j) u x t = zJn wl u x t := by
  rw [List.take_of_length_le h]
theorem zJn_end {F7 F8 F9 : Nat → Int32} {wl : List (Int32 × Int32 × Nat)} {u : Nat} {x t : Int32} (hw : zWay F7 F8 F9 wl) {j : Nat} (hj : j ≤ wl.length) (h : ∀ w, j ≤ w → w < wl.length → zHs (F7 w) ≠ zHs (-t)) : zJn (wl.take j) u x t = zJn wl u x t := by
  have h4 := zJn_skip (u := u) (x := x) (t := t) hw j (wl.length - j) (by omega) (fun v q1 q2 => h v q1 (by omega))
  rw [show j + (wl.length - j) = wl.length by omega, List.take_length] at h4
  exact h4.symm
def rmT (k : Nat) : Room := { frames := 3 + k, cells := 0, slots := 0, locals := 67 + 26 * k }
def zTPre (B : Nat) (ok : Nat → Nat → Bool) (wt : Nat → Int32) (wl : List (Int32 × Int32 × Nat)) (k i u : Nat) (x t : Int32) (d : Nat) : List Int32 := (List.range d).flatMap fun d => if u.testBit d || !ok i d then [] else zTE B ok wt wl k (i + 1) (u ||| 2 ^ d) (zWd x (nI i) (nI d)) (t + nI d * wt i)
theorem zTPre_S {B : Nat} {ok : Nat → Nat → Bool} {wt : Nat → Int32} {wl : List (Int32 × Int32 × Nat)} {k i u : Nat} {x t : Int32} {d : Nat} : zTPre B ok wt wl k i u x t (d + 1) = zTPre B ok wt wl k i u x t d ++ (if (u.testBit d || !ok i d) = true then [] else zTE B ok wt wl k (i + 1) (u ||| 2 ^ d) (zWd x (nI i) (nI d)) (t + nI d * wt i)) := by
  unfold zTPre
  rw [List.range_succ, List.flatMap_append, List.flatMap_singleton]
theorem zTPre_ex (B : Nat) (ok : Nat → Nat → Bool) (wt : Nat → Int32) (wl : List (Int32 × Int32 × Nat)) (k i u : Nat) (x t : Int32) {d : Nat} (h : d ≤ B) : ∃ C, zTPre B ok wt wl k i u x t B = zTPre B ok wt wl k i u x t d ++ C := by
  have key : ∀ j, ∃ C, zTPre B ok wt wl k i u x t (d + j) = zTPre B ok wt wl k i u x t d ++ C := by
    intro j
    induction j with
    | zero => exact ⟨[], by simp⟩
    | succ j ih =>
      obtain ⟨C, hC⟩ := ih
      exact ⟨_, by rw [← Nat.add_assoc, zTPre_S, hC, List.append_assoc]⟩
  have := key (B - d)
  rw [show d + (B - d) = B by omega] at this
  exact this
