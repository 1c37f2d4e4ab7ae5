/-! THE SEARCH'S OWN WORDS -/
theorem zBit {u d : Nat} (hu : u < 2 ^ 31) (hd : d < 32) : (nI u >>> (nI d &&& 31)) &&& nI 1 = zB (u.testBit d) := by
  rw [pk_shrN hu (nI d &&& 31) d (s_l d hd), pk_andN (n := u / 2 ^ d) (by have := Nat.div_le_self u (2 ^ d); omega) (m := nI 1) 1 (by decide), Nat.testBit_eq_decide_div_mod_eq]
  have h : u / 2 ^ d % 2 ^ 1 = 0 ∨ u / 2 ^ d % 2 ^ 1 = 1 := by omega
  rcases h with h | h
  · rw [h, decide_eq_false (by omega)]; rfl
  · rw [h, decide_eq_true (by omega)]; rfl
def zOk (bar : Bool) (fr i d : Nat) : Bool := !(decide (d = 0) && bar && fr.testBit i)
def zWay (F7 F8 F9 : Nat → Int32) (wl : List (Int32 × Int32 × Nat)) : Prop := ∀ j (h : j < wl.length), F7 j = wl[j].1 ∧ F8 j = wl[j].2.1 ∧ F9 j = nI wl[j].2.2
theorem zWay_push {F7 F8 F9 : Nat → Int32} {wl : List (Int32 × Int32 × Nat)} (h : zWay F7 F8 F9 wl) (t x : Int32) (u : Nat) : zWay (upd F7 wl.length t) (upd F8 wl.length x) (upd F9 wl.length (nI u)) (wl ++ [(t, x, u)]) := by
  intro j hj
  rw [List.length_append, List.length_singleton] at hj
  by_cases e : j = wl.length
  · subst e
    simp [upd]
  · have h1 : j < wl.length := by omega
    have h2 := h j h1
    simp only [upd, if_neg e]
    rw [List.getElem_append_left h1]
    exact h2
/-- the first from w0 on in the chain c; -1 when there is none -/
def zIsN (hs : Nat → Nat) (N c w0 : Nat) (r : Int32) : Prop := (r = -1 ∧ ∀ w, w0 ≤ w → w < N → hs w ≠ c) ∨ (∃ w, r = nI w ∧ w0 ≤ w ∧ w < N ∧ hs w = c ∧ ∀ v, w0 ≤ v → v < w → hs v ≠ c)
theorem zIsN_end {hs : Nat → Nat} {N c : Nat} : zIsN hs N c N (-1) := Or.inl ⟨rfl, fun w h1 h2 => by omega⟩
theorem zIsN_hit {hs : Nat → Nat} {N w : Nat} (h : w < N) : zIsN hs N (hs w) w (nI w) := Or.inr ⟨w, rfl, Nat.le_refl _, h, rfl, fun v h1 h2 => by omega⟩
theorem zIsN_skip {hs : Nat → Nat} {N c w : Nat} {r : Int32} (hc : hs w ≠ c) (h : zIsN hs N c (w + 1) r) : zIsN hs N c w r := by
  rcases h with ⟨h1, h2⟩ | ⟨v, h1, h2, h3, h4, h5⟩
  · refine Or.inl ⟨h1, fun q q1 q2 => ?_⟩
    by_cases e : q = w
    · rw [e]; exact hc
    · exact h2 q (by omega) q2
  · refine Or.inr ⟨v, h1, by omega, h3, h4, fun q q1 q2 => ?_⟩
    by_cases e : q = w
    · rw [e]; exact hc
    · exact h5 q (by omega) q2
def rmL (k : Nat) : Room := { frames := 2 + k, cells := 0, slots := 0, locals := 45 + 25 * k }
theorem upd_self {f : Nat → Int32} {k : Nat} {v : Int32} (h : f k = v) : upd f k v = f := by
  funext j
  by_cases e : j = k
  · rw [e, pk_us, h]
  · rw [pk_un e]
theorem upd_upd (f : Nat → Int32) (k : Nat) (v w : Int32) : upd (upd f k v) k w = upd f k w := by
  funext j
  by_cases e : j = k
  · rw [e, pk_us, pk_us]
  · rw [pk_un e, pk_un e, pk_un e]
theorem sA3_self (g : Nat → Nat → Int32) : sA (sA (sA g 7 (g 7)) 8 (g 8)) 9 (g 9) = g := by
  rw [sA_self, show sA g 8 (g 8) = g from sA_self g 8, sA_self]
theorem sA3_3 (g : Nat → Nat → Int32) (A7 A8 A9 B7 B8 B9 : Nat → Int32) : sA (sA (sA (sA (sA (sA g 7 A7) 8 A8) 9 A9) 7 B7) 8 B8) 9 B9 = sA (sA (sA g 7 B7) 8 B8) 9 B9 := by
  funext q
  by_cases h7 : q = 7
  · simp [sA, h7]
  · by_cases h8 : q = 8
    · simp [sA, h8]
    · by_cases h9 : q = 9
      · simp [sA, h9]
      · simp [sA, h7, h8, h9]
def zPre (B : Nat) (ok : Nat → Nat → Bool) (wt : Nat → Int32) (k i u : Nat) (x t : Int32) (d : Nat) : List (Int32 × Int32 × Nat) := (List.range d).flatMap fun d => if u.testBit d || !ok i d then [] else zLs B ok wt k (i + 1) (u ||| 2 ^ d) (zWd x (nI i) (nI d)) (t + nI d * wt i)
theorem zPre_S {B : Nat} {ok : Nat → Nat → Bool} {wt : Nat → Int32} {k i u : Nat} {x t : Int32} {d : Nat} : zPre B ok wt k i u x t (d + 1) = zPre B ok wt k i u x t d ++ (if (u.testBit d || !ok i d) = true then [] else zLs B ok wt k (i + 1) (u ||| 2 ^ d) (zWd x (nI i) (nI d)) (t + nI d * wt i)) := by
  unfold zPre
  rw [List.range_succ, List.flatMap_append, List.flatMap_singleton]
theorem zPre_le (B : Nat) (ok : Nat → Nat → Bool) (wt : Nat → Int32) (k i u : Nat) (x t : Int32) {d : Nat} (h : d ≤ B) : (zPre B ok wt k i u x t d).length ≤ (zPre B ok wt k i u x t B).length := by
  have key : ∀ j, (zPre B ok wt k i u x t d).length ≤ (zPre B ok wt k i u x t (d + j)).length := by
    intro j
    induction j with
    | zero => exact Nat.le_refl _
    | succ j ih =>
      rw [← Nat.add_assoc, zPre_S, List.length_append]
      omega
  have := key (B - d)
  rw [show d + (B - d) = B by omega] at this
  exact this
theorem zMay0 {u d : Nat} {o : Bool} (h : zB (!u.testBit d && o) = 0) : (u.testBit d || !o) = true := by
  have h := zB_eq0.mp h
  revert h
  cases u.testBit d <;> cases o <;> simp
theorem zMay1 {u d : Nat} {o : Bool} (h : ¬ zB (!u.testBit d && o) = 0) : ¬ (u.testBit d || !o) = true := by
  have h := zB_n0 h
  revert h
  cases u.testBit d <;> cases o <;> simp
theorem zUse {u d : Nat} (h : d < 31) : nI u ||| (nI 1 <<< (nI d &&& 31)) = nI (u ||| 2 ^ d) := by
  rw [zShl h, nI_or]
theorem zOrLt {B u d : Nat} (hu : u < 2 ^ B) (hd : d < B) : u ||| 2 ^ d < 2 ^ B := Nat.or_lt_two_pow hu (Nat.pow_lt_pow_right (by decide) hd)
theorem zLt1024 {B u : Nat} (hu : u < 2 ^ B) (hB : B ≤ 10) : u < 1024 := Nat.lt_of_lt_of_le hu (Nat.le_trans (Nat.pow_le_pow_right (by decide) hB) (by decide))
