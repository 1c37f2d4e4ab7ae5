/-! the reference's weights -/
def zMlOk (G1 G6 : Nat → Int32) (lc : Nat) (t : Nat → Nat) (sl : Nat → Option Nat) (p : Nat) : Prop := G1 p = nI (t p) ∧ t p < 256 ∧ ((sl p = none ∧ zIx G6 (G1 p) lc 0 = -1) ∨ ∃ l, l < lc ∧ sl p = some l ∧ zIx G6 (G1 p) lc 0 = nI l)
def zRelL (G : Nat → Int64) (c : Nat → Int) (lc : Nat) : Prop := ∀ l, l < lc → G l = Int64.ofInt (c l)
def zNz (bar : Bool) (F : Nat → Int32) (fr lc : Nat) : Prop := ∀ l, l < lc → F l = zB (bar && fr.testBit l)
theorem zRelL_up {G : Nat → Int64} {c : Nat → Int} {l lc : Nat} {x : Int} (h : zRelL G c lc) : zRelL (vp_updL G l (Int64.ofInt x)) (zUp c l x) lc := by
  intro j hj
  unfold zUp vp_updL
  by_cases e : j = l
  · rw [if_pos e, if_pos e]
  · rw [if_neg e, if_neg e]
    exact h j hj
theorem zNz_up {F : Nat → Int32} {fr lc l : Nat} {bar : Bool} (hb : bar = true) (h : zNz bar F fr lc) : zNz bar (upd F l (nI 1)) (fr ||| 2 ^ l) lc := by
  subst hb
  intro j hj
  rw [Nat.testBit_or, Nat.testBit_two_pow]
  by_cases e : j = l
  · subst e
    rw [pk_us, decide_eq_true rfl, Bool.or_true]
    rfl
  · rw [pk_un e, decide_eq_false (Ne.symm e), Bool.or_false]
    exact h j hj
theorem zNz_f {F : Nat → Int32} {fr fr2 lc : Nat} {bar : Bool} (hb : bar = false) (h : zNz bar F fr lc) : zNz bar F fr2 lc := by
  subst hb
  intro j hj
  rw [Bool.false_and]
  have := h j hj
  rw [Bool.false_and] at this
  exact this
theorem zToL {x : Int} (h1 : -(2 ^ 31) ≤ x) (h2 : x < 2 ^ 31) : (Int32.ofInt x).toInt64 = Int64.ofInt x := by
  apply Int64.toInt_inj.mp
  rw [Int32.toInt_toInt64, Int64.toInt_ofInt, Int32.toInt_ofInt]
  have e1 : Int32.size = 4294967296 := rfl
  have e2 : Int64.size = 18446744073709551616 := rfl
  rw [Int.bmod_eq_of_le (by omega) (by omega), Int.bmod_eq_of_le (by omega) (by omega)]
theorem nI_toL {n : Nat} (h : n < 2 ^ 31) : (nI n).toInt64 = Int64.ofInt (n : Int) := by
  rw [nI_ofInt]
  exact zToL (by omega) (by omega)
theorem zAccL {r un : Int} {t : Nat} (ht : t < 256) : Int64.ofInt r + Int64.ofInt un * (nI t - nI 48).toInt64 = Int64.ofInt (r + un * ((t : Int) - 48)) := by
  rw [nI_ofInt, nI_ofInt, ← Int32.ofInt_sub, zToL (by omega) (by omega), Int64.ofInt_add, Int64.ofInt_mul]
  rfl
theorem zMulBL {un : Int} {B : Nat} (hB : B ≤ 10) : Int64.ofInt un * (nI B).toInt64 = Int64.ofInt (un * B) := by
  rw [nI_toL (by omega), Int64.ofInt_mul]
theorem zImp_up {f : Nat → Int32} {b b2 : Bool} (h : b = b2) : upd f 8 (zB b) = upd f 8 (zB b2) := by rw [h]
