/-! what a search leaves -/
theorem zWs_congr {B : Nat} {sl : Nat → Option Nat} {dg : Nat → Int} {sg sg' : Nat → Int} {at0 ln : Nat → Nat} : ∀ {k : Nat}, (∀ w, w < k → sg w = sg' w) → zWs B sl dg sg at0 ln k = zWs B sl dg sg' at0 ln k := by
  intro k
  induction k with
  | zero => intro _; rfl
  | succ k ih =>
    intro h
    simp only [zWs]
    rw [ih (fun w hw => h w (by omega)), h k (by omega)]
def zAnsL (B : Nat) (ok : Nat → Nat → Bool) (c : Nat → Int) (r : Int) (lc : Nat) : List (List Nat) := (zEn B ok lc 0 0).filter (fun ds => Int32.ofInt (zTotI c 0 r ds) == 0)
theorem zFin {B : Nat} {ok : Nat → Nat → Bool} {F6 : Nat → Int32} {c : Nat → Int} {r : Int} {lc : Nat} (h : zRel F6 c) (hlc : lc ≤ 8) : [] ++ zTE B ok F6 (zLs B ok F6 (lc / 2) (lc - lc / 2) 0 (nI 0) (nI 0)) (lc - lc / 2) 0 0 (nI 0) (Int32.ofInt r) = (zAnsL B ok c r lc).map (zPk 0 0) := by
  rw [List.nil_append, nI_0, zHalves, show lc - lc / 2 + lc / 2 = lc by omega]
  unfold zAnsL
  congr 1
  apply List.filter_congr
  intro ds hds
  have hl := zEn_len _ _ _ _ hds
  rw [zTot_I h ds 0 r (by omega)]
def zPP (b : Bool) (L : List Int32) : List Int32 := if b then [] else L
theorem zPP_t {b : Bool} {L : List Int32} (h : b = true) : zPP b L = [] := by rw [h]; rfl
theorem zPP_f {b : Bool} {L : List Int32} (h : b = false) : zPP b L = L := by rw [h]; rfl
def zKp (f f2 : Nat → Int32) : Prop := ∀ j, (j < 14 ∨ j = 18 ∨ 24 ≤ j) → f2 j = f j
def zKg (g g2 : Nat → Nat → Int32) : Prop := ∀ j, (j < 6 ∨ 13 ≤ j) → g2 j = g j
