/-! THE OBJECT ITSELF: two lists of answers, changed about -/
def swI (k : Nat) : Nat := if k = 16 then 18 else if k = 17 then 19 else if k = 18 then 16 else if k = 19 then 17 else k
def swJ (k : Nat) : Nat := if k = 22 then 24 else if k = 23 then 25 else if k = 24 then 22 else if k = 25 then 23 else k
def swK (k : Nat) : Nat := if k = 12 then 13 else if k = 13 then 12 else k
def swA (a : Nat → Nat) : Nat → Nat := fun k => a (swI k)
def swF (f : Nat → Int32) : Nat → Int32 := fun k => f (swJ k)
def swG (g : Nat → Nat → Int32) : Nat → Nat → Int32 := fun k => g (swK k)
theorem swI2 (k : Nat) : swI (swI k) = k := by
  unfold swI
  repeat' split
  all_goals omega
theorem swJ2 (k : Nat) : swJ (swJ k) = k := by
  unfold swJ
  repeat' split
  all_goals omega
theorem swK2 (k : Nat) : swK (swK k) = k := by
  unfold swK
  repeat' split
  all_goals omega
theorem swA2 (a : Nat → Nat) : swA (swA a) = a := by
  funext k
  show a (swI (swI k)) = a k
  rw [swI2]
theorem swI_lt {k : Nat} {N : Nat} (hN : 20 ≤ N) (h : k < N) : swI k < N := by
  unfold swI
  repeat' split
  all_goals omega
theorem swD {a : Nat → Nat} (h : WDist a) : WDist (swA a) := by
  intro i j hi hj e
  have h1 := h (swI i) (swI j) (swI_lt (by decide) hi) (swI_lt (by decide) hj) e
  rw [← swI2 i, h1, swI2]
theorem AT_sw {a : Nat → Nat} {q : Nat} : AT (swA a) q ↔ AT a q := by
  constructor
  · rintro ⟨k, h1, h2⟩
    exact ⟨swI k, swI_lt (by decide) h1, h2⟩
  · rintro ⟨k, h1, h2⟩
    exact ⟨swI k, swI_lt (by decide) h1, by rw [h2]; show a k = a (swI (swI k)); rw [swI2]⟩
theorem WT_sw {D : va_G} {cA : ClassId} {a : Nat → Nat} {f : Nat → Int32} {g : Nat → Nat → Int32} {H : Heap} (h : va_P D vwCl (WT cA a f g) H) : va_P D vwCl (WT cA (swA a) (swF f) (swG g)) H := h.sub [0, 1, 2, 3, 4, 5, 6, 7, 8, 9, 10, 11, 12, 13, 14, 15, 18, 19, 16, 17] rfl
theorem WT_sw2 {D : va_G} {cA : ClassId} {a : Nat → Nat} {f : Nat → Int32} {g : Nat → Nat → Int32} {H : Heap} (h : va_P D vwCl (WT cA (swA a) f g) H) : va_P D vwCl (WT cA a (swF f) (swG g)) H := by
  have h1 := WT_sw h
  rw [swA2] at h1
  exact h1
theorem zk_r {p : Program} {l : Launch} {e : Env} {R : Room} {s : State} {m : MethodId} {args : Array Value} {below : List Frame} {meth : Method} {c : Code} {H : Heap} {locs : List Loc} {cells slots : Nat} {Q : State → Prop} {pc : Nat} {ls : Array Slot} {rest st0 : List Value} {D : va_G} {cl : List vw_C} {A A0 : Nat → Prop} {H0 : Heap} {S : Type} {post : S → Prop} {wf : S → va_W} {b0 : Nat} {aa : Array Value} (hr : va_Run p l e R s m args below meth c H locs cells slots 0 0 (F0 m pc ls st0) rest (va_Qr post (fun u r t => zBW D cl wf u t ∧ r = b0) A aa) A) (hS : va_S A0 H0 H locs) (hA : ∀ q, A q → A0 q) (kk : ∀ (u : S) (H1 : Heap) (locs1 : List Loc), post u → va_P D cl (wf u) H1 → va_S A0 H0 H1 locs1 → (∀ q : Nat, q < H.size → ¬ A q → H1[q]? = H[q]?) → W p l e R s m args below meth c H1 locs1 cells slots Q (F0 m (pc + 3) ls (.ref b0 :: rest))) : W p l e R s m args below meth c H locs cells slots Q (F0 m pc ls st0) :=
  va_callr hr hS (fun q _ h => hA q h) hA (fun u ra t H1 locs1 ht _ hp hB _ hk hS1 => by
    obtain ⟨hB, rfl⟩ := hB
    exact kk u H1 locs1 hp (by unfold zBW at hB; rw [ht] at hB; exact hB) hS1 hk)
def zKept (kept : Nat) (k : Int32) : Bool := decide (0 ≤ k.toInt) && decide (k.toInt < kept)
theorem zKept_neg {kept : Nat} {k : Int32} (h : k < 0) : zKept kept k = false := by
  have h1 := Int32.lt_iff_toInt_lt.mp h
  have h0 : (0 : Int32).toInt = 0 := by decide
  rw [h0] at h1
  unfold zKept
  rw [decide_eq_false (by omega), Bool.false_and]
theorem zKept_big {kept : Nat} {k : Int32} (hk : kept < 2 ^ 31) (h : nI kept ≤ k) : zKept kept k = false := by
  have h1 := Int32.le_iff_toInt_le.mp h
  rw [nI_toInt hk] at h1
  unfold zKept
  rw [decide_eq_false (p := k.toInt < kept) (by omega), Bool.and_false]
theorem zKept_in {kept j : Nat} {k : Int32} (hk : kept < 2 ^ 31) (hj : j < kept) (h : k = nI j) : zKept kept k = true := by
  subst h
  unfold zKept
  rw [nI_toInt (by omega), decide_eq_true (by omega), decide_eq_true (by omega)]
  rfl
theorem zKept_ex {kept : Nat} {k : Int32} (h : zKept kept k = true) : ∃ j, j < kept ∧ k = nI j := by
  unfold zKept at h
  simp only [Bool.and_eq_true, decide_eq_true_eq] at h
  refine ⟨k.toInt.toNat, by omega, ?_⟩
  apply Int32.toInt_inj.mp
  have := Int32.toInt_lt k
  rw [nI_toInt (by omega)]
  omega
/-- a byte may be typed -/
abbrev zUn (u : Int32) (tn : Nat) : Prop := 0 ≤ u.toInt ∧ u.toInt ≤ 255 ∧ tn < 80
theorem zUnF1 {u : Int32} {tn : Nat} (h : u < 0) : ¬ zUn u tn := by
  have h1 := Int32.lt_iff_toInt_lt.mp h
  have h0 : (0 : Int32).toInt = 0 := by decide
  rw [h0] at h1
  intro q
  have := q.1
  omega
theorem zUnF2 {u : Int32} {tn : Nat} (h : nI 255 < u) : ¬ zUn u tn := by
  have h1 := Int32.lt_iff_toInt_lt.mp h
  rw [nI_toInt (by decide)] at h1
  intro q
  have := q.2.1
  omega
theorem zUnT {u : Int32} {tn : Nat} (h1 : ¬ u < 0) (h2 : ¬ nI 255 < u) (h3 : tn < 80) : zUn u tn := by
  rw [Int32.lt_iff_toInt_lt] at h1 h2
  have h0 : (0 : Int32).toInt = 0 := by decide
  rw [h0] at h1
  rw [nI_toInt (by decide)] at h2
  exact ⟨by omega, by omega, h3⟩
def zSm (D : Nat → Int32) : Nat → Nat → Bool
  | 0, _ => true
  | m + 1, k => if D k = D 0 then zSm D m (k + 1) else false
def zFx (P : Nat → Bool) : Nat → Nat → Nat → Nat
  | 0, _, c => c
  | m + 1, i, c => zFx P m (i + 1) (if P i then c + 1 else c)
def zTx (kp lt : Bool) (T D : Int32) : Int32 := if kp then (if lt then nI 48 + D else T) else -1
def zDi (kp : Bool) (sl D : Int32) : Int32 := if kp = true ∧ ¬ sl = -1 then D else -1
theorem zSd1 {s : Int32} (h : ¬ s < 0) : 0 ≤ s.toInt := by
  rw [Int32.lt_iff_toInt_lt] at h
  have h0 : (0 : Int32).toInt = 0 := by decide
  omega
theorem zSd2 {s : Int32} (h : s ≤ nI 1) : s.toInt ≤ 1 := by
  rw [Int32.le_iff_toInt_le, nI_toInt (by decide)] at h
  exact h
theorem zSd3 {s : Int32} (h : s < 0) (q : 0 ≤ s.toInt) : False := by
  rw [Int32.lt_iff_toInt_lt] at h
  have h0 : (0 : Int32).toInt = 0 := by decide
  omega
theorem zSd4 {s : Int32} (h : ¬ s ≤ nI 1) (q : s.toInt ≤ 1) : False := by
  rw [Int32.le_iff_toInt_le, nI_toInt (by decide)] at h
  exact h q
theorem zSd5 {s : Int32} (h : ¬ nI 8 < s) : s.toInt ≤ 8 := by
  rw [Int32.lt_iff_toInt_lt, nI_toInt (by decide)] at h
  omega
theorem zSd6 {s : Int32} (h : nI 8 < s) (q : s.toInt ≤ 8) : False := by
  rw [Int32.lt_iff_toInt_lt, nI_toInt (by decide)] at h
  omega
