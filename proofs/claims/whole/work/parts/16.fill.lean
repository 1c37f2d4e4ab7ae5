/-! java.util.Arrays.fill(int[], int), in any world -/
def zFl (v : Int32) (i : Nat) (F : Nat → Int32) : Nat → Int32 := fun j => if j < i then v else F j
theorem zFl_0 (v : Int32) (F : Nat → Int32) : zFl v 0 F = F := by
  funext j
  simp [zFl]
theorem zFl_S (v : Int32) (i : Nat) (F : Nat → Int32) : upd (zFl v i F) i v = zFl v (i + 1) F := by
  funext j
  unfold upd zFl
  by_cases e : j = i
  · rw [if_pos e, if_pos (by omega)]
  · rw [if_neg e]
    by_cases h : j < i
    · rw [if_pos h, if_pos (by omega)]
    · rw [if_neg h, if_neg (by omega)]
theorem zset {α : Type} {l : List α} {i : Nat} {a : α} (h : l[i]? = some a) : l.set i a = l := by
  obtain ⟨hlt, e⟩ := List.getElem?_eq_some_iff.mp h
  rw [← e]
  exact List.set_getElem_self hlt
set_option maxHeartbeats 4000000 in
set_option maxRecDepth 100000 in
theorem c_fill (l : Launch) (D : va_G) (cl : List vw_C) (wd : va_W) (cA : ClassId) (q0 ad N : Nat) (F : Nat → Int32) (v : Int32) (A : Nat → Prop) (hN : N < 2 ^ 31) (hq : wd[q0]? = some (ad, .inl (cA, N, .inl F))) (hDA : va_D A wd) : Met l yJA_fill wsJA_fill ({ frames := 0, cells := 0, slots := 0, locals := 0 }) (va_Pc [.ref ad, .int v] (zPW D cl [(cA, .int)] wd)) (va_Qv (fun _ : Unit => True) (zBW D cl (fun _ : Unit => wd.set q0 (ad, .inl (cA, N, .inl (zFl v N F))))) A) 0 0 A := by
  refine Met.ofW (cc := prog_11_method_103_code) (maxL := 4) (ret := none) (by decide) rfl ?_
  intro zp ze s zm args below meth zc s₁ zBL hml hv
  obtain ⟨rfl, hP, hK, hN2⟩ := hv
  have hx := zBL.exec
  have hb := zBL.bytes
  have hr := zBL.returns
  have hlocks := zBL.notSynchronized
  have hS : va_S A s.heap s.heap [] := va_S.rf
  have hl := lv_entry ([.ref ad, .int v]) (n := 4) (Nat.le_of_ble_eq_true rfl)
  rw [lg_entry_eq]
  generalize (lg_sl ([.ref ad, .int v]) ++ List.replicate (4 - (lg_sl ([.ref ad, .int v])).length) Slot.unset).toArray = ls at hl ⊢
  have hl : lv_has ls 4 [(0, .ref ad), (1, .int v)] := hl
  have hlt : q0 < wd.length := (List.getElem?_eq_some_iff.mp hq).1
  have loop : ∀ (k0 i : Nat) (H : Heap) (locs : List Loc) (ls : Array Slot), N + 1 ≤ i + k0 → i ≤ N → va_P D cl (wd.set q0 (ad, .inl (cA, N, .inl (zFl v i F)))) H → va_S A s.heap H locs → lv_has ls 4 [(0, .ref ad), (1, .int v), (2, .int (nI i)), (3, .int (nI N))] → W zp l ze (headSpec wsJA_fill ({ frames := 0, cells := 0, slots := 0, locals := 0 })).room s zm ([.ref ad, .int v] : List Value).toArray below meth zc H locs 0 0 (MQ below (va_Qv (fun _ : Unit => True) (zBW D cl (fun _ : Unit => wd.set q0 (ad, .inl (cA, N, .inl (zFl v N F))))) A) ([.ref ad, .int v] : List Value).toArray s 0 0 A) (F0 zm 5 ls []) := by
    intro k0
    induction k0 with
    | zero => intro i H locs ls q1 q2; omega
    | succ k0 ih =>
      intro i H locs ls hk hi hP hS hl
      refine lv_iload_n hx hb dJA_fill_5 rfl (lv_at hl 2 rfl) ?_
      refine lv_iload_n hx hb dJA_fill_6 rfl (lv_at hl 3 rfl) ?_
      refine lv_icmp_ge (tgt := 20) hx hb dJA_fill_7 (by decide) (fun c_7 => ?_) (fun c_7 => ?_)
      · have c_7 := (nI_leI (a := N) (b := i) (by omega) (by omega)).mp c_7
        have e : i = N := by omega
        subst e
        exact W.vret hx hb hr (fun zT zh _ => ⟨⟨(), rfl, trivial, zbw zh hP⟩, hS.F zh⟩) hS.2.2 dJA_fill_20
      · have c_7 := mt (nI_leI (a := N) (b := i) (by omega) (by omega)).mpr c_7
        refine lv_aload_n hx hb dJA_fill_10 rfl (lv_at hl 0 rfl) ?_
        refine lv_iload_n hx hb dJA_fill_11 rfl (lv_at hl 2 rfl) ?_
        refine lv_iload_n hx hb dJA_fill_12 rfl (lv_at hl 1 rfl) ?_
        refine zast (wd' := wd.set q0 (ad, .inl (cA, N, .inl (zFl v (i + 1) F)))) hx hb hK hP (hDA.set hq) hS q0 0 (List.getElem?_set_self hlt) rfl i rfl (by omega) hN (by rw [List.set_set, zFl_S]) dJA_fill_13 (fun H locs hP hS => ?_)
        refine lv_iinc (v := nI (i + 1)) (lv' := [(2, .int (nI (i + 1))), (0, .ref ad), (1, .int v), (3, .int (nI N))]) hx hb dJA_fill_14 hl (k := 2) rfl (nI_1 _) (by decide) rfl (fun ls hl => ?_)
        refine lv_goto (tgt := 5) hx hb dJA_fill_17 (by decide) ?_
        exact ih (i + 1) _ _ ls (by omega) (by omega) hP hS (lv_sub hl [1, 2, 0, 3] rfl)
  refine lv_iconst (v := nI 0) hx hb dJA_fill_0 (by decide) ?_
  refine lv_istore_n (lv' := [(2, .int (nI 0)), (0, .ref ad), (1, .int v)]) hx hb dJA_fill_1 rfl hl (by decide) rfl (fun ls hl => ?_)
  refine lv_aload_n hx hb dJA_fill_2 rfl (lv_at hl 1 rfl) ?_
  refine zalen hx hb hK hP q0 0 hq rfl dJA_fill_3 ?_
  refine lv_istore_n (lv' := [(3, .int (nI N)), (2, .int (nI 0)), (0, .ref ad), (1, .int v)]) hx hb dJA_fill_4 rfl hl (by decide) rfl (fun ls hl => ?_)
  exact loop (N + 1) 0 _ _ ls (by omega) (by omega) (by rw [zFl_0, zset hq]; exact hP) hS (lv_sub hl [2, 3, 1, 0] rfl)
/-! Math.floorMod(x, 4099) -/
theorem zHs_t (x : Int32) : (x - x / nI 4099 * nI 4099).toInt = x.toInt.tmod 4099 := by
  rw [rem_toInt]
  rfl
theorem zFm1 {x : Int32} (h : 0 ≤ x.toInt) : x - x / nI 4099 * nI 4099 = nI (zHs x) := by
  apply Int32.toInt_inj.mp
  rw [zHs_t, nI_toInt (Nat.lt_trans (zHs_lt x) (by decide)), Int.tmod_eq_emod_of_nonneg h]
  unfold zHs
  have h1 := Int.emod_nonneg x.toInt (show (4099 : Int) ≠ 0 by decide)
  omega
theorem zTm (n : Int) (h : n < 0) : n.tmod 4099 = (if n % 4099 = 0 then 0 else n % 4099 - 4099) := by
  have h2 : n.tmod 4099 = -((-n) % 4099) := by
    rw [← Int.tmod_eq_emod_of_nonneg (a := -n) (by omega), Int.neg_tmod, Int.neg_neg]
  rw [h2]
  split <;> omega
theorem zFm2 {x : Int32} (h : x.toInt < 0) (h2 : x - x / nI 4099 * nI 4099 = 0) : x - x / nI 4099 * nI 4099 = nI (zHs x) := by
  have h3 := zHs_t x
  rw [h2, zTm _ h] at h3
  have h4 : (0 : Int32).toInt = 0 := by decide
  rw [h4] at h3
  have h1 := Int.emod_nonneg x.toInt (show (4099 : Int) ≠ 0 by decide)
  have h5 := Int.emod_lt_of_pos x.toInt (show (0 : Int) < 4099 by decide)
  have h6 : x.toInt % 4099 = 0 := by
    by_cases q : x.toInt % 4099 = 0
    · exact q
    · rw [if_neg q] at h3; omega
  rw [h2]
  unfold zHs
  rw [h6]
  rfl
theorem zFm3 {x : Int32} (h : x.toInt < 0) (h2 : ¬ x - x / nI 4099 * nI 4099 = 0) : (x - x / nI 4099 * nI 4099) + nI 4099 = nI (zHs x) := by
  have h3 := zHs_t x
  rw [zTm _ h] at h3
  have h1 := Int.emod_nonneg x.toInt (show (4099 : Int) ≠ 0 by decide)
  have h5 := Int.emod_lt_of_pos x.toInt (show (0 : Int) < 4099 by decide)
  have h6 : ¬ x.toInt % 4099 = 0 := by
    intro q
    rw [if_pos q] at h3
    exact h2 (Int32.toInt_inj.mp (by rw [h3]; rfl))
  rw [if_neg h6] at h3
  apply Int32.toInt_inj.mp
  rw [nI_toInt (Nat.lt_trans (zHs_lt x) (by decide)), Jvm.Kit.i32_add (by rw [h3, nI_toInt (by decide)]; omega) (by rw [h3, nI_toInt (by decide)]; omega), h3, nI_toInt (by decide)]
  unfold zHs
  omega
theorem zXor {x : Int32} : 0 ≤ x ^^^ nI 4099 ↔ 0 ≤ x.toInt := by
  rw [Int32.le_iff_toInt_le]
  have h0 : (0 : Int32).toInt = 0 := by decide
  rw [h0]
  have key : ∀ y : Int32, 0 ≤ y.toInt ↔ y.toBitVec.msb = false := by
    intro y
    show 0 ≤ y.toBitVec.toInt ↔ _
    rw [BitVec.msb_eq_toInt]
    simp
  rw [key, key, Int32.toBitVec_xor, BitVec.msb_xor]
  have : (nI 4099).toBitVec.msb = false := by decide
  rw [this, Bool.xor_false]
