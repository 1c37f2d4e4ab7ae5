set_option maxHeartbeats 4000000 in
set_option maxRecDepth 100000 in
theorem c_mmax (l : Launch)  (x y : Int32) : Met l yJM_max wsJM_max ({ frames := 0, cells := 0, slots := 0, locals := 0 }) (va_Pc [.int x, .int y] zNo) (vp_Si (fun r => r = (if x < y then y else x))) 0 0 (fun _ => False) := by
  refine va_MetF (cc := prog_10_method_65_code) (maxL := 2) (ret := (some .int)) (by decide +kernel) rfl ?_
  intro zp ze s zm args below meth zc s₁ zBL hml hv
  obtain ⟨rfl, -⟩ := hv
  have hx := zBL.exec
  have hb := zBL.bytes
  have hr := zBL.returns
  have hts := atoms_spec (ws := wsJM_max) zBL.pre
  have hz : ∀ w ∈ zBig, w.before _ s = true := fun w h => hts w (List.mem_cons_of_mem _ h)
  have hown : s.vm.findClass "java/lang/Math" = some zm.cls := findClass_of_methodNamed zBL.named
  have hlocks := zBL.notSynchronized
  have hl := lv_entry ([.int x, .int y]) (n := 2) (Nat.le_of_ble_eq_true rfl)
  rw [lg_entry_eq]
  generalize (lg_sl ([.int x, .int y]) ++ List.replicate (2 - (lg_sl ([.int x, .int y])).length) Slot.unset).toArray = ls at hl ⊢
  have hl : lv_has ls 2 [(0, .int x), (1, .int y)] := hl
  refine lv_iload_n hx hb dJM_max_0 rfl (lv_at hl 0 rfl) ?_
  refine lv_iload_n hx hb dJM_max_1 rfl (lv_at hl 1 rfl) ?_
  refine lv_icmp_lt (tgt := 9) hx hb dJM_max_2 (by decide) (fun c_2 => ?_) (fun c_2 => ?_)
  · refine lv_iload_n hx hb dJM_max_9 rfl (lv_at hl 1 rfl) ?_
    exact W.iret hx hb hr (fun zT zh _ => ⟨_, rfl, (by rw [if_pos c_2]), zh⟩) t_nil dJM_max_10
  · refine lv_iload_n hx hb dJM_max_5 rfl (lv_at hl 0 rfl) ?_
    refine lv_goto (tgt := 10) hx hb dJM_max_6 (by decide) ?_
    exact W.iret hx hb hr (fun zT zh _ => ⟨_, rfl, (by rw [if_neg c_2]), zh⟩) t_nil dJM_max_10

set_option maxHeartbeats 4000000 in
set_option maxRecDepth 100000 in
theorem c_mmin (l : Launch)  (x y : Int32) : Met l yJM_min wsJM_min ({ frames := 0, cells := 0, slots := 0, locals := 0 }) (va_Pc [.int x, .int y] zNo) (vp_Si (fun r => r = (if y < x then y else x))) 0 0 (fun _ => False) := by
  refine va_MetF (cc := prog_10_method_69_code) (maxL := 2) (ret := (some .int)) (by decide +kernel) rfl ?_
  intro zp ze s zm args below meth zc s₁ zBL hml hv
  obtain ⟨rfl, -⟩ := hv
  have hx := zBL.exec
  have hb := zBL.bytes
  have hr := zBL.returns
  have hts := atoms_spec (ws := wsJM_min) zBL.pre
  have hz : ∀ w ∈ zBig, w.before _ s = true := fun w h => hts w (List.mem_cons_of_mem _ h)
  have hown : s.vm.findClass "java/lang/Math" = some zm.cls := findClass_of_methodNamed zBL.named
  have hlocks := zBL.notSynchronized
  have hl := lv_entry ([.int x, .int y]) (n := 2) (Nat.le_of_ble_eq_true rfl)
  rw [lg_entry_eq]
  generalize (lg_sl ([.int x, .int y]) ++ List.replicate (2 - (lg_sl ([.int x, .int y])).length) Slot.unset).toArray = ls at hl ⊢
  have hl : lv_has ls 2 [(0, .int x), (1, .int y)] := hl
  refine lv_iload_n hx hb dJM_min_0 rfl (lv_at hl 0 rfl) ?_
  refine lv_iload_n hx hb dJM_min_1 rfl (lv_at hl 1 rfl) ?_
  refine lv_icmp_gt (tgt := 9) hx hb dJM_min_2 (by decide) (fun c_2 => ?_) (fun c_2 => ?_)
  · refine lv_iload_n hx hb dJM_min_9 rfl (lv_at hl 1 rfl) ?_
    exact W.iret hx hb hr (fun zT zh _ => ⟨_, rfl, (by rw [if_pos c_2]), zh⟩) t_nil dJM_min_10
  · refine lv_iload_n hx hb dJM_min_5 rfl (lv_at hl 0 rfl) ?_
    refine lv_goto (tgt := 10) hx hb dJM_min_6 (by decide) ?_
    exact W.iret hx hb hr (fun zT zh _ => ⟨_, rfl, (by rw [if_neg c_2]), zh⟩) t_nil dJM_min_10

set_option maxHeartbeats 4000000 in
set_option maxRecDepth 100000 in
theorem c_bitCount (l : Launch)  (x : Int32) : Met l yJI_bitCount wsJI_bitCount ({ frames := 0, cells := 0, slots := 0, locals := 0 }) (va_Pc [.int x] zNo) (vp_Si (fun r => r = (zBc x))) 0 0 (fun _ => False) := by
  refine Met.ofW (cc := prog_9_method_49_code) (maxL := 1) (ret := (some .int)) (by decide) rfl ?_
  intro zp ze s zm args below meth zc s₁ zBL hml hv
  obtain ⟨rfl, -⟩ := hv
  have hx := zBL.exec
  have hb := zBL.bytes
  have hr := zBL.returns
  have hts := atoms_spec (ws := wsJI_bitCount) zBL.pre
  have hz : ∀ w ∈ zBig, w.before _ s = true := fun w h => hts w (List.mem_cons_of_mem _ h)
  have hown : s.vm.findClass "java/lang/Integer" = some zm.cls := findClass_of_methodNamed zBL.named
  have hlocks := zBL.notSynchronized
  have hl := lv_entry ([.int x]) (n := 1) (Nat.le_of_ble_eq_true rfl)
  rw [lg_entry_eq]
  generalize (lg_sl ([.int x]) ++ List.replicate (1 - (lg_sl ([.int x])).length) Slot.unset).toArray = ls at hl ⊢
  have hl : lv_has ls 1 [(0, .int x)] := hl
  refine lv_iload_n hx hb dJI_bitCount_0 rfl (lv_at hl 0 rfl) ?_
  refine lv_iload_n hx hb dJI_bitCount_1 rfl (lv_at hl 0 rfl) ?_
  refine lv_iconst (v := nI 1) hx hb dJI_bitCount_2 (by decide) ?_
  refine lv_iushr (v := (x.toUInt32 >>> ((nI 1).toUInt32 &&& Int32.toUInt32 31)).toInt32) hx hb dJI_bitCount_3 rfl ?_
  refine lv_ldcw hx hb hown (hz _ q_232) dJI_bitCount_4 ?_
  refine lv_iand hx hb dJI_bitCount_7 ?_
  refine lv_isub hx hb dJI_bitCount_8 ?_
  refine zt (y := zBc1 x) (show _ = zBc1 x from rfl) ?_
  refine lv_istore_n (lv' := [(0, .int (zBc1 x))]) hx hb dJI_bitCount_9 rfl hl (by decide) rfl (fun ls hl => ?_)
  refine lv_iload_n hx hb dJI_bitCount_10 rfl (lv_at hl 0 rfl) ?_
  refine lv_ldcw hx hb hown (hz _ q_233) dJI_bitCount_11 ?_
  refine lv_iand hx hb dJI_bitCount_14 ?_
  refine lv_iload_n hx hb dJI_bitCount_15 rfl (lv_at hl 0 rfl) ?_
  refine lv_iconst (v := nI 2) hx hb dJI_bitCount_16 (by decide) ?_
  refine lv_iushr (v := ((zBc1 x).toUInt32 >>> ((nI 2).toUInt32 &&& Int32.toUInt32 31)).toInt32) hx hb dJI_bitCount_17 rfl ?_
  refine lv_ldcw hx hb hown (hz _ q_233) dJI_bitCount_18 ?_
  refine lv_iand hx hb dJI_bitCount_21 ?_
  refine lv_iadd hx hb dJI_bitCount_22 ?_
  refine zt (y := zBc2 (zBc1 x)) (show _ = zBc2 (zBc1 x) from rfl) ?_
  refine lv_istore_n (lv' := [(0, .int (zBc2 (zBc1 x)))]) hx hb dJI_bitCount_23 rfl hl (by decide) rfl (fun ls hl => ?_)
  refine lv_iload_n hx hb dJI_bitCount_24 rfl (lv_at hl 0 rfl) ?_
  refine lv_iload_n hx hb dJI_bitCount_25 rfl (lv_at hl 0 rfl) ?_
  refine lv_iconst (v := nI 4) hx hb dJI_bitCount_26 (by decide) ?_
  refine lv_iushr (v := ((zBc2 (zBc1 x)).toUInt32 >>> ((nI 4).toUInt32 &&& Int32.toUInt32 31)).toInt32) hx hb dJI_bitCount_27 rfl ?_
  refine lv_iadd hx hb dJI_bitCount_28 ?_
  refine lv_ldcw hx hb hown (hz _ q_234) dJI_bitCount_29 ?_
  refine lv_iand hx hb dJI_bitCount_32 ?_
  refine zt (y := zBc3 (zBc2 (zBc1 x))) (show _ = zBc3 (zBc2 (zBc1 x)) from rfl) ?_
  refine lv_istore_n (lv' := [(0, .int (zBc3 (zBc2 (zBc1 x))))]) hx hb dJI_bitCount_33 rfl hl (by decide) rfl (fun ls hl => ?_)
  refine lv_iload_n hx hb dJI_bitCount_34 rfl (lv_at hl 0 rfl) ?_
  refine lv_iload_n hx hb dJI_bitCount_35 rfl (lv_at hl 0 rfl) ?_
  refine lv_bipush (v := nI 8) hx hb dJI_bitCount_36 (by decide) ?_
  refine lv_iushr (v := ((zBc3 (zBc2 (zBc1 x))).toUInt32 >>> ((nI 8).toUInt32 &&& Int32.toUInt32 31)).toInt32) hx hb dJI_bitCount_38 rfl ?_
  refine lv_iadd hx hb dJI_bitCount_39 ?_
  refine zt (y := zBc4 (zBc3 (zBc2 (zBc1 x)))) (show _ = zBc4 (zBc3 (zBc2 (zBc1 x))) from rfl) ?_
  refine lv_istore_n (lv' := [(0, .int (zBc4 (zBc3 (zBc2 (zBc1 x)))))]) hx hb dJI_bitCount_40 rfl hl (by decide) rfl (fun ls hl => ?_)
  refine lv_iload_n hx hb dJI_bitCount_41 rfl (lv_at hl 0 rfl) ?_
  refine lv_iload_n hx hb dJI_bitCount_42 rfl (lv_at hl 0 rfl) ?_
  refine lv_bipush (v := nI 16) hx hb dJI_bitCount_43 (by decide) ?_
  refine lv_iushr (v := ((zBc4 (zBc3 (zBc2 (zBc1 x)))).toUInt32 >>> ((nI 16).toUInt32 &&& Int32.toUInt32 31)).toInt32) hx hb dJI_bitCount_45 rfl ?_
  refine lv_iadd hx hb dJI_bitCount_46 ?_
  refine zt (y := zBc5 (zBc4 (zBc3 (zBc2 (zBc1 x))))) (show _ = zBc5 (zBc4 (zBc3 (zBc2 (zBc1 x)))) from rfl) ?_
  refine lv_istore_n (lv' := [(0, .int (zBc5 (zBc4 (zBc3 (zBc2 (zBc1 x))))))]) hx hb dJI_bitCount_47 rfl hl (by decide) rfl (fun ls hl => ?_)
  refine lv_iload_n hx hb dJI_bitCount_48 rfl (lv_at hl 0 rfl) ?_
  refine lv_bipush (v := nI 63) hx hb dJI_bitCount_49 (by decide) ?_
  refine lv_iand hx hb dJI_bitCount_51 ?_
  exact W.iret hx hb hr (fun zT zh _ => ⟨_, rfl, rfl, zh⟩) t_nil dJI_bitCount_52

set_option maxHeartbeats 4000000 in
set_option maxRecDepth 100000 in
theorem c_floorMod (l : Launch)  (x : Int32) : Met l yJM_floorMod wsJM_floorMod ({ frames := 0, cells := 0, slots := 0, locals := 0 }) (va_Pc [.int x, .int (nI 4099)] zNo) (vp_Si (fun r => r = (nI (zHs x)))) 0 0 (fun _ => False) := by
  refine va_MetF (cc := prog_10_method_50_code) (maxL := 3) (ret := (some .int)) (by decide +kernel) rfl ?_
  intro zp ze s zm args below meth zc s₁ zBL hml hv
  obtain ⟨rfl, -⟩ := hv
  have hx := zBL.exec
  have hb := zBL.bytes
  have hr := zBL.returns
  have hts := atoms_spec (ws := wsJM_floorMod) zBL.pre
  have hz : ∀ w ∈ zBig, w.before _ s = true := fun w h => hts w (List.mem_cons_of_mem _ h)
  have hown : s.vm.findClass "java/lang/Math" = some zm.cls := findClass_of_methodNamed zBL.named
  have hlocks := zBL.notSynchronized
  have hl := lv_entry ([.int x, .int (nI 4099)]) (n := 3) (Nat.le_of_ble_eq_true rfl)
  rw [lg_entry_eq]
  generalize (lg_sl ([.int x, .int (nI 4099)]) ++ List.replicate (3 - (lg_sl ([.int x, .int (nI 4099)])).length) Slot.unset).toArray = ls at hl ⊢
  have hl : lv_has ls 3 [(0, .int x), (1, .int (nI 4099))] := hl
  refine lv_iload_n hx hb dJM_floorMod_0 rfl (lv_at hl 0 rfl) ?_
  refine lv_iload_n hx hb dJM_floorMod_1 rfl (lv_at hl 1 rfl) ?_
  refine lv_irem hx hb dJM_floorMod_2 (by decide) ?_
  refine lv_istore_n (lv' := [(2, .int (x - x / (nI 4099) * (nI 4099))), (0, .int x), (1, .int (nI 4099))]) hx hb dJM_floorMod_3 rfl hl (by decide) rfl (fun ls hl => ?_)
  refine lv_iload_n hx hb dJM_floorMod_4 rfl (lv_at hl 1 rfl) ?_
  refine lv_iload_n hx hb dJM_floorMod_5 rfl (lv_at hl 2 rfl) ?_
  refine lv_ixor hx hb dJM_floorMod_6 ?_
  refine lv_if_ge (tgt := 18) hx hb dJM_floorMod_7 (by decide) (fun c_7 => ?_) (fun c_7 => ?_)
  · have c_7 := zXor.mp c_7
    refine lv_iload_n hx hb dJM_floorMod_18 rfl (lv_at hl 0 rfl) ?_
    exact W.iret hx hb hr (fun zT zh _ => ⟨_, rfl, (zFm1 c_7), zh⟩) t_nil dJM_floorMod_19
  · have c_7 := Int.not_le.mp (mt zXor.mpr c_7)
    refine lv_iload_n hx hb dJM_floorMod_10 rfl (lv_at hl 0 rfl) ?_
    refine lv_if_eq (tgt := 18) hx hb dJM_floorMod_11 (by decide) (fun c_11 => ?_) (fun c_11 => ?_)
    · refine lv_iload_n hx hb dJM_floorMod_18 rfl (lv_at hl 0 rfl) ?_
      exact W.iret hx hb hr (fun zT zh _ => ⟨_, rfl, (zFm2 c_7 c_11), zh⟩) t_nil dJM_floorMod_19
    · refine lv_iload_n hx hb dJM_floorMod_14 rfl (lv_at hl 0 rfl) ?_
      refine lv_iload_n hx hb dJM_floorMod_15 rfl (lv_at hl 2 rfl) ?_
      refine lv_iadd hx hb dJM_floorMod_16 ?_
      exact W.iret hx hb hr (fun zT zh _ => ⟨_, rfl, (zFm3 c_7 c_11), zh⟩) t_nil dJM_floorMod_17
