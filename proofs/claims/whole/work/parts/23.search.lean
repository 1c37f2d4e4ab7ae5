set_option maxHeartbeats 4000000 in
set_option maxRecDepth 100000 in
theorem c_isFront (l : Launch) (dC : Nat → ClassId) (dI : Nat → Nat → Nat) (cA : ClassId) (a : Nat → Nat) (f : Nat → Int32) (g : Nat → Nat → Int32) (fr i : Nat) (h20 : f 20 = nI fr) (hfr : fr < 256) (hi : i < 8) : Met l yW_isFront wsW_isFront ({ frames := 0, cells := 0, slots := 0, locals := 0 }) (va_Pc [.ref (a 9), .int (nI i)] (zPW (dC, dI) vwCl [(cA, .int)] (WT cA a f g))) (vp_Si (fun r => r = (zB (fr.testBit i)))) 0 0 (fun _ => False) := by
  refine Met.ofW (cc := prog_6_method_5_code) (maxL := 2) (ret := (some .boolean)) (by decide) rfl ?_
  intro zp ze s zm args below meth zc s₁ zBL hml hv
  obtain ⟨rfl, hP, hK, hN⟩ := hv
  have hx := zBL.exec
  have hb := zBL.bytes
  have hr := zBL.returns
  have hts := atoms_spec (ws := wsW_isFront) zBL.pre
  have hz : ∀ w ∈ zBig, w.before _ s = true := fun w h => hts w (List.mem_cons_of_mem _ h)
  have hown : s.vm.findClass "LetterSums$Weights" = some zm.cls := findClass_of_methodNamed zBL.named
  have hlocks := zBL.notSynchronized
  have hl := lv_entry ([.ref (a 9), .int (nI i)]) (n := 2) (Nat.le_of_ble_eq_true rfl)
  rw [lg_entry_eq]
  generalize (lg_sl ([.ref (a 9), .int (nI i)]) ++ List.replicate (2 - (lg_sl ([.ref (a 9), .int (nI i)])).length) Slot.unset).toArray = ls at hl ⊢
  have hl : lv_has ls 2 [(0, .ref (a 9)), (1, .int (nI i))] := hl
  refine lv_aload_n hx hb dW_isFront_0 rfl (lv_at hl 0 rfl) ?_
  refine gf_20 (v := nI fr) hx hb hz hi_W hown hK hP (hz _ q_130) h20 dW_isFront_1 ?_
  refine lv_iload_n hx hb dW_isFront_4 rfl (lv_at hl 1 rfl) ?_
  refine lv_ishr hx hb dW_isFront_5 ?_
  refine lv_iconst (v := nI 1) hx hb dW_isFront_6 (by decide) ?_
  refine lv_iand hx hb dW_isFront_7 ?_
  refine zt (y := zB (fr.testBit i)) (zBit (by omega) (by omega)) ?_
  refine lv_iconst (v := nI 1) hx hb dW_isFront_8 (by decide) ?_
  refine lv_icmp_ne (tgt := 16) hx hb dW_isFront_9 (by decide) (fun c_9 => ?_) (fun c_9 => ?_)
  · have c_9 : fr.testBit i = false := by cases hq : fr.testBit i <;> first | rfl | exact absurd (by rw [hq]; rfl) c_9
    refine lv_iconst (v := nI 0) hx hb dW_isFront_16 (by decide) ?_
    exact W.zret hx hb hr rfl (fun zT zh _ => ⟨_, rfl, (by rw [c_9]; rfl), zh⟩) t_nil dW_isFront_17
  · have c_9 : fr.testBit i = true := zB_eq1.mp c_9
    refine lv_iconst (v := nI 1) hx hb dW_isFront_12 (by decide) ?_
    refine lv_goto (tgt := 17) hx hb dW_isFront_13 (by decide) ?_
    exact W.zret hx hb hr rfl (fun zT zh _ => ⟨_, rfl, (by rw [c_9]; rfl), zh⟩) t_nil dW_isFront_17

set_option maxHeartbeats 4000000 in
set_option maxRecDepth 100000 in
theorem c_mayBe (l : Launch) (dC : Nat → ClassId) (dI : Nat → Nat → Nat) (cA : ClassId) (a : Nat → Nat) (f : Nat → Int32) (g : Nat → Nat → Int32) (bar : Bool) (fr : Nat) (h17 : f 17 = zB bar) (h20 : f 20 = nI fr) (hfr : fr < 256) (i d u : Nat) (hi : i < 8) (hd : d < 10) (hu : u < 1024) : Met l yF_mayBe wsF_mayBe ({ frames := 1, cells := 0, slots := 0, locals := 21 }) (va_Pc [.ref (a 8), .int (nI i), .int (nI d), .int (nI u)] (zPW (dC, dI) vwCl [(cA, .int)] (WT cA a f g))) (vp_Si (fun r => r = (zB (!u.testBit d && zOk bar fr i d)))) 0 0 (fun _ => False) := by
  refine Met.ofW (cc := prog_4_method_8_code) (maxL := 5) (ret := (some .boolean)) (by decide) rfl ?_
  intro zp ze s zm args below meth zc s₁ zBL hml hv
  obtain ⟨rfl, hP, hK, hN⟩ := hv
  have hx := zBL.exec
  have hb := zBL.bytes
  have hr := zBL.returns
  have hts := atoms_spec (ws := wsF_mayBe) zBL.pre
  have hz : ∀ w ∈ zBig, w.before _ s = true := fun w h => hts w (List.mem_cons_of_mem _ h)
  have hown : s.vm.findClass "LetterSums$Search" = some zm.cls := findClass_of_methodNamed zBL.named
  have hlocks := zBL.notSynchronized
  have hl := lv_entry ([.ref (a 8), .int (nI i), .int (nI d), .int (nI u)]) (n := 5) (Nat.le_of_ble_eq_true rfl)
  rw [lg_entry_eq]
  generalize (lg_sl ([.ref (a 8), .int (nI i), .int (nI d), .int (nI u)]) ++ List.replicate (5 - (lg_sl ([.ref (a 8), .int (nI i), .int (nI d), .int (nI u)])).length) Slot.unset).toArray = ls at hl ⊢
  have hl : lv_has ls 5 [(0, .ref (a 8)), (1, .int (nI i)), (2, .int (nI d)), (3, .int (nI u))] := hl
  refine lv_iload_n hx hb dF_mayBe_0 rfl (lv_at hl 2 rfl) ?_
  refine lv_if_ne (tgt := 26) hx hb dF_mayBe_1 (by decide) (fun c_1 => ?_) (fun c_1 => ?_)
  · have c_1 : ¬ d = 0 := fun q => c_1 (by rw [q]; rfl)
    refine lv_iconst (v := nI 0) hx hb dF_mayBe_26 (by decide) ?_
    refine lv_istore (lv' := [(4, .int (nI 0)), (0, .ref (a 8)), (1, .int (nI i)), (2, .int (nI d)), (3, .int (nI u))]) hx hb dF_mayBe_27 hl (by decide) rfl (fun ls hl => ?_)
    refine lv_iload_n hx hb dF_mayBe_29 rfl (lv_at hl 4 rfl) ?_
    refine lv_iload_n hx hb dF_mayBe_30 rfl (lv_at hl 3 rfl) ?_
    refine lv_ishr hx hb dF_mayBe_31 ?_
    refine lv_iconst (v := nI 1) hx hb dF_mayBe_32 (by decide) ?_
    refine lv_iand hx hb dF_mayBe_33 ?_
    refine zt (y := zB (u.testBit d)) (zBit (by omega) (by omega)) ?_
    refine lv_if_ne (tgt := 46) hx hb dF_mayBe_34 (by decide) (fun c_34 => ?_) (fun c_34 => ?_)
    · have c_34 : u.testBit d = true := zB_n0 c_34
      refine lv_iconst (v := nI 0) hx hb dF_mayBe_46 (by decide) ?_
      exact W.zret hx hb hr rfl (fun zT zh _ => ⟨_, rfl, (by rw [c_34]; rfl), zh⟩) t_nil dF_mayBe_47
    · have c_34 : u.testBit d = false := zB_eq0.mp c_34
      refine lv_iload hx hb dF_mayBe_37 (lv_at hl 0 rfl) ?_
      refine lv_if_ne (tgt := 46) hx hb dF_mayBe_39 (by decide) (fun c_39 => ?_) (fun c_39 => ?_)
      · exact absurd rfl c_39
      · refine lv_iconst (v := nI 1) hx hb dF_mayBe_42 (by decide) ?_
        refine lv_goto (tgt := 47) hx hb dF_mayBe_43 (by decide) ?_
        exact W.zret hx hb hr rfl (fun zT zh _ => ⟨_, rfl, (by rw [c_34]; simp [zOk, zB, c_1]), zh⟩) t_nil dF_mayBe_47
  · have c_1 : d = 0 := (nI_eq (a := d) (b := 0) (by omega) (by omega)).mp c_1
    refine lv_aload_n hx hb dF_mayBe_4 rfl (lv_at hl 0 rfl) ?_
    refine gf_17 (v := zB bar) hx hb hz hi_F hown hK hP (hz _ q_154) h17 dF_mayBe_5 ?_
    refine lv_if_eq (tgt := 26) hx hb dF_mayBe_8 (by decide) (fun c_8 => ?_) (fun c_8 => ?_)
    · have c_8 : bar = false := zB_eq0.mp c_8
      refine lv_iconst (v := nI 0) hx hb dF_mayBe_26 (by decide) ?_
      refine lv_istore (lv' := [(4, .int (nI 0)), (0, .ref (a 8)), (1, .int (nI i)), (2, .int (nI d)), (3, .int (nI u))]) hx hb dF_mayBe_27 hl (by decide) rfl (fun ls hl => ?_)
      refine lv_iload_n hx hb dF_mayBe_29 rfl (lv_at hl 4 rfl) ?_
      refine lv_iload_n hx hb dF_mayBe_30 rfl (lv_at hl 3 rfl) ?_
      refine lv_ishr hx hb dF_mayBe_31 ?_
      refine lv_iconst (v := nI 1) hx hb dF_mayBe_32 (by decide) ?_
      refine lv_iand hx hb dF_mayBe_33 ?_
      refine zt (y := zB (u.testBit d)) (zBit (by omega) (by omega)) ?_
      refine lv_if_ne (tgt := 46) hx hb dF_mayBe_34 (by decide) (fun c_34 => ?_) (fun c_34 => ?_)
      · have c_34 : u.testBit d = true := zB_n0 c_34
        refine lv_iconst (v := nI 0) hx hb dF_mayBe_46 (by decide) ?_
        exact W.zret hx hb hr rfl (fun zT zh _ => ⟨_, rfl, (by rw [c_34]; rfl), zh⟩) t_nil dF_mayBe_47
      · have c_34 : u.testBit d = false := zB_eq0.mp c_34
        refine lv_iload hx hb dF_mayBe_37 (lv_at hl 0 rfl) ?_
        refine lv_if_ne (tgt := 46) hx hb dF_mayBe_39 (by decide) (fun c_39 => ?_) (fun c_39 => ?_)
        · exact absurd rfl c_39
        · refine lv_iconst (v := nI 1) hx hb dF_mayBe_42 (by decide) ?_
          refine lv_goto (tgt := 47) hx hb dF_mayBe_43 (by decide) ?_
          exact W.zret hx hb hr rfl (fun zT zh _ => ⟨_, rfl, (by rw [c_34]; simp [zOk, zB, c_1, c_8]), zh⟩) t_nil dF_mayBe_47
    · have c_8 : bar = true := zB_n0 c_8
      refine lv_aload_n hx hb dF_mayBe_11 rfl (lv_at hl 0 rfl) ?_
      refine gr_8_weights hx hb hz hi_F hown hK hP (hz _ q_145) dF_mayBe_12 ?_
      refine lv_iload_n hx hb dF_mayBe_15 rfl (lv_at hl 1 rfl) ?_
      refine zq_e (zrV (rest := []) ⟨hx, hb, hml, hown, hz⟩ (c_isFront l dC dI cA a f g fr i h20 hfr hi) ⟨zcB 1 hz q_344 q_8 q_347 (by decide +kernel) rfl rfl ⟨Nat.le_of_ble_eq_true rfl, Nat.le_of_ble_eq_true rfl⟩, hz _ q_345, hz _ q_346⟩ hK hN hP 9 5 rfl rfl rfl rfl hl.1 rfl (Nat.le_of_ble_eq_true rfl) dF_mayBe_16 ⟨Nat.zero_le _, Nat.zero_le _⟩) ?_
      refine lv_if_eq (tgt := 26) hx hb dF_mayBe_19 (by decide) (fun c_19 => ?_) (fun c_19 => ?_)
      · have c_19 : fr.testBit i = false := zB_eq0.mp c_19
        refine lv_iconst (v := nI 0) hx hb dF_mayBe_26 (by decide) ?_
        refine lv_istore (lv' := [(4, .int (nI 0)), (0, .ref (a 8)), (1, .int (nI i)), (2, .int (nI d)), (3, .int (nI u))]) hx hb dF_mayBe_27 hl (by decide) rfl (fun ls hl => ?_)
        refine lv_iload_n hx hb dF_mayBe_29 rfl (lv_at hl 4 rfl) ?_
        refine lv_iload_n hx hb dF_mayBe_30 rfl (lv_at hl 3 rfl) ?_
        refine lv_ishr hx hb dF_mayBe_31 ?_
        refine lv_iconst (v := nI 1) hx hb dF_mayBe_32 (by decide) ?_
        refine lv_iand hx hb dF_mayBe_33 ?_
        refine zt (y := zB (u.testBit d)) (zBit (by omega) (by omega)) ?_
        refine lv_if_ne (tgt := 46) hx hb dF_mayBe_34 (by decide) (fun c_34 => ?_) (fun c_34 => ?_)
        · have c_34 : u.testBit d = true := zB_n0 c_34
          refine lv_iconst (v := nI 0) hx hb dF_mayBe_46 (by decide) ?_
          exact W.zret hx hb hr rfl (fun zT zh _ => ⟨_, rfl, (by rw [c_34]; rfl), zh⟩) t_nil dF_mayBe_47
        · have c_34 : u.testBit d = false := zB_eq0.mp c_34
          refine lv_iload hx hb dF_mayBe_37 (lv_at hl 0 rfl) ?_
          refine lv_if_ne (tgt := 46) hx hb dF_mayBe_39 (by decide) (fun c_39 => ?_) (fun c_39 => ?_)
          · exact absurd rfl c_39
          · refine lv_iconst (v := nI 1) hx hb dF_mayBe_42 (by decide) ?_
            refine lv_goto (tgt := 47) hx hb dF_mayBe_43 (by decide) ?_
            exact W.zret hx hb hr rfl (fun zT zh _ => ⟨_, rfl, (by rw [c_34]; simp [zOk, zB, c_1, c_8, c_19]), zh⟩) t_nil dF_mayBe_47
      · have c_19 : fr.testBit i = true := zB_n0 c_19
        refine lv_iconst (v := nI 1) hx hb dF_mayBe_22 (by decide) ?_
        refine lv_goto (tgt := 27) hx hb dF_mayBe_23 (by decide) ?_
        refine lv_istore (lv' := [(4, .int (nI 1)), (0, .ref (a 8)), (1, .int (nI i)), (2, .int (nI d)), (3, .int (nI u))]) hx hb dF_mayBe_27 hl (by decide) rfl (fun ls hl => ?_)
        refine lv_iload_n hx hb dF_mayBe_29 rfl (lv_at hl 4 rfl) ?_
        refine lv_iload_n hx hb dF_mayBe_30 rfl (lv_at hl 3 rfl) ?_
        refine lv_ishr hx hb dF_mayBe_31 ?_
        refine lv_iconst (v := nI 1) hx hb dF_mayBe_32 (by decide) ?_
        refine lv_iand hx hb dF_mayBe_33 ?_
        refine zt (y := zB (u.testBit d)) (zBit (by omega) (by omega)) ?_
        refine lv_if_ne (tgt := 46) hx hb dF_mayBe_34 (by decide) (fun c_34 => ?_) (fun c_34 => ?_)
        · have c_34 : u.testBit d = true := zB_n0 c_34
          refine lv_iconst (v := nI 0) hx hb dF_mayBe_46 (by decide) ?_
          exact W.zret hx hb hr rfl (fun zT zh _ => ⟨_, rfl, (by rw [c_34]; rfl), zh⟩) t_nil dF_mayBe_47
        · have c_34 : u.testBit d = false := zB_eq0.mp c_34
          refine lv_iload hx hb dF_mayBe_37 (lv_at hl 0 rfl) ?_
          refine lv_if_ne (tgt := 46) hx hb dF_mayBe_39 (by decide) (fun c_39 => ?_) (fun c_39 => ?_)
          · refine lv_iconst (v := nI 0) hx hb dF_mayBe_46 (by decide) ?_
            exact W.zret hx hb hr rfl (fun zT zh _ => ⟨_, rfl, (by rw [c_34]; simp [zOk, zB, c_1, c_8, c_19]), zh⟩) t_nil dF_mayBe_47
          · exact absurd c_39 (by decide)

set_option maxHeartbeats 4000000 in
set_option maxRecDepth 100000 in
theorem c_addWay (l : Launch) (dC : Nat → ClassId) (dI : Nat → Nat → Nat) (cA : ClassId) (a : Nat → Nat) (f : Nat → Int32) (g : Nat → Nat → Int32) (hWD : WDist a) (u : Nat) (x t : Int32) (N : Nat) (hN : N < 5040) (h14 : f 14 = nI N) : Met l yF_addWay wsF_addWay ({ frames := 0, cells := 0, slots := 0, locals := 0 }) (va_Pc [.ref (a 8), .int (nI u), .int x, .int t] (zPW (dC, dI) vwCl [(cA, .int)] (WT cA a f g))) (va_Qv (fun s => s = (upd f 14 (nI (N + 1)), updA (updA (updA g 7 N t) 8 N x) 9 N (nI u))) (zBW (dC, dI) vwCl (fun u : zSt => WT cA a u.1 u.2)) (AT a)) 0 0 (AT a) := by
  refine Met.ofW (cc := prog_4_method_4_code) (maxL := 4) (ret := none) (by decide) rfl ?_
  intro zp ze s zm args below meth zc s₁ zBL hml hv
  obtain ⟨rfl, hP, hK, hN⟩ := hv
  have hx := zBL.exec
  have hb := zBL.bytes
  have hr := zBL.returns
  have hts := atoms_spec (ws := wsF_addWay) zBL.pre
  have hz : ∀ w ∈ zBig, w.before _ s = true := fun w h => hts w (List.mem_cons_of_mem _ h)
  have hown : s.vm.findClass "LetterSums$Search" = some zm.cls := findClass_of_methodNamed zBL.named
  have hlocks := zBL.notSynchronized
  have hD : ∀ f g, va_D (AT a) (WT cA a f g) := fun f g => WT_D hWD f g
  have hS : va_S (AT a) s.heap s.heap [] := va_S.rf
  have hl := lv_entry ([.ref (a 8), .int (nI u), .int x, .int t]) (n := 4) (Nat.le_of_ble_eq_true rfl)
  rw [lg_entry_eq]
  generalize (lg_sl ([.ref (a 8), .int (nI u), .int x, .int t]) ++ List.replicate (4 - (lg_sl ([.ref (a 8), .int (nI u), .int x, .int t])).length) Slot.unset).toArray = ls at hl ⊢
  have hl : lv_has ls 4 [(0, .ref (a 8)), (1, .int (nI u)), (2, .int x), (3, .int t)] := hl
  refine lv_aload_n hx hb dF_addWay_0 rfl (lv_at hl 0 rfl) ?_
  refine gf_14 (v := nI N) hx hb hz hi_F hown hK hP (hz _ q_151) h14 dF_addWay_1 ?_
  refine lv_sipush (v := nI 5040) hx hb dF_addWay_4 (by decide) ?_
  refine lv_icmp_ge (tgt := 50) hx hb dF_addWay_7 (by decide) (fun c_7 => ?_) (fun c_7 => ?_)
  · have c_7 := (nI_leI (a := 5040) (b := N) (by omega) (by omega)).mp c_7
    omega
  · have c_7 := mt (nI_leI (a := 5040) (b := N) (by omega) (by omega)).mpr c_7
    refine lv_aload_n hx hb dF_addWay_10 rfl (lv_at hl 0 rfl) ?_
    refine gr_8_waySum hx hb hz hi_F hown hK hP (hz _ q_146) dF_addWay_11 ?_
    refine lv_aload_n hx hb dF_addWay_14 rfl (lv_at hl 0 rfl) ?_
    refine gf_14 (v := nI N) hx hb hz hi_F hown hK hP (hz _ q_151) h14 dF_addWay_15 ?_
    refine lv_iload_n hx hb dF_addWay_18 rfl (lv_at hl 3 rfl) ?_
    refine zast (wd' := WT cA a f (updA g 7 N t)) hx hb hK hP (hD _ _) hS 11 0 rfl rfl N rfl (by omega) (by decide) rfl dF_addWay_19 (fun H locs hP hS => ?_)
    refine lv_aload_n hx hb dF_addWay_20 rfl (lv_at hl 0 rfl) ?_
    refine gr_8_wayDigits hx hb hz hi_F hown hK hP (hz _ q_147) dF_addWay_21 ?_
    refine lv_aload_n hx hb dF_addWay_24 rfl (lv_at hl 0 rfl) ?_
    refine gf_14 (v := nI N) hx hb hz hi_F hown hK hP (hz _ q_151) h14 dF_addWay_25 ?_
    refine lv_iload_n hx hb dF_addWay_28 rfl (lv_at hl 2 rfl) ?_
    refine zast (wd' := WT cA a f (updA (updA g 7 N t) 8 N x)) hx hb hK hP (hD _ _) hS 12 0 rfl rfl N rfl (by omega) (by decide) rfl dF_addWay_29 (fun H locs hP hS => ?_)
    refine lv_aload_n hx hb dF_addWay_30 rfl (lv_at hl 0 rfl) ?_
    refine gr_8_wayUsed hx hb hz hi_F hown hK hP (hz _ q_148) dF_addWay_31 ?_
    refine lv_aload_n hx hb dF_addWay_34 rfl (lv_at hl 0 rfl) ?_
    refine gf_14 (v := nI N) hx hb hz hi_F hown hK hP (hz _ q_151) h14 dF_addWay_35 ?_
    refine lv_iload_n hx hb dF_addWay_38 rfl (lv_at hl 1 rfl) ?_
    refine zast (wd' := WT cA a f (updA (updA (updA g 7 N t) 8 N x) 9 N (nI u))) hx hb hK hP (hD _ _) hS 13 0 rfl rfl N rfl (by omega) (by decide) rfl dF_addWay_39 (fun H locs hP hS => ?_)
    refine lv_aload_n hx hb dF_addWay_40 rfl (lv_at hl 0 rfl) ?_
    refine lv_dup hx hb dF_addWay_41 rfl ?_
    refine gf_14 (v := nI N) hx hb hz hi_F hown hK hP (hz _ q_151) h14 dF_addWay_42 ?_
    refine lv_iconst (v := nI 1) hx hb dF_addWay_45 (by decide) ?_
    refine lv_iadd hx hb dF_addWay_46 ?_
    refine zt (nI_add _ _) ?_
    refine pf_14 hx hb hz hi_F hown hK hP (hD _ _) hS (hz _ q_151) dF_addWay_47 (fun H locs hP hS => ?_)
    exact W.vret hx hb hr (fun zT zh _ => ⟨⟨(upd f 14 (nI (N + 1)), updA (updA (updA g 7 N t) 8 N x) 9 N (nI u)), rfl, rfl, zbw zh hP⟩, hS.F zh⟩) hS.2.2 dF_addWay_50

set_option maxHeartbeats 4000000 in
set_option maxRecDepth 100000 in
theorem c_listLater_0 (l : Launch) (dC : Nat → ClassId) (dI : Nat → Nat → Nat) (cA : ClassId) (a : Nat → Nat) (f : Nat → Int32) (g : Nat → Nat → Int32) (hWD : WDist a) (bar : Bool) (fr : Nat) (h17 : f 17 = zB bar) (h20 : f 20 = nI fr) (hfr : fr < 256) (B i u : Nat) (x t : Int32) (wl : List (Int32 × Int32 × Nat)) (hB : B ≤ 10) (h13 : f 13 = nI B) (h14 : f 14 = nI wl.length) (h15 : f 15 = nI (i + 0)) (hik : i + 0 ≤ 8) (hw : zWay (g 7) (g 8) (g 9) wl) (hu : u < 2 ^ B) (hlen : (wl ++ zLs B (zOk bar fr) (g 6) 0 i u x t).length ≤ 5040) : Met l yF_listLater wsF_listLater (rmL 0) (va_Pc [.ref (a 8), .int (nI i), .int (nI u), .int x, .int t] (zPW (dC, dI) vwCl [(cA, .int)] (WT cA a f g))) (va_Qv (fun s : zSt => ∃ F7 F8 F9, s = (upd f 14 (nI (wl ++ zLs B (zOk bar fr) (g 6) 0 i u x t).length), sA (sA (sA g 7 F7) 8 F8) 9 F9) ∧ zWay F7 F8 F9 (wl ++ zLs B (zOk bar fr) (g 6) 0 i u x t)) (zBW (dC, dI) vwCl (fun u : zSt => WT cA a u.1 u.2)) (AT a)) 0 0 (AT a) := by
  refine Met.ofW (cc := prog_4_method_3_code) (maxL := 6) (ret := none) (by decide) rfl ?_
  intro zp ze s zm args below meth zc s₁ zBL hml hv
  obtain ⟨rfl, hP, hK, hN⟩ := hv
  have hx := zBL.exec
  have hb := zBL.bytes
  have hr := zBL.returns
  have hts := atoms_spec (ws := wsF_listLater) zBL.pre
  have hz : ∀ w ∈ zBig, w.before _ s = true := fun w h => hts w (List.mem_cons_of_mem _ h)
  have hown : s.vm.findClass "LetterSums$Search" = some zm.cls := findClass_of_methodNamed zBL.named
  have hlocks := zBL.notSynchronized
  have hD : ∀ f g, va_D (AT a) (WT cA a f g) := fun f g => WT_D hWD f g
  have hS : va_S (AT a) s.heap s.heap [] := va_S.rf
  have hl := lv_entry ([.ref (a 8), .int (nI i), .int (nI u), .int x, .int t]) (n := 6) (Nat.le_of_ble_eq_true rfl)
  rw [lg_entry_eq]
  generalize (lg_sl ([.ref (a 8), .int (nI i), .int (nI u), .int x, .int t]) ++ List.replicate (6 - (lg_sl ([.ref (a 8), .int (nI i), .int (nI u), .int x, .int t])).length) Slot.unset).toArray = ls at hl ⊢
  have hl : lv_has ls 6 [(0, .ref (a 8)), (1, .int (nI i)), (2, .int (nI u)), (3, .int x), (4, .int t)] := hl
  refine lv_iload_n hx hb dF_listLater_0 rfl (lv_at hl 1 rfl) ?_
  refine lv_aload_n hx hb dF_listLater_1 rfl (lv_at hl 0 rfl) ?_
  refine gf_15 (v := nI (i + 0)) hx hb hz hi_F hown hK hP (hz _ q_152) h15 dF_listLater_2 ?_
  refine lv_icmp_lt (tgt := 17) hx hb dF_listLater_5 (by decide) (fun c_5 => ?_) (fun c_5 => ?_)
  · have c_5 := (nI_ltI (a := i) (b := i + 0) (by omega) (by omega)).mp c_5
    omega
  · have c_5 := mt (nI_ltI (a := i) (b := (i + 0)) (by omega) (by omega)).mpr c_5
    refine lv_aload_n hx hb dF_listLater_8 rfl (lv_at hl 0 rfl) ?_
    refine lv_iload_n hx hb dF_listLater_9 rfl (lv_at hl 2 rfl) ?_
    refine lv_iload_n hx hb dF_listLater_10 rfl (lv_at hl 3 rfl) ?_
    refine lv_iload hx hb dF_listLater_11 (lv_at hl 4 rfl) ?_
    refine zk_v (zrV (rest := []) ⟨hx, hb, hml, hown, hz⟩ (c_addWay l dC dI cA a f g hWD u x t wl.length (by have q := hlen; simp [zLs] at q; omega) h14) ⟨zcB 3 hz q_336 q_7 q_339 (by decide +kernel) rfl rfl ⟨Nat.le_of_ble_eq_true rfl, Nat.le_of_ble_eq_true rfl⟩, hz _ q_338, hz _ qs_12⟩ hK hN hP 8 3 rfl rfl rfl rfl hl.1 rfl (Nat.le_of_ble_eq_true rfl) dF_listLater_13 ⟨Nat.zero_le _, Nat.zero_le _⟩) hS (fun _ h => h) (fun zu H1 locs zhu hP1 hS hk => ?_)
    subst zhu
    have hP := hP1
    generalize H1 = H at hP hS ⊢
    exact W.vret hx hb hr (fun zT zh _ => ⟨⟨(upd f 14 (nI (wl.length + 1)), updA (updA (updA g 7 wl.length t) 8 wl.length x) 9 wl.length (nI u)), rfl, ⟨upd (g 7) wl.length t, upd (g 8) wl.length x, upd (g 9) wl.length (nI u), Prod.ext (by rw [show (wl ++ zLs B (zOk bar fr) (g 6) 0 i u x t).length = wl.length + 1 from by simp [zLs]]) rfl, zWay_push hw t x u⟩, zbw zh hP⟩, hS.F zh⟩) hS.2.2 dF_listLater_16

def MLater (l : Launch) (dC : Nat → ClassId) (dI : Nat → Nat → Nat) (cA : ClassId) (a : Nat → Nat) (k : Nat) : Prop := ∀ (f : Nat → Int32) (g : Nat → Nat → Int32) (bar : Bool) (fr : Nat) (h17 : f 17 = zB bar) (h20 : f 20 = nI fr) (hfr : fr < 256) (B i u : Nat) (x t : Int32) (wl : List (Int32 × Int32 × Nat)) (hB : B ≤ 10) (h13 : f 13 = nI B) (h14 : f 14 = nI wl.length) (h15 : f 15 = nI (i + k)) (hik : i + k ≤ 8) (hw : zWay (g 7) (g 8) (g 9) wl) (hu : u < 2 ^ B) (hlen : (wl ++ zLs B (zOk bar fr) (g 6) k i u x t).length ≤ 5040), Met l yF_listLater wsF_listLater (rmL k) (va_Pc [.ref (a 8), .int (nI i), .int (nI u), .int x, .int t] (zPW (dC, dI) vwCl [(cA, .int)] (WT cA a f g))) (va_Qv (fun s : zSt => ∃ F7 F8 F9, s = (upd f 14 (nI (wl ++ zLs B (zOk bar fr) (g 6) k i u x t).length), sA (sA (sA g 7 F7) 8 F8) 9 F9) ∧ zWay F7 F8 F9 (wl ++ zLs B (zOk bar fr) (g 6) k i u x t)) (zBW (dC, dI) vwCl (fun u : zSt => WT cA a u.1 u.2)) (AT a)) 0 0 (AT a)

set_option maxHeartbeats 4000000 in
set_option maxRecDepth 100000 in
theorem c_listLater_S (l : Launch) (dC : Nat → ClassId) (dI : Nat → Nat → Nat) (cA : ClassId) (a : Nat → Nat) (f : Nat → Int32) (g : Nat → Nat → Int32) (hWD : WDist a) (k : Nat) (IH : MLater l dC dI cA a k) (bar : Bool) (fr : Nat) (h17 : f 17 = zB bar) (h20 : f 20 = nI fr) (hfr : fr < 256) (B i u : Nat) (x t : Int32) (wl : List (Int32 × Int32 × Nat)) (hB : B ≤ 10) (h13 : f 13 = nI B) (h14 : f 14 = nI wl.length) (h15 : f 15 = nI (i + (k + 1))) (hik : i + (k + 1) ≤ 8) (hw : zWay (g 7) (g 8) (g 9) wl) (hu : u < 2 ^ B) (hlen : (wl ++ zLs B (zOk bar fr) (g 6) (k + 1) i u x t).length ≤ 5040) : Met l yF_listLater wsF_listLater (rmL (k + 1)) (va_Pc [.ref (a 8), .int (nI i), .int (nI u), .int x, .int t] (zPW (dC, dI) vwCl [(cA, .int)] (WT cA a f g))) (va_Qv (fun s : zSt => ∃ F7 F8 F9, s = (upd f 14 (nI (wl ++ zLs B (zOk bar fr) (g 6) (k + 1) i u x t).length), sA (sA (sA g 7 F7) 8 F8) 9 F9) ∧ zWay F7 F8 F9 (wl ++ zLs B (zOk bar fr) (g 6) (k + 1) i u x t)) (zBW (dC, dI) vwCl (fun u : zSt => WT cA a u.1 u.2)) (AT a)) 0 0 (AT a) := by
  refine Met.ofW (cc := prog_4_method_3_code) (maxL := 6) (ret := none) (by decide) rfl ?_
  intro zp ze s zm args below meth zc s₁ zBL hml hv
  obtain ⟨rfl, hP, hK, hN⟩ := hv
  have hx := zBL.exec
  have hb := zBL.bytes
  have hr := zBL.returns
  have hts := atoms_spec (ws := wsF_listLater) zBL.pre
  have hz : ∀ w ∈ zBig, w.before _ s = true := fun w h => hts w (List.mem_cons_of_mem _ h)
  have hown : s.vm.findClass "LetterSums$Search" = some zm.cls := findClass_of_methodNamed zBL.named
  have hlocks := zBL.notSynchronized
  have hD : ∀ f g, va_D (AT a) (WT cA a f g) := fun f g => WT_D hWD f g
  have hS : va_S (AT a) s.heap s.heap [] := va_S.rf
  have hl := lv_entry ([.ref (a 8), .int (nI i), .int (nI u), .int x, .int t]) (n := 6) (Nat.le_of_ble_eq_true rfl)
  rw [lg_entry_eq]
  generalize (lg_sl ([.ref (a 8), .int (nI i), .int (nI u), .int x, .int t]) ++ List.replicate (6 - (lg_sl ([.ref (a 8), .int (nI i), .int (nI u), .int x, .int t])).length) Slot.unset).toArray = ls at hl ⊢
  have hl : lv_has ls 6 [(0, .ref (a 8)), (1, .int (nI i)), (2, .int (nI u)), (3, .int x), (4, .int t)] := hl
  have loop : ∀ (k0 : Nat) (d : Nat) (cur : List (Int32 × Int32 × Nat)) (F7 F8 F9 : Nat → Int32) (H : Heap) (locs : List Loc) (ls : Array Slot), B + 1 ≤ d + k0 → d ≤ B → cur = wl ++ zPre B (zOk bar fr) (g 6) k i u x t d → zWay F7 F8 F9 cur → va_P (dC, dI) vwCl (WT cA a (upd f 14 (nI cur.length)) (sA (sA (sA g 7 F7) 8 F8) 9 F9)) H → va_S (AT a) s.heap H locs → lv_has ls 6 [(0, .ref (a 8)), (1, .int (nI i)), (2, .int (nI u)), (3, .int x), (4, .int t), (5, .int (nI d))] → W zp l ze (headSpec wsF_listLater (rmL (k + 1))).room s zm ([.ref (a 8), .int (nI i), .int (nI u), .int x, .int t] : List Value).toArray below meth zc H locs 0 0 (MQ below (va_Qv (fun s : zSt => ∃ F7 F8 F9, s = (upd f 14 (nI (wl ++ zLs B (zOk bar fr) (g 6) (k + 1) i u x t).length), sA (sA (sA g 7 F7) 8 F8) 9 F9) ∧ zWay F7 F8 F9 (wl ++ zLs B (zOk bar fr) (g 6) (k + 1) i u x t)) (zBW (dC, dI) vwCl (fun u : zSt => WT cA a u.1 u.2)) (AT a)) ([.ref (a 8), .int (nI i), .int (nI u), .int x, .int t] : List Value).toArray s 0 0 (AT a)) (F0 zm 20 ls []) := by
    intro k0
    induction k0 with
    | zero => intro d cur F7 F8 F9 H locs ls q1 q2; omega
    | succ k0 ih =>
      intro d cur F7 F8 F9 H locs ls hk0 hdB hcur hw2 hP hS hl
      refine lv_iload hx hb dF_listLater_20 (lv_at hl 5 rfl) ?_
      refine lv_aload_n hx hb dF_listLater_22 rfl (lv_at hl 0 rfl) ?_
      refine gf_13 (v := nI B) hx hb hz hi_F hown hK hP (hz _ q_144) h13 dF_listLater_23 ?_
      refine lv_icmp_ge (tgt := 81) hx hb dF_listLater_26 (by decide) (fun c_26 => ?_) (fun c_26 => ?_)
      · have c_26 := (nI_leI (a := B) (b := d) (by omega) (by omega)).mp c_26
        exact W.vret hx hb hr (fun zT zh _ => ⟨⟨(upd f 14 (nI cur.length), sA (sA (sA g 7 F7) 8 F8) 9 F9), rfl, (by
              have e : d = B := by omega
              subst e
              exact ⟨F7, F8, F9, by rw [hcur]; rfl, by rw [hcur] at hw2; exact hw2⟩), zbw zh hP⟩, hS.F zh⟩) hS.2.2 dF_listLater_81
      · have c_26 := mt (nI_leI (a := B) (b := d) (by omega) (by omega)).mpr c_26
        refine lv_aload_n hx hb dF_listLater_29 rfl (lv_at hl 0 rfl) ?_
        refine lv_iload_n hx hb dF_listLater_30 rfl (lv_at hl 1 rfl) ?_
        refine lv_iload hx hb dF_listLater_31 (lv_at hl 5 rfl) ?_
        refine lv_iload_n hx hb dF_listLater_33 rfl (lv_at hl 2 rfl) ?_
        refine zq_e (zrV (rest := []) ⟨hx, hb, hml, hown, hz⟩ (c_mayBe l dC dI cA a (upd f 14 (nI cur.length)) (sA (sA (sA g 7 F7) 8 F8) 9 F9) bar fr h17 h20 hfr i d u (by omega) (by omega) (zLt1024 hu hB)) ⟨zcB 3 hz q_340 q_7 q_343 (by decide +kernel) rfl rfl ⟨Nat.le_trans (m := 2) (by decide) (by show 2 ≤ 2 + (k + 1); omega), Nat.le_trans (m := 45) (by decide) (by show 45 ≤ 45 + 25 * (k + 1); omega)⟩, hz _ q_342, hz _ qs_13⟩ hK hN hP 8 3 rfl rfl rfl rfl hl.1 rfl (Nat.le_of_ble_eq_true rfl) dF_listLater_34 ⟨Nat.zero_le _, Nat.zero_le _⟩) ?_
        refine lv_if_eq (tgt := 75) hx hb dF_listLater_37 (by decide) (fun c_37 => ?_) (fun c_37 => ?_)
        · have c_37 := zMay0 c_37
          refine lv_iinc (v := nI (d + 1)) (lv' := [(5, .int (nI (d + 1))), (0, .ref (a 8)), (1, .int (nI i)), (2, .int (nI u)), (3, .int x), (4, .int t)]) hx hb dF_listLater_75 hl (k := 5) rfl (nI_1 _) (by decide) rfl (fun ls hl => ?_)
          refine lv_goto (tgt := 20) hx hb dF_listLater_78 (by decide) ?_
          exact ih (d + 1) cur F7 F8 F9 H locs ls (by omega) (by omega) (by rw [zPre_S, if_pos c_37, List.append_nil]; exact hcur) hw2 hP hS (lv_sub hl [1, 2, 3, 4, 5, 0] rfl)
        · have c_37 := zMay1 c_37
          refine lv_aload_n hx hb dF_listLater_40 rfl (lv_at hl 0 rfl) ?_
          refine lv_iload_n hx hb dF_listLater_41 rfl (lv_at hl 1 rfl) ?_
          refine lv_iconst (v := nI 1) hx hb dF_listLater_42 (by decide) ?_
          refine lv_iadd hx hb dF_listLater_43 ?_
          refine zt (nI_add _ _) ?_
          refine lv_iload_n hx hb dF_listLater_44 rfl (lv_at hl 2 rfl) ?_
          refine lv_iconst (v := nI 1) hx hb dF_listLater_45 (by decide) ?_
          refine lv_iload hx hb dF_listLater_46 (lv_at hl 5 rfl) ?_
          refine lv_ishl hx hb dF_listLater_48 ?_
          refine lv_ior hx hb dF_listLater_49 ?_
          refine zt (y := nI (u ||| 2 ^ d)) (zUse (by omega)) ?_
          refine lv_iload_n hx hb dF_listLater_50 rfl (lv_at hl 3 rfl) ?_
          refine lv_iload_n hx hb dF_listLater_51 rfl (lv_at hl 1 rfl) ?_
          refine lv_iload hx hb dF_listLater_52 (lv_at hl 5 rfl) ?_
          refine zq_e (zrSN0 (rest := [.int (nI (u ||| 2 ^ d)), .int (nI (i + 1)), .ref (a 8)]) ⟨hx, hb, hml, hown, hz⟩ (c_withDigit l  x (nI i) (nI d)) ⟨zcN 3 hz hN qn_348 q_1 q_350 (by decide +kernel) rfl rfl ⟨Nat.le_trans (m := 2) (by decide) (by show 2 ≤ 2 + (k + 1); omega), Nat.le_trans (m := 45) (by decide) (by show 45 ≤ 45 + 25 * (k + 1); omega)⟩, hz _ q_349, trivial⟩ rfl hl.1 rfl (Nat.le_of_ble_eq_true rfl) dF_listLater_54 ⟨Nat.zero_le _, Nat.zero_le _⟩) ?_
          refine lv_iload hx hb dF_listLater_57 (lv_at hl 4 rfl) ?_
          refine lv_iload hx hb dF_listLater_59 (lv_at hl 5 rfl) ?_
          refine lv_aload_n hx hb dF_listLater_61 rfl (lv_at hl 0 rfl) ?_
          refine gr_8_weights hx hb hz hi_F hown hK hP (hz _ q_145) dF_listLater_62 ?_
          refine gr_9_ofSlotN hx hb hz hi_W hown hK hP (va_Nw.use rfl (hN _ qn_127)) dF_listLater_65 ?_
          refine lv_iload_n hx hb dF_listLater_68 rfl (lv_at hl 1 rfl) ?_
          refine zald (v := g 6 i) hx hb hK hP 10 0 rfl rfl i rfl (by omega) (by decide) rfl dF_listLater_69 ?_
          refine lv_imul hx hb dF_listLater_70 ?_
          refine lv_iadd hx hb dF_listLater_71 ?_
          have hlen2 : (cur ++ zLs B (zOk bar fr) (g 6) k (i + 1) (u ||| 2 ^ d) (zWd x (nI i) (nI d)) (t + nI d * g 6 i)).length ≤ 5040 := by
            have q := zPre_le B (zOk bar fr) (g 6) k i u x t (d := d + 1) (by omega)
            rw [zPre_S, if_neg c_37] at q
            have q2 := hlen
            rw [List.length_append] at q2 q ⊢
            rw [hcur, List.length_append]
            have q3 : (zLs B (zOk bar fr) (g 6) (k + 1) i u x t).length = (zPre B (zOk bar fr) (g 6) k i u x t B).length := rfl
            omega
          refine zk_v (zrV (rest := []) ⟨hx, hb, hml, hown, hz⟩ (IH (upd f 14 (nI cur.length)) (sA (sA (sA g 7 F7) 8 F8) 9 F9) bar fr h17 h20 hfr B (i + 1) (u ||| 2 ^ d) (zWd x (nI i) (nI d)) (t + nI d * g 6 i) cur hB h13 rfl (by rw [show i + 1 + k = i + (k + 1) by omega]; exact h15) (by omega) hw2 (zOrLt hu (by omega)) hlen2) ⟨zcB 4 hz q_332 q_7 q_335 (by decide +kernel) rfl rfl ⟨by show 2 + k + 1 ≤ 2 + (k + 1); omega, by show 8 + (_ + 11) + (45 + 25 * k) ≤ 45 + 25 * (k + 1); omega⟩, hz _ q_334, hz _ qs_11⟩ hK hN hP 8 3 rfl rfl rfl rfl hl.1 rfl (Nat.le_of_ble_eq_true rfl) dF_listLater_72 ⟨Nat.zero_le _, Nat.zero_le _⟩) hS (fun _ h => h) (fun zu H1 locs zhu hP1 hS hk => ?_)
          obtain ⟨G7, G8, G9, rfl, hw3⟩ := zhu
          have hw3 : zWay G7 G8 G9 (cur ++ zLs B (zOk bar fr) (g 6) k (i + 1) (u ||| 2 ^ d) (zWd x (nI i) (nI d)) (t + nI d * g 6 i)) := hw3
          have hP1 : va_P (dC, dI) vwCl (WT cA a (upd f 14 (nI (cur ++ zLs B (zOk bar fr) (g 6) k (i + 1) (u ||| 2 ^ d) (zWd x (nI i) (nI d)) (t + nI d * g 6 i)).length)) (sA (sA (sA g 7 G7) 8 G8) 9 G9)) H1 := by
            rw [← upd_upd f 14 (nI cur.length) _, ← sA3_3 g F7 F8 F9 G7 G8 G9]
            exact hP1
          have hP := hP1
          generalize H1 = H at hP hS ⊢
          refine lv_iinc (v := nI (d + 1)) (lv' := [(5, .int (nI (d + 1))), (0, .ref (a 8)), (1, .int (nI i)), (2, .int (nI u)), (3, .int x), (4, .int t)]) hx hb dF_listLater_75 hl (k := 5) rfl (nI_1 _) (by decide) rfl (fun ls hl => ?_)
          refine lv_goto (tgt := 20) hx hb dF_listLater_78 (by decide) ?_
          exact ih (d + 1) _ G7 G8 G9 H locs ls (by omega) (by omega) (by rw [zPre_S, if_neg c_37, ← List.append_assoc, ← hcur]) hw3 hP hS (lv_sub hl [1, 2, 3, 4, 5, 0] rfl)
  refine lv_iload_n hx hb dF_listLater_0 rfl (lv_at hl 1 rfl) ?_
  refine lv_aload_n hx hb dF_listLater_1 rfl (lv_at hl 0 rfl) ?_
  refine gf_15 (v := nI (i + (k + 1))) hx hb hz hi_F hown hK hP (hz _ q_152) h15 dF_listLater_2 ?_
  refine lv_icmp_lt (tgt := 17) hx hb dF_listLater_5 (by decide) (fun c_5 => ?_) (fun c_5 => ?_)
  · have c_5 := (nI_ltI (a := i) (b := (i + (k + 1))) (by omega) (by omega)).mp c_5
    refine lv_iconst (v := nI 0) hx hb dF_listLater_17 (by decide) ?_
    refine lv_istore (lv' := [(5, .int (nI 0)), (0, .ref (a 8)), (1, .int (nI i)), (2, .int (nI u)), (3, .int x), (4, .int t)]) hx hb dF_listLater_18 hl (by decide) rfl (fun ls hl => ?_)
    have e0 : upd f 14 (nI wl.length) = f := upd_self h14
    have e1 : sA (sA (sA g 7 (g 7)) 8 (g 8)) 9 (g 9) = g := sA3_self g
    exact loop (B + 1) 0 wl (g 7) (g 8) (g 9) _ _ ls (by omega) (by omega) (by simp [zPre]) hw (by rw [e0, e1]; exact hP) hS (lv_sub hl [1, 2, 3, 4, 5, 0] rfl)
  · have c_5 := mt (nI_ltI (a := i) (b := i + (k + 1)) (by omega) (by omega)).mpr c_5
    omega

theorem c_listLater (l : Launch) (dC : Nat → ClassId) (dI : Nat → Nat → Nat) (cA : ClassId) (a : Nat → Nat) (hWD : WDist a) : ∀ k, MLater l dC dI cA a k := by
  intro k
  induction k with
  | zero =>
    intro f g bar fr h17 h20 hfr B i u x t wl hB h13 h14 h15 hik hw hu hlen
    exact c_listLater_0 l dC dI cA a f g hWD bar fr h17 h20 hfr B i u x t wl hB h13 h14 h15 hik hw hu hlen
  | succ k ih =>
    intro f g bar fr h17 h20 hfr B i u x t wl hB h13 h14 h15 hik hw hu hlen
    exact c_listLater_S l dC dI cA a f g hWD k ih bar fr h17 h20 hfr B i u x t wl hB h13 h14 h15 hik hw hu hlen
