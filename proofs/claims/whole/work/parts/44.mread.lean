set_option maxHeartbeats 4000000 in
set_option maxRecDepth 100000 in
theorem c_M_letter (l : Launch) (dC : Nat → ClassId) (dI : Nat → Nat → Nat) (cA cZ cJ : ClassId) (a : Nat → Nat) (f : Nat → Int32) (g : Nat → Nat → Int32) (h : Nat → Int64) (r : Int64) (hWD : MDist a) (ka : Int32) (lc : Nat) (hlc : lc ≤ 8) (h5 : f 5 = nI lc) : Met l yM_letter wsM_letter ({ frames := 0, cells := 0, slots := 0, locals := 0 }) (va_Pc [.ref (a 17), .int ka] (zPW (dC, dI) vwCl [(cA, .int), (cZ, .boolean), (cJ, .long)] (WM cA cZ cJ a f g h r))) (va_Qi (fun (z : Int32) (s : zMt) => z = zAt (-1) (g 6) lc ka ∧ s = (upd f 2 (nI 0), g, h, r)) (zBW (dC, dI) vwCl (fun u : zMt => WM cA cZ cJ a u.1 u.2.1 u.2.2.1 u.2.2.2)) (AM a)) 0 0 (AM a) := by
  refine Met.ofW (cc := prog_8_method_10_code) (maxL := 2) (ret := (some .int)) (by decide) rfl ?_
  intro zp ze s zm args below meth zc s₁ zBL hml hv
  obtain ⟨rfl, hP, hK, hN⟩ := hv
  have hx := zBL.exec
  have hb := zBL.bytes
  have hr := zBL.returns
  have hts := atoms_spec (ws := wsM_letter) zBL.pre
  have hz : ∀ w ∈ zBig, w.before _ s = true := fun w h => hts w (List.mem_cons_of_mem _ h)
  have hown : s.vm.findClass "LetterSumsModel" = some zm.cls := findClass_of_methodNamed zBL.named
  have hlocks := zBL.notSynchronized
  have hD : ∀ f g h r, va_D (AM a) (WM cA cZ cJ a f g h r) := fun f g h r => WM_D hWD f g h r
  have hS : va_S (AM a) s.heap s.heap [] := va_S.rf
  have hl := lv_entry ([.ref (a 17), .int ka]) (n := 2) (Nat.le_of_ble_eq_true rfl)
  rw [lg_entry_eq]
  generalize (lg_sl ([.ref (a 17), .int ka]) ++ List.replicate (2 - (lg_sl ([.ref (a 17), .int ka])).length) Slot.unset).toArray = ls at hl ⊢
  have hl : lv_has ls 2 [(0, .ref (a 17)), (1, .int ka)] := hl
  refine lv_aload_n hx hb dM_letter_0 rfl (lv_at hl 0 rfl) ?_
  refine lv_iconst (v := nI 0) hx hb dM_letter_1 (by decide) ?_
  refine mpf_2 hx hb hz hi_M hown hK hP (hD _ _ _ _) hS (hz _ q_461) dM_letter_2 (fun H locs hP hS => ?_)
  refine lv_iload_n hx hb dM_letter_5 rfl (lv_at hl 1 rfl) ?_
  refine lv_if_lt (tgt := 17) hx hb dM_letter_6 (by decide) (fun c_6 => ?_) (fun c_6 => ?_)
  · refine lv_iconst (v := (-1)) hx hb dM_letter_17 (by decide) ?_
    refine lv_goto (tgt := 27) hx hb dM_letter_18 (by decide) ?_
    exact W.iret hx hb hr (fun zT zh _ => ⟨⟨_, (upd f 2 (nI 0), g, h, r), rfl, ⟨(zAt_neg c_6).symm, rfl⟩, zbw zh hP⟩, hS.F zh⟩) hS.2.2 dM_letter_27
  · refine lv_iload_n hx hb dM_letter_9 rfl (lv_at hl 1 rfl) ?_
    refine lv_aload_n hx hb dM_letter_10 rfl (lv_at hl 0 rfl) ?_
    refine mgf_5 (v := nI lc) hx hb hz hi_M hown hK hP (hz _ q_465) h5 dM_letter_11 ?_
    refine lv_icmp_lt (tgt := 21) hx hb dM_letter_14 (by decide) (fun c_14 => ?_) (fun c_14 => ?_)
    · obtain ⟨j, hj, hk⟩ := zAt_ix (n := lc) (by omega) c_6 (Int32.not_le.mpr c_14)
      refine lv_aload_n hx hb dM_letter_21 rfl (lv_at hl 0 rfl) ?_
      refine mgr_letter hx hb hz hi_M hown hK hP (hz _ q_471) dM_letter_22 ?_
      refine lv_iload_n hx hb dM_letter_25 rfl (lv_at hl 1 rfl) ?_
      refine zald (v := g 6 j) hx hb hK hP 6 0 rfl rfl j hk (by omega) (by decide) rfl dM_letter_26 ?_
      exact W.iret hx hb hr (fun zT zh _ => ⟨⟨_, (upd f 2 (nI 0), g, h, r), rfl, ⟨(zAt_in (by omega) hj hk).symm, rfl⟩, zbw zh hP⟩, hS.F zh⟩) hS.2.2 dM_letter_27
    · refine lv_iconst (v := (-1)) hx hb dM_letter_17 (by decide) ?_
      refine lv_goto (tgt := 27) hx hb dM_letter_18 (by decide) ?_
      exact W.iret hx hb hr (fun zT zh _ => ⟨⟨_, (upd f 2 (nI 0), g, h, r), rfl, ⟨(zAt_big (by omega) (Int32.not_lt.mp c_14)).symm, rfl⟩, zbw zh hP⟩, hS.F zh⟩) hS.2.2 dM_letter_27

set_option maxHeartbeats 4000000 in
set_option maxRecDepth 100000 in
theorem c_M_indexOf (l : Launch) (dC : Nat → ClassId) (dI : Nat → Nat → Nat) (cA cZ cJ : ClassId) (a : Nat → Nat) (f : Nat → Int32) (g : Nat → Nat → Int32) (h : Nat → Int64) (r : Int64) (c : Int32) (lc : Nat) (hlc : lc ≤ 8) (h5 : f 5 = nI lc) : Met l yM_indexOf wsM_indexOf ({ frames := 0, cells := 0, slots := 0, locals := 0 }) (va_Pc [.ref (a 17), .int c] (zPW (dC, dI) vwCl [(cA, .int), (cZ, .boolean), (cJ, .long)] (WM cA cZ cJ a f g h r))) (vp_Si (fun r => r = (zIx (g 6) c lc 0))) 0 0 (fun _ => False) := by
  refine Met.ofW (cc := prog_8_method_11_code) (maxL := 3) (ret := (some .int)) (by decide) rfl ?_
  intro zp ze s zm args below meth zc s₁ zBL hml hv
  obtain ⟨rfl, hP, hK, hN⟩ := hv
  have hx := zBL.exec
  have hb := zBL.bytes
  have hr := zBL.returns
  have hts := atoms_spec (ws := wsM_indexOf) zBL.pre
  have hz : ∀ w ∈ zBig, w.before _ s = true := fun w h => hts w (List.mem_cons_of_mem _ h)
  have hown : s.vm.findClass "LetterSumsModel" = some zm.cls := findClass_of_methodNamed zBL.named
  have hlocks := zBL.notSynchronized
  have hl := lv_entry ([.ref (a 17), .int c]) (n := 3) (Nat.le_of_ble_eq_true rfl)
  rw [lg_entry_eq]
  generalize (lg_sl ([.ref (a 17), .int c]) ++ List.replicate (3 - (lg_sl ([.ref (a 17), .int c])).length) Slot.unset).toArray = ls at hl ⊢
  have hl : lv_has ls 3 [(0, .ref (a 17)), (1, .int c)] := hl
  have loop : ∀ (k0 : Nat) (k : Nat) (ls : Array Slot), lc + 1 ≤ k + k0 → k ≤ lc → zIx (g 6) c (lc - k) k = zIx (g 6) c lc 0 → lv_has ls 3 [(0, .ref (a 17)), (1, .int c), (2, .int (nI k))] → W zp l ze (headSpec wsM_indexOf ({ frames := 0, cells := 0, slots := 0, locals := 0 })).room s zm ([.ref (a 17), .int c] : List Value).toArray below meth zc s.heap [] 0 0 (MQ below (vp_Si (fun r => r = (zIx (g 6) c lc 0))) ([.ref (a 17), .int c] : List Value).toArray s 0 0 (fun _ => False)) (F0 zm 2 ls []) := by
    intro k0
    induction k0 with
    | zero => intro k ls q1 q2; omega
    | succ k0 ih =>
      intro k ls hk0 hk hR hl
      refine lv_iload_n hx hb dM_indexOf_2 rfl (lv_at hl 2 rfl) ?_
      refine lv_aload_n hx hb dM_indexOf_3 rfl (lv_at hl 0 rfl) ?_
      refine mgf_5 (v := nI lc) hx hb hz hi_M hown hK hP (hz _ q_465) h5 dM_indexOf_4 ?_
      refine lv_icmp_ge (tgt := 28) hx hb dM_indexOf_7 (by decide) (fun c_7 => ?_) (fun c_7 => ?_)
      · have c_7 := (nI_leI (a := lc) (b := k) (by omega) (by omega)).mp c_7
        refine lv_iconst (v := (-1)) hx hb dM_indexOf_28 (by decide) ?_
        exact W.iret hx hb hr (fun zT zh _ => ⟨_, rfl, (by rw [← hR, show lc - k = 0 by omega]; rfl), zh⟩) t_nil dM_indexOf_29
      · have c_7 := mt (nI_leI (a := lc) (b := k) (by omega) (by omega)).mpr c_7
        refine lv_aload_n hx hb dM_indexOf_10 rfl (lv_at hl 0 rfl) ?_
        refine mgr_letter hx hb hz hi_M hown hK hP (hz _ q_471) dM_indexOf_11 ?_
        refine lv_iload_n hx hb dM_indexOf_14 rfl (lv_at hl 2 rfl) ?_
        refine zald (v := g 6 k) hx hb hK hP 6 0 rfl rfl k rfl (by omega) (by decide) rfl dM_indexOf_15 ?_
        refine lv_iload_n hx hb dM_indexOf_16 rfl (lv_at hl 1 rfl) ?_
        refine lv_icmp_ne (tgt := 22) hx hb dM_indexOf_17 (by decide) (fun c_17 => ?_) (fun c_17 => ?_)
        · refine lv_iinc (v := nI (k + 1)) (lv' := [(2, .int (nI (k + 1))), (0, .ref (a 17)), (1, .int c)]) hx hb dM_indexOf_22 hl (k := 2) rfl (nI_1 _) (by decide) rfl (fun ls hl => ?_)
          refine lv_goto (tgt := 2) hx hb dM_indexOf_25 (by decide) ?_
          exact ih (k + 1) ls (by omega) (by omega) (by rw [← hR, show lc - k = (lc - (k + 1)) + 1 by omega]; simp only [zIx]; rw [if_neg c_17]) (lv_sub hl [1, 2, 0] rfl)
        · refine lv_iload_n hx hb dM_indexOf_20 rfl (lv_at hl 2 rfl) ?_
          exact W.iret hx hb hr (fun zT zh _ => ⟨_, rfl, (by rw [← hR, show lc - k = (lc - (k + 1)) + 1 by omega]; simp only [zIx]; rw [if_pos c_17]), zh⟩) t_nil dM_indexOf_21
  refine lv_iconst (v := nI 0) hx hb dM_indexOf_0 (by decide) ?_
  refine lv_istore_n (lv' := [(2, .int (nI 0)), (0, .ref (a 17)), (1, .int c)]) hx hb dM_indexOf_1 rfl hl (by decide) rfl (fun ls hl => ?_)
  exact loop (lc + 1) 0 ls (by omega) (by omega) rfl (lv_sub hl [1, 2, 0] rfl)

set_option maxHeartbeats 4000000 in
set_option maxRecDepth 100000 in
theorem c_M_isAnswer (l : Launch) (dC : Nat → ClassId) (dI : Nat → Nat → Nat) (cA cZ cJ : ClassId) (a : Nat → Nat) (f : Nat → Int32) (g : Nat → Nat → Int32) (h : Nat → Int64) (r : Int64) (ka : Int32) (kept : Nat) (hkept : kept ≤ 1000) (h6 : f 6 = nI kept) : Met l yM_isAnswer wsM_isAnswer ({ frames := 0, cells := 0, slots := 0, locals := 0 }) (va_Pc [.ref (a 17), .int ka] (zPW (dC, dI) vwCl [(cA, .int), (cZ, .boolean), (cJ, .long)] (WM cA cZ cJ a f g h r))) (vp_Si (fun r => r = (zB (zKept kept ka)))) 0 0 (fun _ => False) := by
  refine Met.ofW (cc := prog_8_method_16_code) (maxL := 2) (ret := (some .boolean)) (by decide) rfl ?_
  intro zp ze s zm args below meth zc s₁ zBL hml hv
  obtain ⟨rfl, hP, hK, hN⟩ := hv
  have hx := zBL.exec
  have hb := zBL.bytes
  have hr := zBL.returns
  have hts := atoms_spec (ws := wsM_isAnswer) zBL.pre
  have hz : ∀ w ∈ zBig, w.before _ s = true := fun w h => hts w (List.mem_cons_of_mem _ h)
  have hown : s.vm.findClass "LetterSumsModel" = some zm.cls := findClass_of_methodNamed zBL.named
  have hlocks := zBL.notSynchronized
  have hl := lv_entry ([.ref (a 17), .int ka]) (n := 2) (Nat.le_of_ble_eq_true rfl)
  rw [lg_entry_eq]
  generalize (lg_sl ([.ref (a 17), .int ka]) ++ List.replicate (2 - (lg_sl ([.ref (a 17), .int ka])).length) Slot.unset).toArray = ls at hl ⊢
  have hl : lv_has ls 2 [(0, .ref (a 17)), (1, .int ka)] := hl
  refine lv_iload_n hx hb dM_isAnswer_0 rfl (lv_at hl 1 rfl) ?_
  refine lv_if_lt (tgt := 16) hx hb dM_isAnswer_1 (by decide) (fun c_1 => ?_) (fun c_1 => ?_)
  · refine lv_iconst (v := nI 0) hx hb dM_isAnswer_16 (by decide) ?_
    exact W.zret hx hb hr rfl (fun zT zh _ => ⟨_, rfl, (by rw [zKept_neg c_1]; rfl), zh⟩) t_nil dM_isAnswer_17
  · refine lv_iload_n hx hb dM_isAnswer_4 rfl (lv_at hl 1 rfl) ?_
    refine lv_aload_n hx hb dM_isAnswer_5 rfl (lv_at hl 0 rfl) ?_
    refine mgf_6 (v := nI kept) hx hb hz hi_M hown hK hP (hz _ q_466) h6 dM_isAnswer_6 ?_
    refine lv_icmp_ge (tgt := 16) hx hb dM_isAnswer_9 (by decide) (fun c_9 => ?_) (fun c_9 => ?_)
    · refine lv_iconst (v := nI 0) hx hb dM_isAnswer_16 (by decide) ?_
      exact W.zret hx hb hr rfl (fun zT zh _ => ⟨_, rfl, (by rw [zKept_big (by omega) c_9]; rfl), zh⟩) t_nil dM_isAnswer_17
    · obtain ⟨j, hj, hk⟩ := zAt_ix (n := kept) (by omega) c_1 c_9
      refine lv_iconst (v := nI 1) hx hb dM_isAnswer_12 (by decide) ?_
      refine lv_goto (tgt := 17) hx hb dM_isAnswer_13 (by decide) ?_
      exact W.zret hx hb hr rfl (fun zT zh _ => ⟨_, rfl, (by rw [zKept_in (by omega) hj hk]; rfl), zh⟩) t_nil dM_isAnswer_17

set_option maxHeartbeats 4000000 in
set_option maxRecDepth 100000 in
theorem c_M_digit (l : Launch) (dC : Nat → ClassId) (dI : Nat → Nat → Nat) (cA cZ cJ : ClassId) (a : Nat → Nat) (f : Nat → Int32) (g : Nat → Nat → Int32) (h : Nat → Int64) (r : Int64) (hWD : MDist a) (ka c : Int32) (kept : Nat) (hkept : kept ≤ 1000) (h6 : f 6 = nI kept) (lc : Nat) (hlc : lc ≤ 8) (h5 : f 5 = nI lc) : Met l yM_digit wsM_digit ({ frames := 1, cells := 0, slots := 0, locals := 22 }) (va_Pc [.ref (a 17), .int ka, .int c] (zPW (dC, dI) vwCl [(cA, .int), (cZ, .boolean), (cJ, .long)] (WM cA cZ cJ a f g h r))) (va_Qi (fun (z : Int32) (s : zMt) => z = zDi (zKept kept ka) (zIx (g 6) c lc 0) (g 16 (8 * ka.toInt.toNat + (zIx (g 6) c lc 0).toInt.toNat)) ∧ s = (upd f 2 (nI 0), g, h, r)) (zBW (dC, dI) vwCl (fun u : zMt => WM cA cZ cJ a u.1 u.2.1 u.2.2.1 u.2.2.2)) (AM a)) 0 0 (AM a) := by
  refine Met.ofW (cc := prog_8_method_17_code) (maxL := 4) (ret := (some .int)) (by decide) rfl ?_
  intro zp ze s zm args below meth zc s₁ zBL hml hv
  obtain ⟨rfl, hP, hK, hN⟩ := hv
  have hx := zBL.exec
  have hb := zBL.bytes
  have hr := zBL.returns
  have hts := atoms_spec (ws := wsM_digit) zBL.pre
  have hz : ∀ w ∈ zBig, w.before _ s = true := fun w h => hts w (List.mem_cons_of_mem _ h)
  have hown : s.vm.findClass "LetterSumsModel" = some zm.cls := findClass_of_methodNamed zBL.named
  have hlocks := zBL.notSynchronized
  have hD : ∀ f g h r, va_D (AM a) (WM cA cZ cJ a f g h r) := fun f g h r => WM_D hWD f g h r
  have hS : va_S (AM a) s.heap s.heap [] := va_S.rf
  have hl := lv_entry ([.ref (a 17), .int ka, .int c]) (n := 4) (Nat.le_of_ble_eq_true rfl)
  rw [lg_entry_eq]
  generalize (lg_sl ([.ref (a 17), .int ka, .int c]) ++ List.replicate (4 - (lg_sl ([.ref (a 17), .int ka, .int c])).length) Slot.unset).toArray = ls at hl ⊢
  have hl : lv_has ls 4 [(0, .ref (a 17)), (1, .int ka), (2, .int c)] := hl
  refine lv_aload_n hx hb dM_digit_0 rfl (lv_at hl 0 rfl) ?_
  refine lv_iconst (v := nI 0) hx hb dM_digit_1 (by decide) ?_
  refine mpf_2 hx hb hz hi_M hown hK hP (hD _ _ _ _) hS (hz _ q_461) dM_digit_2 (fun H locs hP hS => ?_)
  refine lv_aload_n hx hb dM_digit_5 rfl (lv_at hl 0 rfl) ?_
  refine lv_iload_n hx hb dM_digit_6 rfl (lv_at hl 2 rfl) ?_
  refine zq_e (zrV (rest := []) ⟨hx, hb, hml, hown, hz⟩ (c_M_indexOf l dC dI cA cZ cJ a (upd f 2 (nI 0)) g h r c lc hlc h5) ⟨zcB 1 hz q_589 q_9 q_592 (by decide +kernel) rfl rfl ⟨Nat.le_of_ble_eq_true rfl, Nat.le_of_ble_eq_true rfl⟩, hz _ q_591, hz _ qs_25⟩ hK hN hP 17 6 rfl rfl rfl rfl hl.1 rfl (Nat.le_of_ble_eq_true rfl) dM_digit_7 ⟨Nat.zero_le _, Nat.zero_le _⟩) ?_
  refine lv_istore_n (lv' := [(3, .int (zIx (g 6) c lc 0)), (0, .ref (a 17)), (1, .int ka), (2, .int c)]) hx hb dM_digit_10 rfl hl (by decide) rfl (fun ls hl => ?_)
  refine lv_aload_n hx hb dM_digit_11 rfl (lv_at hl 1 rfl) ?_
  refine lv_iload_n hx hb dM_digit_12 rfl (lv_at hl 2 rfl) ?_
  refine zq_e (zrV (rest := []) ⟨hx, hb, hml, hown, hz⟩ (c_M_isAnswer l dC dI cA cZ cJ a (upd f 2 (nI 0)) g h r ka kept hkept h6) ⟨zcB 1 hz q_601 q_9 q_604 (by decide +kernel) rfl rfl ⟨Nat.le_of_ble_eq_true rfl, Nat.le_of_ble_eq_true rfl⟩, hz _ q_603, hz _ qs_26⟩ hK hN hP 17 6 rfl rfl rfl rfl hl.1 rfl (Nat.le_of_ble_eq_true rfl) dM_digit_13 ⟨Nat.zero_le _, Nat.zero_le _⟩) ?_
  refine lv_if_eq (tgt := 24) hx hb dM_digit_16 (by decide) (fun c_16 => ?_) (fun c_16 => ?_)
  · have c_16 : zKept kept ka = false := zB_eq0.mp c_16
    refine lv_iconst (v := (-1)) hx hb dM_digit_24 (by decide) ?_
    refine lv_goto (tgt := 39) hx hb dM_digit_25 (by decide) ?_
    exact W.iret hx hb hr (fun zT zh _ => ⟨⟨_, (upd f 2 (nI 0), g, h, r), rfl, ⟨(if_neg (by simp [c_16])).symm, rfl⟩, zbw zh hP⟩, hS.F zh⟩) hS.2.2 dM_digit_39
  · have c_16 : zKept kept ka = true := zB_n0 c_16
    obtain ⟨j, hj, hkj⟩ := zKept_ex c_16
    have hjt : ka.toInt.toNat = j := by rw [hkj, nI_tn (by omega)]
    rw [hkj] at hl
    refine lv_iload_n hx hb dM_digit_19 rfl (lv_at hl 0 rfl) ?_
    refine lv_iconst (v := (-1)) hx hb dM_digit_20 (by decide) ?_
    refine lv_icmp_ne (tgt := 28) hx hb dM_digit_21 (by decide) (fun c_21 => ?_) (fun c_21 => ?_)
    · obtain ⟨l, hl1, hl2, hl3⟩ := zIx_in _ _ c_21
      refine lv_aload_n hx hb dM_digit_28 rfl (lv_at hl 1 rfl) ?_
      refine mgr_answer hx hb hz hi_M hown hK hP (hz _ q_484) dM_digit_29 ?_
      refine lv_bipush (v := nI 8) hx hb dM_digit_32 (by decide) ?_
      refine lv_iload_n hx hb dM_digit_34 rfl (lv_at hl 2 rfl) ?_
      refine lv_imul hx hb dM_digit_35 ?_
      refine zt (y := nI (8 * j)) (pk_mul _ _) ?_
      refine lv_iload_n hx hb dM_digit_36 rfl (lv_at hl 0 rfl) ?_
      refine lv_iadd hx hb dM_digit_37 ?_
      refine zt (y := nI (8 * j + l)) (by rw [hl3, nI_add]) ?_
      refine zald (v := g 16 (8 * j + l)) hx hb hK hP 16 0 rfl rfl (8 * j + l) rfl (by omega) (by decide) rfl dM_digit_38 ?_
      exact W.iret hx hb hr (fun zT zh _ => ⟨⟨_, (upd f 2 (nI 0), g, h, r), rfl, ⟨by unfold zDi; rw [if_pos ⟨c_16, c_21⟩, hjt, hl3, nI_tn (by omega)], rfl⟩, zbw zh hP⟩, hS.F zh⟩) hS.2.2 dM_digit_39
    · refine lv_iconst (v := (-1)) hx hb dM_digit_24 (by decide) ?_
      refine lv_goto (tgt := 39) hx hb dM_digit_25 (by decide) ?_
      exact W.iret hx hb hr (fun zT zh _ => ⟨⟨_, (upd f 2 (nI 0), g, h, r), rfl, ⟨(if_neg (fun q => q.2 c_21)).symm, rfl⟩, zbw zh hP⟩, hS.F zh⟩) hS.2.2 dM_digit_39

set_option maxHeartbeats 4000000 in
set_option maxRecDepth 100000 in
theorem c_M_digitAt (l : Launch) (dC : Nat → ClassId) (dI : Nat → Nat → Nat) (cA cZ cJ : ClassId) (a : Nat → Nat) (f : Nat → Int32) (g : Nat → Nat → Int32) (h : Nat → Int64) (r : Int64) (k p : Nat) (hk : k < 1000) (hp : p < 80) (lc : Nat) (hlc : lc ≤ 8) (h5 : f 5 = nI lc) : Met l yM_digitAt wsM_digitAt ({ frames := 1, cells := 0, slots := 0, locals := 22 }) (va_Pc [.ref (a 17), .int (nI k), .int (nI p)] (zPW (dC, dI) vwCl [(cA, .int), (cZ, .boolean), (cJ, .long)] (WM cA cZ cJ a f g h r))) (vp_Si (fun r => r = (zMd (g 1) (g 6) (g 16) lc k p))) 0 0 (fun _ => False) := by
  refine Met.ofW (cc := prog_8_method_18_code) (maxL := 4) (ret := (some .int)) (by decide) rfl ?_
  intro zp ze s zm args below meth zc s₁ zBL hml hv
  obtain ⟨rfl, hP, hK, hN⟩ := hv
  have hx := zBL.exec
  have hb := zBL.bytes
  have hr := zBL.returns
  have hts := atoms_spec (ws := wsM_digitAt) zBL.pre
  have hz : ∀ w ∈ zBig, w.before _ s = true := fun w h => hts w (List.mem_cons_of_mem _ h)
  have hown : s.vm.findClass "LetterSumsModel" = some zm.cls := findClass_of_methodNamed zBL.named
  have hlocks := zBL.notSynchronized
  have hl := lv_entry ([.ref (a 17), .int (nI k), .int (nI p)]) (n := 4) (Nat.le_of_ble_eq_true rfl)
  rw [lg_entry_eq]
  generalize (lg_sl ([.ref (a 17), .int (nI k), .int (nI p)]) ++ List.replicate (4 - (lg_sl ([.ref (a 17), .int (nI k), .int (nI p)])).length) Slot.unset).toArray = ls at hl ⊢
  have hl : lv_has ls 4 [(0, .ref (a 17)), (1, .int (nI k)), (2, .int (nI p))] := hl
  refine lv_aload_n hx hb dM_digitAt_0 rfl (lv_at hl 0 rfl) ?_
  refine lv_aload_n hx hb dM_digitAt_1 rfl (lv_at hl 0 rfl) ?_
  refine mgr_text hx hb hz hi_M hown hK hP (hz _ q_462) dM_digitAt_2 ?_
  refine lv_iload_n hx hb dM_digitAt_5 rfl (lv_at hl 2 rfl) ?_
  refine zald (v := g 1 p) hx hb hK hP 1 0 rfl rfl p rfl (by omega) (by decide) rfl dM_digitAt_6 ?_
  refine zq_e (zrV (rest := []) ⟨hx, hb, hml, hown, hz⟩ (c_M_indexOf l dC dI cA cZ cJ a f g h r (g 1 p) lc hlc h5) ⟨zcB 1 hz q_589 q_9 q_592 (by decide +kernel) rfl rfl ⟨Nat.le_of_ble_eq_true rfl, Nat.le_of_ble_eq_true rfl⟩, hz _ q_591, hz _ qs_25⟩ hK hN hP 17 6 rfl rfl rfl rfl hl.1 rfl (Nat.le_of_ble_eq_true rfl) dM_digitAt_7 ⟨Nat.zero_le _, Nat.zero_le _⟩) ?_
  refine lv_istore_n (lv' := [(3, .int (zIx (g 6) (g 1 p) lc 0)), (0, .ref (a 17)), (1, .int (nI k)), (2, .int (nI p))]) hx hb dM_digitAt_10 rfl hl (by decide) rfl (fun ls hl => ?_)
  refine lv_iload_n hx hb dM_digitAt_11 rfl (lv_at hl 0 rfl) ?_
  refine lv_iconst (v := (-1)) hx hb dM_digitAt_12 (by decide) ?_
  refine lv_icmp_ne (tgt := 28) hx hb dM_digitAt_13 (by decide) (fun c_13 => ?_) (fun c_13 => ?_)
  · obtain ⟨l, hl1, hl2, hl3⟩ := zIx_in _ _ c_13
    refine lv_aload_n hx hb dM_digitAt_28 rfl (lv_at hl 1 rfl) ?_
    refine mgr_answer hx hb hz hi_M hown hK hP (hz _ q_484) dM_digitAt_29 ?_
    refine lv_bipush (v := nI 8) hx hb dM_digitAt_32 (by decide) ?_
    refine lv_iload_n hx hb dM_digitAt_34 rfl (lv_at hl 2 rfl) ?_
    refine lv_imul hx hb dM_digitAt_35 ?_
    refine zt (y := nI (8 * k)) (pk_mul _ _) ?_
    refine lv_iload_n hx hb dM_digitAt_36 rfl (lv_at hl 0 rfl) ?_
    refine lv_iadd hx hb dM_digitAt_37 ?_
    refine zt (y := nI (8 * k + l)) (by rw [hl3, nI_add]) ?_
    refine zald (v := g 16 (8 * k + l)) hx hb hK hP 16 0 rfl rfl (8 * k + l) rfl (by omega) (by decide) rfl dM_digitAt_38 ?_
    exact W.iret hx hb hr (fun zT zh _ => ⟨_, rfl, (by unfold zMd; rw [if_neg c_13, hl3, nI_tn (by omega)]), zh⟩) t_nil dM_digitAt_39
  · refine lv_aload_n hx hb dM_digitAt_16 rfl (lv_at hl 1 rfl) ?_
    refine mgr_text hx hb hz hi_M hown hK hP (hz _ q_462) dM_digitAt_17 ?_
    refine lv_iload_n hx hb dM_digitAt_20 rfl (lv_at hl 3 rfl) ?_
    refine zald (v := g 1 p) hx hb hK hP 1 0 rfl rfl p rfl (by omega) (by decide) rfl dM_digitAt_21 ?_
    refine lv_bipush (v := nI 48) hx hb dM_digitAt_22 (by decide) ?_
    refine lv_isub hx hb dM_digitAt_24 ?_
    refine lv_goto (tgt := 39) hx hb dM_digitAt_25 (by decide) ?_
    exact W.iret hx hb hr (fun zT zh _ => ⟨_, rfl, (by unfold zMd; rw [if_pos c_13]), zh⟩) t_nil dM_digitAt_39

set_option maxHeartbeats 4000000 in
set_option maxRecDepth 100000 in
theorem c_M_wordOf (l : Launch) (dC : Nat → ClassId) (dI : Nat → Nat → Nat) (cA cZ cJ : ClassId) (a : Nat → Nat) (f : Nat → Int32) (g : Nat → Nat → Int32) (h : Nat → Int64) (r : Int64) (k : Nat) (hk : k < 1000) (B : Nat) (h0 : f 0 = nI B) (w : Nat) (hw : w < 8) (q : Nat) (hq : q ≤ 9) (at1 ln1 : Nat) (hat : g 2 w = nI at1) (hln : g 3 w = nI ln1) (hl8 : ln1 ≤ 8) (hal : at1 + ln1 ≤ 80) (lc : Nat) (hlc : lc ≤ 8) (h5 : f 5 = nI lc) : Met l yM_wordOf wsM_wordOf ({ frames := 2, cells := 0, slots := 0, locals := 45 }) (va_Pc [.ref (a 17), .int (nI k), .int (nI w), .int (nI q)] (zPW (dC, dI) vwCl [(cA, .int), (cZ, .boolean), (cJ, .long)] (WM cA cZ cJ a f g h r))) (vp_Sl (fun r => r = (zHv (nI B).toInt64 (fun zp => zMd (g 1) (g 6) (g 16) lc k zp) (ln1 - (ln1 - q)) (at1 + (ln1 - q)) (lN 0)))) 0 0 (fun _ => False) := by
  refine Met.ofW (cc := prog_8_method_19_code) (maxL := 8) (ret := (some .long)) (by decide) rfl ?_
  intro zp ze s zm args below meth zc s₁ zBL hml hv
  obtain ⟨rfl, hP, hK, hN⟩ := hv
  have hx := zBL.exec
  have hb := zBL.bytes
  have hr := zBL.returns
  have hts := atoms_spec (ws := wsM_wordOf) zBL.pre
  have hz : ∀ w ∈ zBig, w.before _ s = true := fun w h => hts w (List.mem_cons_of_mem _ h)
  have hown : s.vm.findClass "LetterSumsModel" = some zm.cls := findClass_of_methodNamed zBL.named
  have hlocks := zBL.notSynchronized
  have hl := lv_entry ([.ref (a 17), .int (nI k), .int (nI w), .int (nI q)]) (n := 8) (Nat.le_of_ble_eq_true rfl)
  rw [lg_entry_eq]
  generalize (lg_sl ([.ref (a 17), .int (nI k), .int (nI w), .int (nI q)]) ++ List.replicate (8 - (lg_sl ([.ref (a 17), .int (nI k), .int (nI w), .int (nI q)])).length) Slot.unset).toArray = ls at hl ⊢
  have hl : lv_has ls 8 [(0, .ref (a 17)), (1, .int (nI k)), (2, .int (nI w)), (3, .int (nI q))] := hl
  have loop : ∀ (k0 : Nat) (i : Nat) (v : Int64) (ls : Array Slot), ln1 + 1 ≤ i + k0 → i ≤ ln1 → zHv (nI B).toInt64 (fun zp => zMd (g 1) (g 6) (g 16) lc k zp) (ln1 - i) (at1 + i) v = zHv (nI B).toInt64 (fun zp => zMd (g 1) (g 6) (g 16) lc k zp) (ln1 - (ln1 - q)) (at1 + (ln1 - q)) (lN 0) → lv_has ls 8 [(0, .ref (a 17)), (1, .int (nI k)), (2, .int (nI w)), (3, .int (nI q)), (4, .long v), (6, .int (nI (ln1 - q))), (7, .int (nI i))] → W zp l ze (headSpec wsM_wordOf ({ frames := 2, cells := 0, slots := 0, locals := 45 })).room s zm ([.ref (a 17), .int (nI k), .int (nI w), .int (nI q)] : List Value).toArray below meth zc s.heap [] 0 0 (MQ below (vp_Sl (fun r => r = (zHv (nI B).toInt64 (fun zp => zMd (g 1) (g 6) (g 16) lc k zp) (ln1 - (ln1 - q)) (at1 + (ln1 - q)) (lN 0)))) ([.ref (a 17), .int (nI k), .int (nI w), .int (nI q)] : List Value).toArray s 0 0 (fun _ => False)) (F0 zm 31 ls []) := by
    intro k0
    induction k0 with
    | zero => intro i v ls q1 q2; omega
    | succ k0 ih =>
      intro i v ls hk0 hi hR hl
      refine lv_iload hx hb dM_wordOf_31 (lv_at hl 6 rfl) ?_
      refine lv_aload_n hx hb dM_wordOf_33 rfl (lv_at hl 0 rfl) ?_
      refine mgr_wordLong hx hb hz hi_M hown hK hP (hz _ q_468) dM_wordOf_34 ?_
      refine lv_iload_n hx hb dM_wordOf_37 rfl (lv_at hl 2 rfl) ?_
      refine zald (v := nI ln1) hx hb hK hP 3 0 rfl rfl w rfl (by omega) (by decide) hln dM_wordOf_38 ?_
      refine lv_icmp_ge (tgt := 74) hx hb dM_wordOf_39 (by decide) (fun c_39 => ?_) (fun c_39 => ?_)
      · have c_39 := (nI_leI (a := ln1) (b := i) (by omega) (by omega)).mp c_39
        refine lv_lload hx hb dM_wordOf_74 (lv_at hl 4 rfl) ?_
        exact W.lret hx hb hr (fun zT zh _ => ⟨_, rfl, (by rw [← hR, show ln1 - i = 0 by omega]; rfl), zh⟩) t_nil dM_wordOf_76
      · have c_39 := mt (nI_leI (a := ln1) (b := i) (by omega) (by omega)).mpr c_39
        refine lv_lload hx hb dM_wordOf_42 (lv_at hl 4 rfl) ?_
        refine lv_aload_n hx hb dM_wordOf_44 rfl (lv_at hl 0 rfl) ?_
        refine mgf_0 (v := nI B) hx hb hz hi_M hown hK hP (hz _ q_458) h0 dM_wordOf_45 ?_
        refine lv_i2l (v := (nI B).toInt64) hx hb dM_wordOf_48 rfl ?_
        refine lv_lmul hx hb dM_wordOf_49 ?_
        refine lv_aload_n hx hb dM_wordOf_50 rfl (lv_at hl 0 rfl) ?_
        refine lv_iload_n hx hb dM_wordOf_51 rfl (lv_at hl 1 rfl) ?_
        refine lv_aload_n hx hb dM_wordOf_52 rfl (lv_at hl 0 rfl) ?_
        refine mgr_wordAt hx hb hz hi_M hown hK hP (hz _ q_467) dM_wordOf_53 ?_
        refine lv_iload_n hx hb dM_wordOf_56 rfl (lv_at hl 2 rfl) ?_
        refine zald (v := nI at1) hx hb hK hP 2 0 rfl rfl w rfl (by omega) (by decide) hat dM_wordOf_57 ?_
        refine lv_iload hx hb dM_wordOf_58 (lv_at hl 6 rfl) ?_
        refine lv_iadd hx hb dM_wordOf_60 ?_
        refine zt (nI_add _ _) ?_
        refine zq_e (zrV (rest := [.long (v * ((nI B).toInt64))]) ⟨hx, hb, hml, hown, hz⟩ (c_M_digitAt l dC dI cA cZ cJ a f g h r k (at1 + i) hk (by omega) lc hlc h5) ⟨zcB 2 hz q_613 q_9 q_616 (by decide +kernel) rfl rfl ⟨Nat.le_of_ble_eq_true rfl, Nat.le_of_ble_eq_true rfl⟩, hz _ q_615, hz _ qs_28⟩ hK hN hP 17 6 rfl rfl rfl rfl hl.1 rfl (Nat.le_of_ble_eq_true rfl) dM_wordOf_61 ⟨Nat.zero_le _, Nat.zero_le _⟩) ?_
        refine lv_i2l (v := (zMd (g 1) (g 6) (g 16) lc k (at1 + i)).toInt64) hx hb dM_wordOf_64 rfl ?_
        refine lv_ladd hx hb dM_wordOf_65 ?_
        refine lv_lstore (lv' := [(4, .long ((v * ((nI B).toInt64)) + ((zMd (g 1) (g 6) (g 16) lc k (at1 + i)).toInt64))), (0, .ref (a 17)), (1, .int (nI k)), (2, .int (nI w)), (3, .int (nI q)), (6, .int (nI (ln1 - q))), (7, .int (nI i))]) hx hb dM_wordOf_66 hl (by decide) rfl (fun ls hl => ?_)
        refine lv_iinc (v := nI (i + 1)) (lv' := [(7, .int (nI (i + 1))), (4, .long ((v * ((nI B).toInt64)) + ((zMd (g 1) (g 6) (g 16) lc k (at1 + i)).toInt64))), (0, .ref (a 17)), (1, .int (nI k)), (2, .int (nI w)), (3, .int (nI q)), (6, .int (nI (ln1 - q)))]) hx hb dM_wordOf_68 hl (k := 6) rfl (nI_1 _) (by decide) rfl (fun ls hl => ?_)
        refine lv_goto (tgt := 31) hx hb dM_wordOf_71 (by decide) ?_
        exact ih (i + 1) _ ls (by omega) (by omega) (by rw [← hR, show ln1 - i = (ln1 - (i + 1)) + 1 by omega]; rfl) (lv_sub hl [2, 3, 4, 5, 1, 6, 0] rfl)
  refine lv_lconst (v := lN 0) hx hb dM_wordOf_0 (by decide) ?_
  refine lv_lstore (lv' := [(4, .long (lN 0)), (0, .ref (a 17)), (1, .int (nI k)), (2, .int (nI w)), (3, .int (nI q))]) hx hb dM_wordOf_1 hl (by decide) rfl (fun ls hl => ?_)
  refine lv_aload_n hx hb dM_wordOf_3 rfl (lv_at hl 1 rfl) ?_
  refine mgr_wordLong hx hb hz hi_M hown hK hP (hz _ q_468) dM_wordOf_4 ?_
  refine lv_iload_n hx hb dM_wordOf_7 rfl (lv_at hl 3 rfl) ?_
  refine zald (v := nI ln1) hx hb hK hP 3 0 rfl rfl w rfl (by omega) (by decide) hln dM_wordOf_8 ?_
  refine lv_iload_n hx hb dM_wordOf_9 rfl (lv_at hl 4 rfl) ?_
  refine lv_icmp_le (tgt := 24) hx hb dM_wordOf_10 (by decide) (fun c_10 => ?_) (fun c_10 => ?_)
  · have c_10 := (nI_leI (a := ln1) (b := q) (by omega) (by omega)).mp c_10
    refine lv_iconst (v := nI 0) hx hb dM_wordOf_24 (by decide) ?_
    refine zt (y := nI (ln1 - q)) (by rw [show ln1 - q = 0 by omega]) ?_
    refine lv_istore (lv' := [(6, .int (nI (ln1 - q))), (4, .long (lN 0)), (0, .ref (a 17)), (1, .int (nI k)), (2, .int (nI w)), (3, .int (nI q))]) hx hb dM_wordOf_25 hl (by decide) rfl (fun ls hl => ?_)
    refine lv_iload hx hb dM_wordOf_27 (lv_at hl 0 rfl) ?_
    refine lv_istore (lv' := [(7, .int (nI (ln1 - q))), (6, .int (nI (ln1 - q))), (4, .long (lN 0)), (0, .ref (a 17)), (1, .int (nI k)), (2, .int (nI w)), (3, .int (nI q))]) hx hb dM_wordOf_29 hl (by decide) rfl (fun ls hl => ?_)
    exact loop (ln1 + 1) (ln1 - q) (lN 0) ls (by omega) (by omega) rfl (lv_sub hl [3, 4, 5, 6, 2, 1, 0] rfl)
  · have c_10 := mt (nI_leI (a := ln1) (b := q) (by omega) (by omega)).mpr c_10
    refine lv_aload_n hx hb dM_wordOf_13 rfl (lv_at hl 1 rfl) ?_
    refine mgr_wordLong hx hb hz hi_M hown hK hP (hz _ q_468) dM_wordOf_14 ?_
    refine lv_iload_n hx hb dM_wordOf_17 rfl (lv_at hl 3 rfl) ?_
    refine zald (v := nI ln1) hx hb hK hP 3 0 rfl rfl w rfl (by omega) (by decide) hln dM_wordOf_18 ?_
    refine lv_iload_n hx hb dM_wordOf_19 rfl (lv_at hl 4 rfl) ?_
    refine lv_isub hx hb dM_wordOf_20 ?_
    refine zt (y := nI (ln1 - q)) (pk_sub (by omega)) ?_
    refine lv_goto (tgt := 25) hx hb dM_wordOf_21 (by decide) ?_
    refine lv_istore (lv' := [(6, .int (nI (ln1 - q))), (4, .long (lN 0)), (0, .ref (a 17)), (1, .int (nI k)), (2, .int (nI w)), (3, .int (nI q))]) hx hb dM_wordOf_25 hl (by decide) rfl (fun ls hl => ?_)
    refine lv_iload hx hb dM_wordOf_27 (lv_at hl 0 rfl) ?_
    refine lv_istore (lv' := [(7, .int (nI (ln1 - q))), (6, .int (nI (ln1 - q))), (4, .long (lN 0)), (0, .ref (a 17)), (1, .int (nI k)), (2, .int (nI w)), (3, .int (nI q))]) hx hb dM_wordOf_29 hl (by decide) rfl (fun ls hl => ?_)
    exact loop (ln1 + 1) (ln1 - q) (lN 0) ls (by omega) (by omega) rfl (lv_sub hl [3, 4, 5, 6, 2, 1, 0] rfl)

set_option maxHeartbeats 4000000 in
set_option maxRecDepth 100000 in
theorem c_M_side (l : Launch) (dC : Nat → ClassId) (dI : Nat → Nat → Nat) (cA cZ cJ : ClassId) (a : Nat → Nat) (f : Nat → Int32) (g : Nat → Nat → Int32) (h : Nat → Int64) (r : Int64) (hWD : MDist a) (ka s0 : Int32) (kept : Nat) (hkept : kept ≤ 1000) (h6 : f 6 = nI kept) (lc : Nat) (hlc : lc ≤ 8) (h5 : f 5 = nI lc) (B : Nat) (h0 : f 0 = nI B) (nw : Nat) (hnw : nw ≤ 8) (h4 : f 4 = nI nw) (at0 ln : Nat → Nat) (mi sd : Nat → Bool) (hat : ∀ w, w < nw → g 2 w = nI (at0 w)) (hln : ∀ w, w < nw → g 3 w = nI (ln w)) (hle : ∀ w, w < nw → ln w ≤ 8 ∧ at0 w + ln w ≤ 80) (hmi : ∀ w, w < nw → g 4 w = zB (mi w)) (hsd : ∀ w, w < nw → g 5 w = zB (sd w)) : Met l yM_side wsM_side ({ frames := 3, cells := 0, slots := 0, locals := 72 }) (va_Pc [.ref (a 17), .int ka, .int s0] (zPW (dC, dI) vwCl [(cA, .int), (cZ, .boolean), (cJ, .long)] (WM cA cZ cJ a f g h r))) (va_Ql (fun (z : Int64) (s : zMt) => z = (if zKept kept ka = true ∧ 0 ≤ s0.toInt ∧ s0.toInt ≤ 1 then zSv sd mi (fun zw => zHv (nI B).toInt64 (fun zp => zMd (g 1) (g 6) (g 16) lc ka.toInt.toNat zp) (ln zw - (ln zw - 8)) (at0 zw + (ln zw - 8)) (lN 0)) (decide (s0 = nI 1)) nw 0 (lN 0) else -1) ∧ s = (upd f 2 (nI 0), g, h, r)) (zBW (dC, dI) vwCl (fun u : zMt => WM cA cZ cJ a u.1 u.2.1 u.2.2.1 u.2.2.2)) (AM a)) 0 0 (AM a) := by
  refine Met.ofW (cc := prog_8_method_20_code) (maxL := 6) (ret := (some .long)) (by decide) rfl ?_
  intro zp ze s zm args below meth zc s₁ zBL hml hv
  obtain ⟨rfl, hP, hK, hN⟩ := hv
  have hx := zBL.exec
  have hb := zBL.bytes
  have hr := zBL.returns
  have hts := atoms_spec (ws := wsM_side) zBL.pre
  have hz : ∀ w ∈ zBig, w.before _ s = true := fun w h => hts w (List.mem_cons_of_mem _ h)
  have hown : s.vm.findClass "LetterSumsModel" = some zm.cls := findClass_of_methodNamed zBL.named
  have hlocks := zBL.notSynchronized
  have hD : ∀ f g h r, va_D (AM a) (WM cA cZ cJ a f g h r) := fun f g h r => WM_D hWD f g h r
  have hS : va_S (AM a) s.heap s.heap [] := va_S.rf
  have hl := lv_entry ([.ref (a 17), .int ka, .int s0]) (n := 6) (Nat.le_of_ble_eq_true rfl)
  rw [lg_entry_eq]
  generalize (lg_sl ([.ref (a 17), .int ka, .int s0]) ++ List.replicate (6 - (lg_sl ([.ref (a 17), .int ka, .int s0])).length) Slot.unset).toArray = ls at hl ⊢
  have hl : lv_has ls 6 [(0, .ref (a 17)), (1, .int ka), (2, .int s0)] := hl
  have loop : ∀ (k0 : Nat) (j i : Nat) (b : Bool) (v : Int64) (H : Heap) (locs : List Loc) (ls : Array Slot), nw + 1 ≤ i + k0 → i ≤ nw → j < 1000 → zKept kept ka = true → 0 ≤ s0.toInt → s0.toInt ≤ 1 → ka.toInt.toNat = j → decide (s0 = nI 1) = b → zSv sd mi (fun zw => zHv (nI B).toInt64 (fun zp => zMd (g 1) (g 6) (g 16) lc j zp) (ln zw - (ln zw - 8)) (at0 zw + (ln zw - 8)) (lN 0)) b (nw - i) i v = zSv sd mi (fun zw => zHv (nI B).toInt64 (fun zp => zMd (g 1) (g 6) (g 16) lc j zp) (ln zw - (ln zw - 8)) (at0 zw + (ln zw - 8)) (lN 0)) b nw 0 (lN 0) → va_P (dC, dI) vwCl (WM cA cZ cJ a (upd f 2 (nI 0)) g h r) H → va_S (AM a) s.heap H locs → lv_has ls 6 [(0, .ref (a 17)), (1, .int (nI j)), (2, .int (zB b)), (3, .long v), (5, .int (nI i))] → W zp l ze (headSpec wsM_side ({ frames := 3, cells := 0, slots := 0, locals := 72 })).room s zm ([.ref (a 17), .int ka, .int s0] : List Value).toArray below meth zc H locs 0 0 (MQ below (va_Ql (fun (z : Int64) (s : zMt) => z = (if zKept kept ka = true ∧ 0 ≤ s0.toInt ∧ s0.toInt ≤ 1 then zSv sd mi (fun zw => zHv (nI B).toInt64 (fun zp => zMd (g 1) (g 6) (g 16) lc ka.toInt.toNat zp) (ln zw - (ln zw - 8)) (at0 zw + (ln zw - 8)) (lN 0)) (decide (s0 = nI 1)) nw 0 (lN 0) else -1) ∧ s = (upd f 2 (nI 0), g, h, r)) (zBW (dC, dI) vwCl (fun u : zMt => WM cA cZ cJ a u.1 u.2.1 u.2.2.1 u.2.2.2)) (AM a)) ([.ref (a 17), .int ka, .int s0] : List Value).toArray s 0 0 (AM a)) (F0 zm 31 ls []) := by
    intro k0
    induction k0 with
    | zero => intro j i b v H locs ls q1 q2; omega
    | succ k0 ih =>
      intro j i b v H locs ls hk0 hi hj1 e1 e2 e3 hjt hbt hR hP hS hl
      refine lv_iload hx hb dM_side_31 (lv_at hl 4 rfl) ?_
      refine lv_aload_n hx hb dM_side_33 rfl (lv_at hl 0 rfl) ?_
      refine mgf_4 (v := nI nw) hx hb hz hi_M hown hK hP (hz _ q_464) h4 dM_side_34 ?_
      refine lv_icmp_ge (tgt := 92) hx hb dM_side_37 (by decide) (fun c_37 => ?_) (fun c_37 => ?_)
      · have c_37 := (nI_leI (a := nw) (b := i) (by omega) (by omega)).mp c_37
        refine lv_lload_n hx hb dM_side_92 rfl (lv_at hl 3 rfl) ?_
        exact W.lret hx hb hr (fun zT zh _ => ⟨⟨_, (upd f 2 (nI 0), g, h, r), rfl, ⟨(by rw [if_pos ⟨e1, e2, e3⟩, hjt, hbt, ← hR, show nw - i = 0 by omega]; rfl), rfl⟩, zbw zh hP⟩, hS.F zh⟩) hS.2.2 dM_side_93
      · have c_37 := mt (nI_leI (a := nw) (b := i) (by omega) (by omega)).mpr c_37
        refine lv_aload_n hx hb dM_side_40 rfl (lv_at hl 0 rfl) ?_
        refine mgr_wordSide hx hb hz hi_M hown hK hP (hz _ q_470) dM_side_41 ?_
        refine lv_iload hx hb dM_side_44 (lv_at hl 4 rfl) ?_
        refine zald (v := zB (sd i)) hx hb hK hP 5 0 rfl rfl i rfl (by omega) (by decide) (hsd i (by omega)) dM_side_46 ?_
        refine lv_iload_n hx hb dM_side_47 rfl (lv_at hl 2 rfl) ?_
        refine lv_icmp_ne (tgt := 86) hx hb dM_side_48 (by decide) (fun c_48 => ?_) (fun c_48 => ?_)
        · have c_48 : ¬ sd i = b := fun q => c_48 (by rw [q])
          refine lv_iinc (v := nI (i + 1)) (lv' := [(5, .int (nI (i + 1))), (0, .ref (a 17)), (1, .int (nI j)), (2, .int (zB b)), (3, .long v)]) hx hb dM_side_86 hl (k := 4) rfl (nI_1 _) (by decide) rfl (fun ls hl => ?_)
          refine lv_goto (tgt := 31) hx hb dM_side_89 (by decide) ?_
          exact ih j (i + 1) b _ H locs ls (by omega) (by omega) hj1 e1 e2 e3 hjt hbt (by rw [← hR, show nw - i = (nw - (i + 1)) + 1 by omega]; simp only [zSv]; rw [if_neg c_48]) hP hS (lv_sub hl [1, 2, 3, 4, 0] rfl)
        · have c_48 : sd i = b := zB_inj c_48
          refine lv_lload_n hx hb dM_side_51 rfl (lv_at hl 3 rfl) ?_
          refine lv_aload_n hx hb dM_side_52 rfl (lv_at hl 0 rfl) ?_
          refine mgr_minus hx hb hz hi_M hown hK hP (hz _ q_469) dM_side_53 ?_
          refine lv_iload hx hb dM_side_56 (lv_at hl 4 rfl) ?_
          refine zbld (v := zB (mi i)) hx hb hK hP 4 1 rfl rfl i rfl (by omega) (by decide) (hmi i (by omega)) dM_side_58 ?_
          refine lv_if_eq (tgt := 75) hx hb dM_side_59 (by decide) (fun c_59 => ?_) (fun c_59 => ?_)
          · have c_59 : mi i = false := zB_eq0.mp c_59
            refine lv_aload_n hx hb dM_side_75 rfl (lv_at hl 0 rfl) ?_
            refine lv_iload_n hx hb dM_side_76 rfl (lv_at hl 1 rfl) ?_
            refine lv_iload hx hb dM_side_77 (lv_at hl 4 rfl) ?_
            refine lv_bipush (v := nI 8) hx hb dM_side_79 (by decide) ?_
            refine zq_le (zrV (rest := [.long v]) ⟨hx, hb, hml, hown, hz⟩ (c_M_wordOf l dC dI cA cZ cJ a (upd f 2 (nI 0)) g h r j (by omega) B h0 i (by omega) 8 (by omega) (at0 i) (ln i) (hat i (by omega)) (hln i (by omega)) (hle i (by omega)).1 (hle i (by omega)).2 lc hlc h5) ⟨zcB 3 hz q_609 q_9 q_612 (by decide +kernel) rfl rfl ⟨Nat.le_of_ble_eq_true rfl, Nat.le_of_ble_eq_true rfl⟩, hz _ q_611, hz _ qs_27⟩ hK hN hP 17 6 rfl rfl rfl rfl hl.1 rfl (Nat.le_of_ble_eq_true rfl) dM_side_81 ⟨Nat.zero_le _, Nat.zero_le _⟩) ?_
            refine lv_ladd hx hb dM_side_84 ?_
            refine lv_lstore_n (lv' := [(3, .long (v + (zHv (nI B).toInt64 (fun zp => zMd (g 1) (g 6) (g 16) lc j zp) (ln i - (ln i - 8)) (at0 i + (ln i - 8)) (lN 0)))), (0, .ref (a 17)), (1, .int (nI j)), (2, .int (zB b)), (5, .int (nI i))]) hx hb dM_side_85 rfl hl (by decide) rfl (fun ls hl => ?_)
            refine lv_iinc (v := nI (i + 1)) (lv' := [(5, .int (nI (i + 1))), (3, .long (v + (zHv (nI B).toInt64 (fun zp => zMd (g 1) (g 6) (g 16) lc j zp) (ln i - (ln i - 8)) (at0 i + (ln i - 8)) (lN 0)))), (0, .ref (a 17)), (1, .int (nI j)), (2, .int (zB b))]) hx hb dM_side_86 hl (k := 4) rfl (nI_1 _) (by decide) rfl (fun ls hl => ?_)
            refine lv_goto (tgt := 31) hx hb dM_side_89 (by decide) ?_
            exact ih j (i + 1) b _ H locs ls (by omega) (by omega) hj1 e1 e2 e3 hjt hbt (by rw [← hR, show nw - i = (nw - (i + 1)) + 1 by omega]; simp only [zSv]; rw [if_pos c_48, if_neg (by rw [c_59]; decide)]) hP hS (lv_sub hl [2, 3, 4, 1, 0] rfl)
          · have c_59 : mi i = true := zB_n0 c_59
            refine lv_aload_n hx hb dM_side_62 rfl (lv_at hl 0 rfl) ?_
            refine lv_iload_n hx hb dM_side_63 rfl (lv_at hl 1 rfl) ?_
            refine lv_iload hx hb dM_side_64 (lv_at hl 4 rfl) ?_
            refine lv_bipush (v := nI 8) hx hb dM_side_66 (by decide) ?_
            refine zq_le (zrV (rest := [.long v]) ⟨hx, hb, hml, hown, hz⟩ (c_M_wordOf l dC dI cA cZ cJ a (upd f 2 (nI 0)) g h r j (by omega) B h0 i (by omega) 8 (by omega) (at0 i) (ln i) (hat i (by omega)) (hln i (by omega)) (hle i (by omega)).1 (hle i (by omega)).2 lc hlc h5) ⟨zcB 3 hz q_609 q_9 q_612 (by decide +kernel) rfl rfl ⟨Nat.le_of_ble_eq_true rfl, Nat.le_of_ble_eq_true rfl⟩, hz _ q_611, hz _ qs_27⟩ hK hN hP 17 6 rfl rfl rfl rfl hl.1 rfl (Nat.le_of_ble_eq_true rfl) dM_side_68 ⟨Nat.zero_le _, Nat.zero_le _⟩) ?_
            refine lv_lneg hx hb dM_side_71 ?_
            refine lv_goto (tgt := 84) hx hb dM_side_72 (by decide) ?_
            refine lv_ladd hx hb dM_side_84 ?_
            refine lv_lstore_n (lv' := [(3, .long (v + (-(zHv (nI B).toInt64 (fun zp => zMd (g 1) (g 6) (g 16) lc j zp) (ln i - (ln i - 8)) (at0 i + (ln i - 8)) (lN 0))))), (0, .ref (a 17)), (1, .int (nI j)), (2, .int (zB b)), (5, .int (nI i))]) hx hb dM_side_85 rfl hl (by decide) rfl (fun ls hl => ?_)
            refine lv_iinc (v := nI (i + 1)) (lv' := [(5, .int (nI (i + 1))), (3, .long (v + (-(zHv (nI B).toInt64 (fun zp => zMd (g 1) (g 6) (g 16) lc j zp) (ln i - (ln i - 8)) (at0 i + (ln i - 8)) (lN 0))))), (0, .ref (a 17)), (1, .int (nI j)), (2, .int (zB b))]) hx hb dM_side_86 hl (k := 4) rfl (nI_1 _) (by decide) rfl (fun ls hl => ?_)
            refine lv_goto (tgt := 31) hx hb dM_side_89 (by decide) ?_
            exact ih j (i + 1) b _ H locs ls (by omega) (by omega) hj1 e1 e2 e3 hjt hbt (by rw [← hR, show nw - i = (nw - (i + 1)) + 1 by omega]; simp only [zSv]; rw [if_pos c_48, if_pos c_59]) hP hS (lv_sub hl [2, 3, 4, 1, 0] rfl)
  refine lv_aload_n hx hb dM_side_0 rfl (lv_at hl 0 rfl) ?_
  refine lv_iconst (v := nI 0) hx hb dM_side_1 (by decide) ?_
  refine mpf_2 hx hb hz hi_M hown hK hP (hD _ _ _ _) hS (hz _ q_461) dM_side_2 (fun H locs hP hS => ?_)
  refine lv_aload_n hx hb dM_side_5 rfl (lv_at hl 0 rfl) ?_
  refine lv_iload_n hx hb dM_side_6 rfl (lv_at hl 1 rfl) ?_
  refine zq_e (zrV (rest := []) ⟨hx, hb, hml, hown, hz⟩ (c_M_isAnswer l dC dI cA cZ cJ a (upd f 2 (nI 0)) g h r ka kept hkept h6) ⟨zcB 1 hz q_601 q_9 q_604 (by decide +kernel) rfl rfl ⟨Nat.le_of_ble_eq_true rfl, Nat.le_of_ble_eq_true rfl⟩, hz _ q_603, hz _ qs_26⟩ hK hN hP 17 6 rfl rfl rfl rfl hl.1 rfl (Nat.le_of_ble_eq_true rfl) dM_side_7 ⟨Nat.zero_le _, Nat.zero_le _⟩) ?_
  refine lv_if_eq (tgt := 22) hx hb dM_side_10 (by decide) (fun c_10 => ?_) (fun c_10 => ?_)
  · have c_10 : zKept kept ka = false := zB_eq0.mp c_10
    refine lv_ldc2 hx hb hown (hz _ q_588) dM_side_22 ?_
    exact W.lret hx hb hr (fun zT zh _ => ⟨⟨_, (upd f 2 (nI 0), g, h, r), rfl, ⟨(if_neg (by simp [c_10])).symm, rfl⟩, zbw zh hP⟩, hS.F zh⟩) hS.2.2 dM_side_25
  · have c_10 : zKept kept ka = true := zB_n0 c_10
    obtain ⟨j, hj, hkj⟩ := zKept_ex c_10
    have hjt : ka.toInt.toNat = j := by rw [hkj, nI_tn (by omega)]
    rw [hkj] at hl
    refine lv_iload_n hx hb dM_side_13 rfl (lv_at hl 2 rfl) ?_
    refine lv_if_lt (tgt := 22) hx hb dM_side_14 (by decide) (fun c_14 => ?_) (fun c_14 => ?_)
    · refine lv_ldc2 hx hb hown (hz _ q_588) dM_side_22 ?_
      exact W.lret hx hb hr (fun zT zh _ => ⟨⟨_, (upd f 2 (nI 0), g, h, r), rfl, ⟨(if_neg (fun q => zSd3 c_14 q.2.1)).symm, rfl⟩, zbw zh hP⟩, hS.F zh⟩) hS.2.2 dM_side_25
    · refine lv_iload_n hx hb dM_side_17 rfl (lv_at hl 2 rfl) ?_
      refine lv_iconst (v := nI 1) hx hb dM_side_18 (by decide) ?_
      refine lv_icmp_le (tgt := 26) hx hb dM_side_19 (by decide) (fun c_19 => ?_) (fun c_19 => ?_)
      · obtain ⟨b, hb0⟩ := zS01 c_14 c_19
        rw [hb0] at hl
        refine lv_lconst (v := lN 0) hx hb dM_side_26 (by decide) ?_
        refine lv_lstore_n (lv' := [(3, .long (lN 0)), (0, .ref (a 17)), (1, .int (nI j)), (2, .int (zB b))]) hx hb dM_side_27 rfl hl (by decide) rfl (fun ls hl => ?_)
        refine lv_iconst (v := nI 0) hx hb dM_side_28 (by decide) ?_
        refine lv_istore (lv' := [(5, .int (nI 0)), (3, .long (lN 0)), (0, .ref (a 17)), (1, .int (nI j)), (2, .int (zB b))]) hx hb dM_side_29 hl (by decide) rfl (fun ls hl => ?_)
        exact loop (nw + 1) j 0 b (lN 0) _ _ ls (by omega) (by omega) (by omega) c_10 (zSd1 c_14) (zSd2 c_19) hjt (by rw [hb0, zS01d]) rfl hP hS (lv_sub hl [2, 3, 4, 1, 0] rfl)
      · refine lv_ldc2 hx hb hown (hz _ q_588) dM_side_22 ?_
        exact W.lret hx hb hr (fun zT zh _ => ⟨⟨_, (upd f 2 (nI 0), g, h, r), rfl, ⟨(if_neg (fun q => zSd4 c_19 q.2.2)).symm, rfl⟩, zbw zh hP⟩, hS.F zh⟩) hS.2.2 dM_side_25

set_option maxHeartbeats 4000000 in
set_option maxRecDepth 100000 in
theorem c_M_hasCarries (l : Launch) (dC : Nat → ClassId) (dI : Nat → Nat → Nat) (cA cZ cJ : ClassId) (a : Nat → Nat) (f : Nat → Int32) (g : Nat → Nat → Int32) (h : Nat → Int64) (r : Int64) (B : Nat) (h0 : f 0 = nI B) (nw : Nat) (hnw : nw ≤ 8) (h4 : f 4 = nI nw) (at0 ln : Nat → Nat) (mi sd : Nat → Bool) (hat : ∀ w, w < nw → g 2 w = nI (at0 w)) (hln : ∀ w, w < nw → g 3 w = nI (ln w)) (hle : ∀ w, w < nw → ln w ≤ 8 ∧ at0 w + ln w ≤ 80) (hmi : ∀ w, w < nw → g 4 w = zB (mi w)) (hsd : ∀ w, w < nw → g 5 w = zB (sd w)) : Met l yM_hasCarries wsM_hasCarries ({ frames := 0, cells := 0, slots := 0, locals := 0 }) (va_Pc [.ref (a 17)] (zPW (dC, dI) vwCl [(cA, .int), (cZ, .boolean), (cJ, .long)] (WM cA cZ cJ a f g h r))) (vp_Si (fun r => r = (zB (zHc mi sd nw 0 0)))) 0 0 (fun _ => False) := by
  refine Met.ofW (cc := prog_8_method_21_code) (maxL := 3) (ret := (some .boolean)) (by decide) rfl ?_
  intro zp ze s zm args below meth zc s₁ zBL hml hv
  obtain ⟨rfl, hP, hK, hN⟩ := hv
  have hx := zBL.exec
  have hb := zBL.bytes
  have hr := zBL.returns
  have hts := atoms_spec (ws := wsM_hasCarries) zBL.pre
  have hz : ∀ w ∈ zBig, w.before _ s = true := fun w h => hts w (List.mem_cons_of_mem _ h)
  have hown : s.vm.findClass "LetterSumsModel" = some zm.cls := findClass_of_methodNamed zBL.named
  have hlocks := zBL.notSynchronized
  have hl := lv_entry ([.ref (a 17)]) (n := 3) (Nat.le_of_ble_eq_true rfl)
  rw [lg_entry_eq]
  generalize (lg_sl ([.ref (a 17)]) ++ List.replicate (3 - (lg_sl ([.ref (a 17)])).length) Slot.unset).toArray = ls at hl ⊢
  have hl : lv_has ls 3 [(0, .ref (a 17))] := hl
  have loop : ∀ (k0 : Nat) (i c : Nat) (ls : Array Slot), nw + 1 ≤ i + k0 → i ≤ nw → c ≤ i → zHc mi sd (nw - i) i c = zHc mi sd nw 0 0 → lv_has ls 3 [(0, .ref (a 17)), (1, .int (nI c)), (2, .int (nI i))] → W zp l ze (headSpec wsM_hasCarries ({ frames := 0, cells := 0, slots := 0, locals := 0 })).room s zm ([.ref (a 17)] : List Value).toArray below meth zc s.heap [] 0 0 (MQ below (vp_Si (fun r => r = (zB (zHc mi sd nw 0 0)))) ([.ref (a 17)] : List Value).toArray s 0 0 (fun _ => False)) (F0 zm 4 ls []) := by
    intro k0
    induction k0 with
    | zero => intro i c ls q1 q2; omega
    | succ k0 ih =>
      intro i c ls hk0 hi hc hR hl
      refine lv_iload_n hx hb dM_hasCarries_4 rfl (lv_at hl 2 rfl) ?_
      refine lv_aload_n hx hb dM_hasCarries_5 rfl (lv_at hl 0 rfl) ?_
      refine mgf_4 (v := nI nw) hx hb hz hi_M hown hK hP (hz _ q_464) h4 dM_hasCarries_6 ?_
      refine lv_icmp_ge (tgt := 38) hx hb dM_hasCarries_9 (by decide) (fun c_9 => ?_) (fun c_9 => ?_)
      · have c_9 := (nI_leI (a := nw) (b := i) (by omega) (by omega)).mp c_9
        refine lv_iload_n hx hb dM_hasCarries_38 rfl (lv_at hl 1 rfl) ?_
        refine lv_iconst (v := nI 1) hx hb dM_hasCarries_39 (by decide) ?_
        refine lv_icmp_ne (tgt := 47) hx hb dM_hasCarries_40 (by decide) (fun c_40 => ?_) (fun c_40 => ?_)
        · have c_40 := mt (nI_eq (a := c) (b := 1) (by omega) (by omega)).mpr c_40
          refine lv_iconst (v := nI 0) hx hb dM_hasCarries_47 (by decide) ?_
          exact W.zret hx hb hr rfl (fun zT zh _ => ⟨_, rfl, (by rw [← hR, show nw - i = 0 by omega]; simp only [zHc]; rw [decide_eq_false (by omega)]; rfl), zh⟩) t_nil dM_hasCarries_48
        · have c_40 := (nI_eq (a := c) (b := 1) (by omega) (by omega)).mp c_40
          refine lv_iconst (v := nI 1) hx hb dM_hasCarries_43 (by decide) ?_
          refine lv_goto (tgt := 48) hx hb dM_hasCarries_44 (by decide) ?_
          exact W.zret hx hb hr rfl (fun zT zh _ => ⟨_, rfl, (by rw [← hR, show nw - i = 0 by omega]; simp only [zHc]; rw [decide_eq_true (by omega)]; rfl), zh⟩) t_nil dM_hasCarries_48
      · have c_9 := mt (nI_leI (a := nw) (b := i) (by omega) (by omega)).mpr c_9
        refine lv_aload_n hx hb dM_hasCarries_12 rfl (lv_at hl 0 rfl) ?_
        refine mgr_minus hx hb hz hi_M hown hK hP (hz _ q_469) dM_hasCarries_13 ?_
        refine lv_iload_n hx hb dM_hasCarries_16 rfl (lv_at hl 2 rfl) ?_
        refine zbld (v := zB (mi i)) hx hb hK hP 4 1 rfl rfl i rfl (by omega) (by decide) (hmi i (by omega)) dM_hasCarries_17 ?_
        refine lv_if_eq (tgt := 23) hx hb dM_hasCarries_18 (by decide) (fun c_18 => ?_) (fun c_18 => ?_)
        · have c_18 : mi i = false := zB_eq0.mp c_18
          refine lv_iload_n hx hb dM_hasCarries_23 rfl (lv_at hl 1 rfl) ?_
          refine lv_aload_n hx hb dM_hasCarries_24 rfl (lv_at hl 0 rfl) ?_
          refine mgr_wordSide hx hb hz hi_M hown hK hP (hz _ q_470) dM_hasCarries_25 ?_
          refine lv_iload_n hx hb dM_hasCarries_28 rfl (lv_at hl 2 rfl) ?_
          refine zald (v := zB (sd i)) hx hb hK hP 5 0 rfl rfl i rfl (by omega) (by decide) (hsd i (by omega)) dM_hasCarries_29 ?_
          refine lv_iadd hx hb dM_hasCarries_30 ?_
          refine zt (y := nI (if sd i then c + 1 else c)) zAddBo ?_
          refine lv_istore_n (lv' := [(1, .int (nI (if sd i then c + 1 else c))), (0, .ref (a 17)), (2, .int (nI i))]) hx hb dM_hasCarries_31 rfl hl (by decide) rfl (fun ls hl => ?_)
          refine lv_iinc (v := nI (i + 1)) (lv' := [(2, .int (nI (i + 1))), (1, .int (nI (if sd i then c + 1 else c))), (0, .ref (a 17))]) hx hb dM_hasCarries_32 hl (k := 2) rfl (nI_1 _) (by decide) rfl (fun ls hl => ?_)
          refine lv_goto (tgt := 4) hx hb dM_hasCarries_35 (by decide) ?_
          exact ih (i + 1) (if sd i then c + 1 else c) ls (by omega) (by omega) (by split <;> omega) (by rw [← hR, show nw - i = (nw - (i + 1)) + 1 by omega]; simp only [zHc]; rw [c_18]; rfl) (lv_sub hl [2, 1, 0] rfl)
        · have c_18 : mi i = true := zB_n0 c_18
          refine lv_iconst (v := nI 0) hx hb dM_hasCarries_21 (by decide) ?_
          exact W.zret hx hb hr rfl (fun zT zh _ => ⟨_, rfl, (by rw [← hR, show nw - i = (nw - (i + 1)) + 1 by omega]; simp only [zHc]; rw [if_pos c_18]; rfl), zh⟩) t_nil dM_hasCarries_22
  refine lv_iconst (v := nI 0) hx hb dM_hasCarries_0 (by decide) ?_
  refine lv_istore_n (lv' := [(1, .int (nI 0)), (0, .ref (a 17))]) hx hb dM_hasCarries_1 rfl hl (by decide) rfl (fun ls hl => ?_)
  refine lv_iconst (v := nI 0) hx hb dM_hasCarries_2 (by decide) ?_
  refine lv_istore_n (lv' := [(2, .int (nI 0)), (1, .int (nI 0)), (0, .ref (a 17))]) hx hb dM_hasCarries_3 rfl hl (by decide) rfl (fun ls hl => ?_)
  exact loop (nw + 1) 0 0 ls (by omega) (by omega) (by omega) rfl (lv_sub hl [2, 1, 0] rfl)

set_option maxHeartbeats 4000000 in
set_option maxRecDepth 100000 in
theorem c_M_carry (l : Launch) (dC : Nat → ClassId) (dI : Nat → Nat → Nat) (cA cZ cJ : ClassId) (a : Nat → Nat) (f : Nat → Int32) (g : Nat → Nat → Int32) (h : Nat → Int64) (r : Int64) (hWD : MDist a) (ka c : Int32) (kept : Nat) (hkept : kept ≤ 1000) (h6 : f 6 = nI kept) (lc : Nat) (hlc : lc ≤ 8) (h5 : f 5 = nI lc) (B : Nat) (h0 : f 0 = nI B) (nw : Nat) (hnw : nw ≤ 8) (h4 : f 4 = nI nw) (at0 ln : Nat → Nat) (mi sd : Nat → Bool) (hat : ∀ w, w < nw → g 2 w = nI (at0 w)) (hln : ∀ w, w < nw → g 3 w = nI (ln w)) (hle : ∀ w, w < nw → ln w ≤ 8 ∧ at0 w + ln w ≤ 80) (hmi : ∀ w, w < nw → g 4 w = zB (mi w)) (hsd : ∀ w, w < nw → g 5 w = zB (sd w)) (hB1 : 1 ≤ B) (hB2 : B ≤ 10) : Met l yM_carry wsM_carry ({ frames := 3, cells := 0, slots := 0, locals := 72 }) (va_Pc [.ref (a 17), .int ka, .int c] (zPW (dC, dI) vwCl [(cA, .int), (cZ, .boolean), (cJ, .long)] (WM cA cZ cJ a f g h r))) (va_Qi (fun (z : Int32) (s : zMt) => z = (if zKept kept ka = true ∧ 0 ≤ c.toInt ∧ c.toInt ≤ 8 ∧ zHc mi sd nw 0 0 = true then (zDv (nI B).toInt64 (c.toInt.toNat + 1) (zCv sd (fun zw => zHv (nI B).toInt64 (fun zp => zMd (g 1) (g 6) (g 16) lc ka.toInt.toNat zp) (ln zw - (ln zw - (c.toInt.toNat + 1))) (at0 zw + (ln zw - (c.toInt.toNat + 1))) (lN 0)) nw 0 (lN 0))).toInt32 else -1) ∧ s = (upd f 2 (nI 0), g, h, r)) (zBW (dC, dI) vwCl (fun u : zMt => WM cA cZ cJ a u.1 u.2.1 u.2.2.1 u.2.2.2)) (AM a)) 0 0 (AM a) := by
  refine Met.ofW (cc := prog_8_method_22_code) (maxL := 6) (ret := (some .int)) (by decide) rfl ?_
  intro zp ze s zm args below meth zc s₁ zBL hml hv
  obtain ⟨rfl, hP, hK, hN⟩ := hv
  have hx := zBL.exec
  have hb := zBL.bytes
  have hr := zBL.returns
  have hts := atoms_spec (ws := wsM_carry) zBL.pre
  have hz : ∀ w ∈ zBig, w.before _ s = true := fun w h => hts w (List.mem_cons_of_mem _ h)
  have hown : s.vm.findClass "LetterSumsModel" = some zm.cls := findClass_of_methodNamed zBL.named
  have hlocks := zBL.notSynchronized
  have hD : ∀ f g h r, va_D (AM a) (WM cA cZ cJ a f g h r) := fun f g h r => WM_D hWD f g h r
  have hS : va_S (AM a) s.heap s.heap [] := va_S.rf
  have hl := lv_entry ([.ref (a 17), .int ka, .int c]) (n := 6) (Nat.le_of_ble_eq_true rfl)
  rw [lg_entry_eq]
  generalize (lg_sl ([.ref (a 17), .int ka, .int c]) ++ List.replicate (6 - (lg_sl ([.ref (a 17), .int ka, .int c])).length) Slot.unset).toArray = ls at hl ⊢
  have hl : lv_has ls 6 [(0, .ref (a 17)), (1, .int ka), (2, .int c)] := hl
  have loop2 : ∀ (k0 : Nat) (j cl i : Nat) (v : Int64) (H : Heap) (locs : List Loc) (ls : Array Slot), cl + 2 ≤ i + k0 → i ≤ cl + 1 → j < 1000 → cl ≤ 8 → zKept kept ka = true → 0 ≤ c.toInt → c.toInt ≤ 8 → zHc mi sd nw 0 0 = true → ka.toInt.toNat = j → c.toInt.toNat = cl → zDv (nI B).toInt64 (cl + 1 - i) v = zDv (nI B).toInt64 (cl + 1) (zCv sd (fun zw => zHv (nI B).toInt64 (fun zp => zMd (g 1) (g 6) (g 16) lc j zp) (ln zw - (ln zw - (cl + 1))) (at0 zw + (ln zw - (cl + 1))) (lN 0)) nw 0 (lN 0)) → va_P (dC, dI) vwCl (WM cA cZ cJ a (upd f 2 (nI 0)) g h r) H → va_S (AM a) s.heap H locs → lv_has ls 6 [(0, .ref (a 17)), (1, .int (nI j)), (2, .int (nI cl)), (3, .long v), (5, .int (nI i))] → W zp l ze (headSpec wsM_carry ({ frames := 3, cells := 0, slots := 0, locals := 72 })).room s zm ([.ref (a 17), .int ka, .int c] : List Value).toArray below meth zc H locs 0 0 (MQ below (va_Qi (fun (z : Int32) (s : zMt) => z = (if zKept kept ka = true ∧ 0 ≤ c.toInt ∧ c.toInt ≤ 8 ∧ zHc mi sd nw 0 0 = true then (zDv (nI B).toInt64 (c.toInt.toNat + 1) (zCv sd (fun zw => zHv (nI B).toInt64 (fun zp => zMd (g 1) (g 6) (g 16) lc ka.toInt.toNat zp) (ln zw - (ln zw - (c.toInt.toNat + 1))) (at0 zw + (ln zw - (c.toInt.toNat + 1))) (lN 0)) nw 0 (lN 0))).toInt32 else -1) ∧ s = (upd f 2 (nI 0), g, h, r)) (zBW (dC, dI) vwCl (fun u : zMt => WM cA cZ cJ a u.1 u.2.1 u.2.2.1 u.2.2.2)) (AM a)) ([.ref (a 17), .int ka, .int c] : List Value).toArray s 0 0 (AM a)) (F0 zm 78 ls []) := by
    intro k0
    induction k0 with
    | zero => intro j cl i v H locs ls q1 q2; omega
    | succ k0 ih =>
      intro j cl i v H locs ls hk0 hi hj1 hcl e1 e2 e3 e4 hjt hct hR hP hS hl
      refine lv_iload hx hb dM_carry_78 (lv_at hl 4 rfl) ?_
      refine lv_iload_n hx hb dM_carry_80 rfl (lv_at hl 2 rfl) ?_
      refine lv_icmp_gt (tgt := 98) hx hb dM_carry_81 (by decide) (fun c_81 => ?_) (fun c_81 => ?_)
      · have c_81 := (nI_ltI (a := cl) (b := i) (by omega) (by omega)).mp c_81
        refine lv_lload_n hx hb dM_carry_98 rfl (lv_at hl 3 rfl) ?_
        refine lv_l2i (v := v.toInt32) hx hb dM_carry_99 rfl ?_
        exact W.iret hx hb hr (fun zT zh _ => ⟨⟨_, (upd f 2 (nI 0), g, h, r), rfl, ⟨by rw [if_pos ⟨e1, e2, e3, e4⟩, hjt, hct, ← hR, show cl + 1 - i = 0 by omega]; rfl, rfl⟩, zbw zh hP⟩, hS.F zh⟩) hS.2.2 dM_carry_100
      · have c_81 := mt (nI_ltI (a := cl) (b := i) (by omega) (by omega)).mpr c_81
        refine lv_lload_n hx hb dM_carry_84 rfl (lv_at hl 3 rfl) ?_
        refine lv_aload_n hx hb dM_carry_85 rfl (lv_at hl 0 rfl) ?_
        refine mgf_0 (v := nI B) hx hb hz hi_M hown hK hP (hz _ q_458) h0 dM_carry_86 ?_
        refine lv_i2l (v := (nI B).toInt64) hx hb dM_carry_89 rfl ?_
        refine lv_ldiv hx hb dM_carry_90 (zBaseNe hB1 hB2) ?_
        refine lv_lstore_n (lv' := [(3, .long (v / ((nI B).toInt64))), (0, .ref (a 17)), (1, .int (nI j)), (2, .int (nI cl)), (5, .int (nI i))]) hx hb dM_carry_91 rfl hl (by decide) rfl (fun ls hl => ?_)
        refine lv_iinc (v := nI (i + 1)) (lv' := [(5, .int (nI (i + 1))), (3, .long (v / ((nI B).toInt64))), (0, .ref (a 17)), (1, .int (nI j)), (2, .int (nI cl))]) hx hb dM_carry_92 hl (k := 4) rfl (nI_1 _) (by decide) rfl (fun ls hl => ?_)
        refine lv_goto (tgt := 78) hx hb dM_carry_95 (by decide) ?_
        exact ih j cl (i + 1) _ H locs ls (by omega) (by omega) hj1 hcl e1 e2 e3 e4 hjt hct (by rw [← hR, show cl + 1 - i = (cl + 1 - (i + 1)) + 1 by omega]; rfl) hP hS (lv_sub hl [2, 3, 4, 1, 0] rfl)
  have loop1 : ∀ (k0 : Nat) (j cl i : Nat) (v : Int64) (H : Heap) (locs : List Loc) (ls : Array Slot), nw + 1 ≤ i + k0 → i ≤ nw → j < 1000 → cl ≤ 8 → zKept kept ka = true → 0 ≤ c.toInt → c.toInt ≤ 8 → zHc mi sd nw 0 0 = true → ka.toInt.toNat = j → c.toInt.toNat = cl → zCv sd (fun zw => zHv (nI B).toInt64 (fun zp => zMd (g 1) (g 6) (g 16) lc j zp) (ln zw - (ln zw - (cl + 1))) (at0 zw + (ln zw - (cl + 1))) (lN 0)) (nw - i) i v = zCv sd (fun zw => zHv (nI B).toInt64 (fun zp => zMd (g 1) (g 6) (g 16) lc j zp) (ln zw - (ln zw - (cl + 1))) (at0 zw + (ln zw - (cl + 1))) (lN 0)) nw 0 (lN 0) → va_P (dC, dI) vwCl (WM cA cZ cJ a (upd f 2 (nI 0)) g h r) H → va_S (AM a) s.heap H locs → lv_has ls 6 [(0, .ref (a 17)), (1, .int (nI j)), (2, .int (nI cl)), (3, .long v), (5, .int (nI i))] → W zp l ze (headSpec wsM_carry ({ frames := 3, cells := 0, slots := 0, locals := 72 })).room s zm ([.ref (a 17), .int ka, .int c] : List Value).toArray below meth zc H locs 0 0 (MQ below (va_Qi (fun (z : Int32) (s : zMt) => z = (if zKept kept ka = true ∧ 0 ≤ c.toInt ∧ c.toInt ≤ 8 ∧ zHc mi sd nw 0 0 = true then (zDv (nI B).toInt64 (c.toInt.toNat + 1) (zCv sd (fun zw => zHv (nI B).toInt64 (fun zp => zMd (g 1) (g 6) (g 16) lc ka.toInt.toNat zp) (ln zw - (ln zw - (c.toInt.toNat + 1))) (at0 zw + (ln zw - (c.toInt.toNat + 1))) (lN 0)) nw 0 (lN 0))).toInt32 else -1) ∧ s = (upd f 2 (nI 0), g, h, r)) (zBW (dC, dI) vwCl (fun u : zMt => WM cA cZ cJ a u.1 u.2.1 u.2.2.1 u.2.2.2)) (AM a)) ([.ref (a 17), .int ka, .int c] : List Value).toArray s 0 0 (AM a)) (F0 zm 37 ls []) := by
    intro k0
    induction k0 with
    | zero => intro j cl i v H locs ls q1 q2; omega
    | succ k0 ih =>
      intro j cl i v H locs ls hk0 hi hj1 hcl e1 e2 e3 e4 hjt hct hR hP hS hl
      refine lv_iload hx hb dM_carry_37 (lv_at hl 4 rfl) ?_
      refine lv_aload_n hx hb dM_carry_39 rfl (lv_at hl 0 rfl) ?_
      refine mgf_4 (v := nI nw) hx hb hz hi_M hown hK hP (hz _ q_464) h4 dM_carry_40 ?_
      refine lv_icmp_ge (tgt := 75) hx hb dM_carry_43 (by decide) (fun c_43 => ?_) (fun c_43 => ?_)
      · have c_43 := (nI_leI (a := nw) (b := i) (by omega) (by omega)).mp c_43
        refine lv_iconst (v := nI 0) hx hb dM_carry_75 (by decide) ?_
        refine lv_istore (lv' := [(5, .int (nI 0)), (0, .ref (a 17)), (1, .int (nI j)), (2, .int (nI cl)), (3, .long v)]) hx hb dM_carry_76 hl (by decide) rfl (fun ls hl => ?_)
        exact loop2 (cl + 2) j cl 0 v H locs ls (by omega) (by omega) hj1 hcl e1 e2 e3 e4 hjt hct (by rw [← hR, show nw - i = 0 by omega]; rfl) hP hS (lv_sub hl [1, 2, 3, 4, 0] rfl)
      · have c_43 := mt (nI_leI (a := nw) (b := i) (by omega) (by omega)).mpr c_43
        refine lv_aload_n hx hb dM_carry_46 rfl (lv_at hl 0 rfl) ?_
        refine mgr_wordSide hx hb hz hi_M hown hK hP (hz _ q_470) dM_carry_47 ?_
        refine lv_iload hx hb dM_carry_50 (lv_at hl 4 rfl) ?_
        refine zald (v := zB (sd i)) hx hb hK hP 5 0 rfl rfl i rfl (by omega) (by decide) (hsd i (by omega)) dM_carry_52 ?_
        refine lv_if_ne (tgt := 69) hx hb dM_carry_53 (by decide) (fun c_53 => ?_) (fun c_53 => ?_)
        · have c_53 : sd i = true := zB_n0 c_53
          refine lv_iinc (v := nI (i + 1)) (lv' := [(5, .int (nI (i + 1))), (0, .ref (a 17)), (1, .int (nI j)), (2, .int (nI cl)), (3, .long v)]) hx hb dM_carry_69 hl (k := 4) rfl (nI_1 _) (by decide) rfl (fun ls hl => ?_)
          refine lv_goto (tgt := 37) hx hb dM_carry_72 (by decide) ?_
          exact ih j cl (i + 1) _ H locs ls (by omega) (by omega) hj1 hcl e1 e2 e3 e4 hjt hct (by rw [← hR, show nw - i = (nw - (i + 1)) + 1 by omega]; simp only [zCv]; rw [if_pos c_53]) hP hS (lv_sub hl [1, 2, 3, 4, 0] rfl)
        · have c_53 : sd i = false := zB_eq0.mp c_53
          refine lv_lload_n hx hb dM_carry_56 rfl (lv_at hl 3 rfl) ?_
          refine lv_aload_n hx hb dM_carry_57 rfl (lv_at hl 0 rfl) ?_
          refine lv_iload_n hx hb dM_carry_58 rfl (lv_at hl 1 rfl) ?_
          refine lv_iload hx hb dM_carry_59 (lv_at hl 4 rfl) ?_
          refine lv_iload_n hx hb dM_carry_61 rfl (lv_at hl 2 rfl) ?_
          refine lv_iconst (v := nI 1) hx hb dM_carry_62 (by decide) ?_
          refine lv_iadd hx hb dM_carry_63 ?_
          refine zt (nI_add _ _) ?_
          refine zq_le (zrV (rest := [.long v]) ⟨hx, hb, hml, hown, hz⟩ (c_M_wordOf l dC dI cA cZ cJ a (upd f 2 (nI 0)) g h r j (by omega) B h0 i (by omega) (cl + 1) (by omega) (at0 i) (ln i) (hat i (by omega)) (hln i (by omega)) (hle i (by omega)).1 (hle i (by omega)).2 lc hlc h5) ⟨zcB 3 hz q_609 q_9 q_612 (by decide +kernel) rfl rfl ⟨Nat.le_of_ble_eq_true rfl, Nat.le_of_ble_eq_true rfl⟩, hz _ q_611, hz _ qs_27⟩ hK hN hP 17 6 rfl rfl rfl rfl hl.1 rfl (Nat.le_of_ble_eq_true rfl) dM_carry_64 ⟨Nat.zero_le _, Nat.zero_le _⟩) ?_
          refine lv_ladd hx hb dM_carry_67 ?_
          refine lv_lstore_n (lv' := [(3, .long (v + (zHv (nI B).toInt64 (fun zp => zMd (g 1) (g 6) (g 16) lc j zp) (ln i - (ln i - (cl + 1))) (at0 i + (ln i - (cl + 1))) (lN 0)))), (0, .ref (a 17)), (1, .int (nI j)), (2, .int (nI cl)), (5, .int (nI i))]) hx hb dM_carry_68 rfl hl (by decide) rfl (fun ls hl => ?_)
          refine lv_iinc (v := nI (i + 1)) (lv' := [(5, .int (nI (i + 1))), (3, .long (v + (zHv (nI B).toInt64 (fun zp => zMd (g 1) (g 6) (g 16) lc j zp) (ln i - (ln i - (cl + 1))) (at0 i + (ln i - (cl + 1))) (lN 0)))), (0, .ref (a 17)), (1, .int (nI j)), (2, .int (nI cl))]) hx hb dM_carry_69 hl (k := 4) rfl (nI_1 _) (by decide) rfl (fun ls hl => ?_)
          refine lv_goto (tgt := 37) hx hb dM_carry_72 (by decide) ?_
          exact ih j cl (i + 1) _ H locs ls (by omega) (by omega) hj1 hcl e1 e2 e3 e4 hjt hct (by rw [← hR, show nw - i = (nw - (i + 1)) + 1 by omega]; simp only [zCv]; rw [if_neg (by rw [c_53]; decide)]) hP hS (lv_sub hl [2, 3, 4, 1, 0] rfl)
  refine lv_aload_n hx hb dM_carry_0 rfl (lv_at hl 0 rfl) ?_
  refine lv_iconst (v := nI 0) hx hb dM_carry_1 (by decide) ?_
  refine mpf_2 hx hb hz hi_M hown hK hP (hD _ _ _ _) hS (hz _ q_461) dM_carry_2 (fun H locs hP hS => ?_)
  refine lv_aload_n hx hb dM_carry_5 rfl (lv_at hl 0 rfl) ?_
  refine lv_iload_n hx hb dM_carry_6 rfl (lv_at hl 1 rfl) ?_
  refine zq_e (zrV (rest := []) ⟨hx, hb, hml, hown, hz⟩ (c_M_isAnswer l dC dI cA cZ cJ a (upd f 2 (nI 0)) g h r ka kept hkept h6) ⟨zcB 1 hz q_601 q_9 q_604 (by decide +kernel) rfl rfl ⟨Nat.le_of_ble_eq_true rfl, Nat.le_of_ble_eq_true rfl⟩, hz _ q_603, hz _ qs_26⟩ hK hN hP 17 6 rfl rfl rfl rfl hl.1 rfl (Nat.le_of_ble_eq_true rfl) dM_carry_7 ⟨Nat.zero_le _, Nat.zero_le _⟩) ?_
  refine lv_if_eq (tgt := 30) hx hb dM_carry_10 (by decide) (fun c_10 => ?_) (fun c_10 => ?_)
  · have c_10 : zKept kept ka = false := zB_eq0.mp c_10
    refine lv_iconst (v := (-1)) hx hb dM_carry_30 (by decide) ?_
    exact W.iret hx hb hr (fun zT zh _ => ⟨⟨_, (upd f 2 (nI 0), g, h, r), rfl, ⟨(if_neg (by simp [c_10])).symm, rfl⟩, zbw zh hP⟩, hS.F zh⟩) hS.2.2 dM_carry_31
  · have c_10 : zKept kept ka = true := zB_n0 c_10
    obtain ⟨j, hj, hkj⟩ := zKept_ex c_10
    have hjt : ka.toInt.toNat = j := by rw [hkj, nI_tn (by omega)]
    rw [hkj] at hl
    refine lv_iload_n hx hb dM_carry_13 rfl (lv_at hl 2 rfl) ?_
    refine lv_if_lt (tgt := 30) hx hb dM_carry_14 (by decide) (fun c_14 => ?_) (fun c_14 => ?_)
    · refine lv_iconst (v := (-1)) hx hb dM_carry_30 (by decide) ?_
      exact W.iret hx hb hr (fun zT zh _ => ⟨⟨_, (upd f 2 (nI 0), g, h, r), rfl, ⟨(if_neg (fun q => zSd3 c_14 q.2.1)).symm, rfl⟩, zbw zh hP⟩, hS.F zh⟩) hS.2.2 dM_carry_31
    · refine lv_iload_n hx hb dM_carry_17 rfl (lv_at hl 2 rfl) ?_
      refine lv_bipush (v := nI 8) hx hb dM_carry_18 (by decide) ?_
      refine lv_icmp_gt (tgt := 30) hx hb dM_carry_20 (by decide) (fun c_20 => ?_) (fun c_20 => ?_)
      · refine lv_iconst (v := (-1)) hx hb dM_carry_30 (by decide) ?_
        exact W.iret hx hb hr (fun zT zh _ => ⟨⟨_, (upd f 2 (nI 0), g, h, r), rfl, ⟨(if_neg (fun q => zSd6 c_20 q.2.2.1)).symm, rfl⟩, zbw zh hP⟩, hS.F zh⟩) hS.2.2 dM_carry_31
      · obtain ⟨cl, hcl, hc9⟩ := nI_of2 (x := c) (M := nI 8) (n := 8) (by decide) c_14 (Int32.not_lt.mp c_20)
        have hct : c.toInt.toNat = cl := by rw [hc9, nI_tn (by omega)]
        rw [hc9] at hl
        refine lv_aload_n hx hb dM_carry_23 rfl (lv_at hl 0 rfl) ?_
        refine zq_e (zrV (rest := []) ⟨hx, hb, hml, hown, hz⟩ (c_M_hasCarries l dC dI cA cZ cJ a (upd f 2 (nI 0)) g h r B h0 nw hnw h4 at0 ln mi sd hat hln hle hmi hsd) ⟨zcB 0 hz q_621 q_9 q_624 (by decide +kernel) rfl rfl ⟨Nat.le_of_ble_eq_true rfl, Nat.le_of_ble_eq_true rfl⟩, hz _ q_623, hz _ qs_29⟩ hK hN hP 17 6 rfl rfl rfl rfl hl.1 rfl (Nat.le_of_ble_eq_true rfl) dM_carry_24 ⟨Nat.zero_le _, Nat.zero_le _⟩) ?_
        refine lv_if_ne (tgt := 32) hx hb dM_carry_27 (by decide) (fun c_27 => ?_) (fun c_27 => ?_)
        · have c_27 : zHc mi sd nw 0 0 = true := zB_n0 c_27
          refine lv_lconst (v := lN 0) hx hb dM_carry_32 (by decide) ?_
          refine lv_lstore_n (lv' := [(3, .long (lN 0)), (0, .ref (a 17)), (1, .int (nI j)), (2, .int (nI cl))]) hx hb dM_carry_33 rfl hl (by decide) rfl (fun ls hl => ?_)
          refine lv_iconst (v := nI 0) hx hb dM_carry_34 (by decide) ?_
          refine lv_istore (lv' := [(5, .int (nI 0)), (3, .long (lN 0)), (0, .ref (a 17)), (1, .int (nI j)), (2, .int (nI cl))]) hx hb dM_carry_35 hl (by decide) rfl (fun ls hl => ?_)
          exact loop1 (nw + 1) j cl 0 (lN 0) _ _ ls (by omega) (by omega) (by omega) hcl c_10 (zSd1 c_14) (zSd5 c_20) c_27 hjt hct rfl hP hS (lv_sub hl [2, 3, 4, 1, 0] rfl)
        · have c_27 : zHc mi sd nw 0 0 = false := zB_eq0.mp c_27
          refine lv_iconst (v := (-1)) hx hb dM_carry_30 (by decide) ?_
          exact W.iret hx hb hr (fun zT zh _ => ⟨⟨_, (upd f 2 (nI 0), g, h, r), rfl, ⟨(if_neg (by simp [c_27])).symm, rfl⟩, zbw zh hP⟩, hS.F zh⟩) hS.2.2 dM_carry_31

set_option maxHeartbeats 4000000 in
set_option maxRecDepth 100000 in
theorem c_M_text (l : Launch) (dC : Nat → ClassId) (dI : Nat → Nat → Nat) (cA cZ cJ : ClassId) (a : Nat → Nat) (f : Nat → Int32) (g : Nat → Nat → Int32) (h : Nat → Int64) (r : Int64) (hWD : MDist a) (ka i : Int32) (kept : Nat) (hkept : kept ≤ 1000) (h6 : f 6 = nI kept) (lc : Nat) (hlc : lc ≤ 8) (h5 : f 5 = nI lc) (n : Nat) (hn : n ≤ 80) (h3 : f 3 = nI n) : Met l yM_text wsM_text ({ frames := 2, cells := 0, slots := 0, locals := 45 }) (va_Pc [.ref (a 17), .int ka, .int i] (zPW (dC, dI) vwCl [(cA, .int), (cZ, .boolean), (cJ, .long)] (WM cA cZ cJ a f g h r))) (va_Qi (fun (z : Int32) (s : zMt) => z = zTx (zKept kept ka) (zLet (zAt (-1) (g 1) n i)) (zAt (-1) (g 1) n i) (zMd (g 1) (g 6) (g 16) lc ka.toInt.toNat i.toInt.toNat) ∧ s = (upd f 2 (nI 0), g, h, r)) (zBW (dC, dI) vwCl (fun u : zMt => WM cA cZ cJ a u.1 u.2.1 u.2.2.1 u.2.2.2)) (AM a)) 0 0 (AM a) := by
  refine Met.ofW (cc := prog_8_method_23_code) (maxL := 3) (ret := (some .int)) (by decide) rfl ?_
  intro zp ze s zm args below meth zc s₁ zBL hml hv
  obtain ⟨rfl, hP, hK, hN⟩ := hv
  have hx := zBL.exec
  have hb := zBL.bytes
  have hr := zBL.returns
  have hts := atoms_spec (ws := wsM_text) zBL.pre
  have hz : ∀ w ∈ zBig, w.before _ s = true := fun w h => hts w (List.mem_cons_of_mem _ h)
  have hown : s.vm.findClass "LetterSumsModel" = some zm.cls := findClass_of_methodNamed zBL.named
  have hlocks := zBL.notSynchronized
  have hD : ∀ f g h r, va_D (AM a) (WM cA cZ cJ a f g h r) := fun f g h r => WM_D hWD f g h r
  have hS : va_S (AM a) s.heap s.heap [] := va_S.rf
  have hl := lv_entry ([.ref (a 17), .int ka, .int i]) (n := 3) (Nat.le_of_ble_eq_true rfl)
  rw [lg_entry_eq]
  generalize (lg_sl ([.ref (a 17), .int ka, .int i]) ++ List.replicate (3 - (lg_sl ([.ref (a 17), .int ka, .int i])).length) Slot.unset).toArray = ls at hl ⊢
  have hl : lv_has ls 3 [(0, .ref (a 17)), (1, .int ka), (2, .int i)] := hl
  refine lv_aload_n hx hb dM_text_0 rfl (lv_at hl 0 rfl) ?_
  refine lv_iconst (v := nI 0) hx hb dM_text_1 (by decide) ?_
  refine mpf_2 hx hb hz hi_M hown hK hP (hD _ _ _ _) hS (hz _ q_461) dM_text_2 (fun H locs hP hS => ?_)
  refine lv_aload_n hx hb dM_text_5 rfl (lv_at hl 0 rfl) ?_
  refine lv_iload_n hx hb dM_text_6 rfl (lv_at hl 1 rfl) ?_
  refine zq_e (zrV (rest := []) ⟨hx, hb, hml, hown, hz⟩ (c_M_isAnswer l dC dI cA cZ cJ a (upd f 2 (nI 0)) g h r ka kept hkept h6) ⟨zcB 1 hz q_601 q_9 q_604 (by decide +kernel) rfl rfl ⟨Nat.le_of_ble_eq_true rfl, Nat.le_of_ble_eq_true rfl⟩, hz _ q_603, hz _ qs_26⟩ hK hN hP 17 6 rfl rfl rfl rfl hl.1 rfl (Nat.le_of_ble_eq_true rfl) dM_text_7 ⟨Nat.zero_le _, Nat.zero_le _⟩) ?_
  refine lv_if_eq (tgt := 25) hx hb dM_text_10 (by decide) (fun c_10 => ?_) (fun c_10 => ?_)
  · have c_10 : zKept kept ka = false := zB_eq0.mp c_10
    refine lv_iconst (v := (-1)) hx hb dM_text_25 (by decide) ?_
    exact W.iret hx hb hr (fun zT zh _ => ⟨⟨_, (upd f 2 (nI 0), g, h, r), rfl, ⟨by unfold zTx; rw [c_10]; rfl, rfl⟩, zbw zh hP⟩, hS.F zh⟩) hS.2.2 dM_text_26
  · have c_10 : zKept kept ka = true := zB_n0 c_10
    obtain ⟨j, hj, hkj⟩ := zKept_ex c_10
    have hjt : ka.toInt.toNat = j := by rw [hkj, nI_tn (by omega)]
    rw [hkj] at hl
    refine lv_iload_n hx hb dM_text_13 rfl (lv_at hl 2 rfl) ?_
    refine lv_if_lt (tgt := 25) hx hb dM_text_14 (by decide) (fun c_14 => ?_) (fun c_14 => ?_)
    · refine lv_iconst (v := (-1)) hx hb dM_text_25 (by decide) ?_
      exact W.iret hx hb hr (fun zT zh _ => ⟨⟨_, (upd f 2 (nI 0), g, h, r), rfl, ⟨by rw [zAt_neg c_14]; unfold zTx; rw [c_10]; rfl, rfl⟩, zbw zh hP⟩, hS.F zh⟩) hS.2.2 dM_text_26
    · refine lv_iload_n hx hb dM_text_17 rfl (lv_at hl 2 rfl) ?_
      refine lv_aload_n hx hb dM_text_18 rfl (lv_at hl 0 rfl) ?_
      refine mgf_3 (v := nI n) hx hb hz hi_M hown hK hP (hz _ q_463) h3 dM_text_19 ?_
      refine lv_icmp_lt (tgt := 27) hx hb dM_text_22 (by decide) (fun c_22 => ?_) (fun c_22 => ?_)
      · obtain ⟨p, hi0, hip⟩ := zAt_ix (n := n) (by omega) c_14 (Int32.not_le.mpr c_22)
        rw [hip] at hl
        refine lv_aload_n hx hb dM_text_27 rfl (lv_at hl 0 rfl) ?_
        refine mgr_text hx hb hz hi_M hown hK hP (hz _ q_462) dM_text_28 ?_
        refine lv_iload_n hx hb dM_text_31 rfl (lv_at hl 2 rfl) ?_
        refine zald (v := g 1 p) hx hb hK hP 1 0 rfl rfl p rfl (by omega) (by decide) rfl dM_text_32 ?_
        refine zq_e (zrS0 (rest := []) ⟨hx, hb, hml, hown, hz⟩ (c_M_isLetter l  (g 1 p)) ⟨zcB 1 hz q_561 q_9 q_563 (by decide +kernel) rfl rfl ⟨Nat.le_of_ble_eq_true rfl, Nat.le_of_ble_eq_true rfl⟩, hz _ q_562⟩ rfl hl.1 rfl (Nat.le_of_ble_eq_true rfl) dM_text_33 ⟨Nat.zero_le _, Nat.zero_le _⟩) ?_
        refine lv_if_eq (tgt := 51) hx hb dM_text_36 (by decide) (fun c_36 => ?_) (fun c_36 => ?_)
        · have c_36 := zB_eq0.mp c_36
          refine lv_aload_n hx hb dM_text_51 rfl (lv_at hl 0 rfl) ?_
          refine mgr_text hx hb hz hi_M hown hK hP (hz _ q_462) dM_text_52 ?_
          refine lv_iload_n hx hb dM_text_55 rfl (lv_at hl 2 rfl) ?_
          refine zald (v := g 1 p) hx hb hK hP 1 0 rfl rfl p rfl (by omega) (by decide) rfl dM_text_56 ?_
          exact W.iret hx hb hr (fun zT zh _ => ⟨⟨_, (upd f 2 (nI 0), g, h, r), rfl, ⟨by rw [zAt_in (by omega) hi0 hip, hjt, hip, nI_tn (by omega)]; unfold zTx; rw [c_10, c_36]; rfl, rfl⟩, zbw zh hP⟩, hS.F zh⟩) hS.2.2 dM_text_57
        · have c_36 := zB_n0 c_36
          refine lv_bipush (v := nI 48) hx hb dM_text_39 (by decide) ?_
          refine lv_aload_n hx hb dM_text_41 rfl (lv_at hl 0 rfl) ?_
          refine lv_iload_n hx hb dM_text_42 rfl (lv_at hl 1 rfl) ?_
          refine lv_iload_n hx hb dM_text_43 rfl (lv_at hl 2 rfl) ?_
          refine zq_e (zrV (rest := [.int (nI 48)]) ⟨hx, hb, hml, hown, hz⟩ (c_M_digitAt l dC dI cA cZ cJ a (upd f 2 (nI 0)) g h r j p (by omega) (by omega) lc hlc h5) ⟨zcB 2 hz q_613 q_9 q_616 (by decide +kernel) rfl rfl ⟨Nat.le_of_ble_eq_true rfl, Nat.le_of_ble_eq_true rfl⟩, hz _ q_615, hz _ qs_28⟩ hK hN hP 17 6 rfl rfl rfl rfl hl.1 rfl (Nat.le_of_ble_eq_true rfl) dM_text_44 ⟨Nat.zero_le _, Nat.zero_le _⟩) ?_
          refine lv_iadd hx hb dM_text_47 ?_
          refine lv_goto (tgt := 57) hx hb dM_text_48 (by decide) ?_
          exact W.iret hx hb hr (fun zT zh _ => ⟨⟨_, (upd f 2 (nI 0), g, h, r), rfl, ⟨by rw [zAt_in (by omega) hi0 hip, hjt, hip, nI_tn (by omega)]; unfold zTx; rw [c_10, c_36]; rfl, rfl⟩, zbw zh hP⟩, hS.F zh⟩) hS.2.2 dM_text_57
      · refine lv_iconst (v := (-1)) hx hb dM_text_25 (by decide) ?_
        exact W.iret hx hb hr (fun zT zh _ => ⟨⟨_, (upd f 2 (nI 0), g, h, r), rfl, ⟨by rw [zAt_big (by omega) (Int32.not_lt.mp c_22)]; unfold zTx; rw [c_10]; rfl, rfl⟩, zbw zh hP⟩, hS.F zh⟩) hS.2.2 dM_text_26

set_option maxHeartbeats 4000000 in
set_option maxRecDepth 100000 in
theorem c_M_fixed (l : Launch) (dC : Nat → ClassId) (dI : Nat → Nat → Nat) (cA cZ cJ : ClassId) (a : Nat → Nat) (f : Nat → Int32) (g : Nat → Nat → Int32) (h : Nat → Int64) (r : Int64) (hWD : MDist a) (kept : Nat) (hkept : kept ≤ 1000) (h6 : f 6 = nI kept) (lc : Nat) (hlc : lc ≤ 8) (h5 : f 5 = nI lc) : Met l yM_fixed wsM_fixed ({ frames := 0, cells := 0, slots := 0, locals := 0 }) (va_Pc [.ref (a 17)] (zPW (dC, dI) vwCl [(cA, .int), (cZ, .boolean), (cJ, .long)] (WM cA cZ cJ a f g h r))) (va_Qi (fun (z : Int32) (s : zMt) => z = (if kept = 0 then nI 0 else nI (zFx (fun e0 => zSm2 (fun k => g 16 (8 * k + e0)) (kept - 1) 1 true) lc 0 0)) ∧ s = (upd f 2 (nI 0), g, h, r)) (zBW (dC, dI) vwCl (fun u : zMt => WM cA cZ cJ a u.1 u.2.1 u.2.2.1 u.2.2.2)) (AM a)) 0 0 (AM a) := by
  refine Met.ofW (cc := prog_8_method_24_code) (maxL := 5) (ret := (some .int)) (by decide) rfl ?_
  intro zp ze s zm args below meth zc s₁ zBL hml hv
  obtain ⟨rfl, hP, hK, hN⟩ := hv
  have hx := zBL.exec
  have hb := zBL.bytes
  have hr := zBL.returns
  have hts := atoms_spec (ws := wsM_fixed) zBL.pre
  have hz : ∀ w ∈ zBig, w.before _ s = true := fun w h => hts w (List.mem_cons_of_mem _ h)
  have hown : s.vm.findClass "LetterSumsModel" = some zm.cls := findClass_of_methodNamed zBL.named
  have hlocks := zBL.notSynchronized
  have hD : ∀ f g h r, va_D (AM a) (WM cA cZ cJ a f g h r) := fun f g h r => WM_D hWD f g h r
  have hS : va_S (AM a) s.heap s.heap [] := va_S.rf
  have hl := lv_entry ([.ref (a 17)]) (n := 5) (Nat.le_of_ble_eq_true rfl)
  rw [lg_entry_eq]
  generalize (lg_sl ([.ref (a 17)]) ++ List.replicate (5 - (lg_sl ([.ref (a 17)])).length) Slot.unset).toArray = ls at hl ⊢
  have hl : lv_has ls 5 [(0, .ref (a 17))] := hl
  have loop : ∀ (k0 : Nat) (i c : Nat) (H : Heap) (locs : List Loc) (ls : Array Slot), lc + 1 ≤ i + k0 → i ≤ lc → c ≤ i → (kept = 0 → c = 0) → zFx (fun e0 => zSm2 (fun k => g 16 (8 * k + e0)) (kept - 1) 1 true) (lc - i) i c = zFx (fun e0 => zSm2 (fun k => g 16 (8 * k + e0)) (kept - 1) 1 true) lc 0 0 → va_P (dC, dI) vwCl (WM cA cZ cJ a (upd f 2 (nI 0)) g h r) H → va_S (AM a) s.heap H locs → lv_has ls 5 [(0, .ref (a 17)), (1, .int (nI c)), (2, .int (nI i))] → W zp l ze (headSpec wsM_fixed ({ frames := 0, cells := 0, slots := 0, locals := 0 })).room s zm ([.ref (a 17)] : List Value).toArray below meth zc H locs 0 0 (MQ below (va_Qi (fun (z : Int32) (s : zMt) => z = (if kept = 0 then nI 0 else nI (zFx (fun e0 => zSm2 (fun k => g 16 (8 * k + e0)) (kept - 1) 1 true) lc 0 0)) ∧ s = (upd f 2 (nI 0), g, h, r)) (zBW (dC, dI) vwCl (fun u : zMt => WM cA cZ cJ a u.1 u.2.1 u.2.2.1 u.2.2.2)) (AM a)) ([.ref (a 17)] : List Value).toArray s 0 0 (AM a)) (F0 zm 9 ls []) := by
    intro k0
    induction k0 with
    | zero => intro i c H locs ls q1 q2; omega
    | succ k0 ih =>
      intro i c H locs ls hk0 hi hc hcz hR hP hS hl
      have inner : ∀ (k1 k : Nat) (b : Bool) (ls : Array Slot), i < lc → 1 ≤ kept → kept + 1 ≤ k + k1 → k ≤ kept → zSm2 (fun k => g 16 (8 * k + i)) (kept - k) k b = zSm2 (fun k => g 16 (8 * k + i)) (kept - 1) 1 true → lv_has ls 5 [(0, .ref (a 17)), (1, .int (nI c)), (2, .int (nI i)), (3, .int (zB b)), (4, .int (nI k))] → W zp l ze (headSpec wsM_fixed ({ frames := 0, cells := 0, slots := 0, locals := 0 })).room s zm ([.ref (a 17)] : List Value).toArray below meth zc H locs 0 0 (MQ below (va_Qi (fun (z : Int32) (s : zMt) => z = (if kept = 0 then nI 0 else nI (zFx (fun e0 => zSm2 (fun k => g 16 (8 * k + e0)) (kept - 1) 1 true) lc 0 0)) ∧ s = (upd f 2 (nI 0), g, h, r)) (zBW (dC, dI) vwCl (fun u : zMt => WM cA cZ cJ a u.1 u.2.1 u.2.2.1 u.2.2.2)) (AM a)) ([.ref (a 17)] : List Value).toArray s 0 0 (AM a)) (F0 zm 29 ls []) := by
        intro k1
        induction k1 with
        | zero => intro k b ls _ _ q1 q2; omega
        | succ k1 ih2 =>
          intro k b ls hil hk1 hkk hk hR2 hl
          refine lv_iload hx hb dM_fixed_29 (lv_at hl 4 rfl) ?_
          refine lv_aload_n hx hb dM_fixed_31 rfl (lv_at hl 0 rfl) ?_
          refine mgf_6 (v := nI kept) hx hb hz hi_M hown hK hP (hz _ q_466) h6 dM_fixed_32 ?_
          refine lv_icmp_ge (tgt := 75) hx hb dM_fixed_35 (by decide) (fun c_35 => ?_) (fun c_35 => ?_)
          · have c_35 := (nI_leI (a := kept) (b := k) (by omega) (by omega)).mp c_35
            refine lv_iload_n hx hb dM_fixed_75 rfl (lv_at hl 3 rfl) ?_
            refine lv_if_eq (tgt := 82) hx hb dM_fixed_76 (by decide) (fun c_76 => ?_) (fun c_76 => ?_)
            · have c_76 : zSm2 (fun k => g 16 (8 * k + i)) (kept - 1) 1 true = false := by rw [← hR2, show kept - k = 0 by omega]; exact zB_eq0.mp c_76
              refine lv_iinc (v := nI (i + 1)) (lv' := [(2, .int (nI (i + 1))), (0, .ref (a 17)), (1, .int (nI c)), (3, .int (zB b)), (4, .int (nI k))]) hx hb dM_fixed_82 hl (k := 2) rfl (nI_1 _) (by decide) rfl (fun ls hl => ?_)
              refine lv_goto (tgt := 9) hx hb dM_fixed_85 (by decide) ?_
              exact ih (i + 1) c H locs ls (by omega) (by omega) (by omega) (by omega) (by rw [← hR, show lc - i = (lc - (i + 1)) + 1 by omega]; simp only [zFx]; rw [if_neg (by rw [c_76]; decide)]) hP hS (lv_sub hl [1, 2, 0] rfl)
            · have c_76 : zSm2 (fun k => g 16 (8 * k + i)) (kept - 1) 1 true = true := by rw [← hR2, show kept - k = 0 by omega]; exact zB_n0 c_76
              refine lv_iinc (v := nI (c + 1)) (lv' := [(1, .int (nI (c + 1))), (0, .ref (a 17)), (2, .int (nI i)), (3, .int (zB b)), (4, .int (nI k))]) hx hb dM_fixed_79 hl (k := 1) rfl (nI_1 _) (by decide) rfl (fun ls hl => ?_)
              refine lv_iinc (v := nI (i + 1)) (lv' := [(2, .int (nI (i + 1))), (1, .int (nI (c + 1))), (0, .ref (a 17)), (3, .int (zB b)), (4, .int (nI k))]) hx hb dM_fixed_82 hl (k := 2) rfl (nI_1 _) (by decide) rfl (fun ls hl => ?_)
              refine lv_goto (tgt := 9) hx hb dM_fixed_85 (by decide) ?_
              exact ih (i + 1) (c + 1) H locs ls (by omega) (by omega) (by omega) (by omega) (by rw [← hR, show lc - i = (lc - (i + 1)) + 1 by omega]; simp only [zFx]; rw [if_pos c_76]) hP hS (lv_sub hl [2, 1, 0] rfl)
          · have c_35 := mt (nI_leI (a := kept) (b := k) (by omega) (by omega)).mpr c_35
            refine lv_iload_n hx hb dM_fixed_38 rfl (lv_at hl 3 rfl) ?_
            refine lv_if_eq (tgt := 67) hx hb dM_fixed_39 (by decide) (fun c_39 => ?_) (fun c_39 => ?_)
            · have c_39 : b = false := zB_eq0.mp c_39
              refine lv_iconst (v := nI 0) hx hb dM_fixed_67 (by decide) ?_
              refine zt (y := zB (b && decide (g 16 (8 * k + i) = g 16 (8 * 0 + i)))) (by rw [c_39]; rfl) ?_
              refine lv_istore_n (lv' := [(3, .int (zB (b && decide (g 16 (8 * k + i) = g 16 (8 * 0 + i))))), (0, .ref (a 17)), (1, .int (nI c)), (2, .int (nI i)), (4, .int (nI k))]) hx hb dM_fixed_68 rfl hl (by decide) rfl (fun ls hl => ?_)
              refine lv_iinc (v := nI (k + 1)) (lv' := [(4, .int (nI (k + 1))), (3, .int (zB (b && decide (g 16 (8 * k + i) = g 16 (8 * 0 + i))))), (0, .ref (a 17)), (1, .int (nI c)), (2, .int (nI i))]) hx hb dM_fixed_69 hl (k := 4) rfl (nI_1 _) (by decide) rfl (fun ls hl => ?_)
              refine lv_goto (tgt := 29) hx hb dM_fixed_72 (by decide) ?_
              exact ih2 (k + 1) (b && decide (g 16 (8 * k + i) = g 16 (8 * 0 + i))) ls hil hk1 (by omega) (by omega) (by rw [← hR2, show kept - k = (kept - (k + 1)) + 1 by omega]; rfl) (lv_sub hl [2, 3, 4, 1, 0] rfl)
            · have c_39 : b = true := zB_n0 c_39
              refine lv_aload_n hx hb dM_fixed_42 rfl (lv_at hl 0 rfl) ?_
              refine mgr_answer hx hb hz hi_M hown hK hP (hz _ q_484) dM_fixed_43 ?_
              refine lv_bipush (v := nI 8) hx hb dM_fixed_46 (by decide) ?_
              refine lv_iload hx hb dM_fixed_48 (lv_at hl 4 rfl) ?_
              refine lv_imul hx hb dM_fixed_50 ?_
              refine zt (y := nI (8 * k)) (pk_mul _ _) ?_
              refine lv_iload_n hx hb dM_fixed_51 rfl (lv_at hl 2 rfl) ?_
              refine lv_iadd hx hb dM_fixed_52 ?_
              refine zt (nI_add _ _) ?_
              refine zald (v := g 16 (8 * k + i)) hx hb hK hP 16 0 rfl rfl (8 * k + i) rfl (by omega) (by decide) rfl dM_fixed_53 ?_
              refine lv_aload_n hx hb dM_fixed_54 rfl (lv_at hl 0 rfl) ?_
              refine mgr_answer hx hb hz hi_M hown hK hP (hz _ q_484) dM_fixed_55 ?_
              refine lv_iload_n hx hb dM_fixed_58 rfl (lv_at hl 2 rfl) ?_
              refine zald (v := g 16 (8 * 0 + i)) hx hb hK hP 16 0 rfl rfl (8 * 0 + i) (by rw [Nat.mul_zero, Nat.zero_add]) (by omega) (by decide) rfl dM_fixed_59 ?_
              refine lv_icmp_ne (tgt := 67) hx hb dM_fixed_60 (by decide) (fun c_60 => ?_) (fun c_60 => ?_)
              · refine lv_iconst (v := nI 0) hx hb dM_fixed_67 (by decide) ?_
                refine zt (y := zB (b && decide (g 16 (8 * k + i) = g 16 (8 * 0 + i)))) (by rw [c_39, Bool.true_and, decide_eq_false c_60]; rfl) ?_
                refine lv_istore_n (lv' := [(3, .int (zB (b && decide (g 16 (8 * k + i) = g 16 (8 * 0 + i))))), (0, .ref (a 17)), (1, .int (nI c)), (2, .int (nI i)), (4, .int (nI k))]) hx hb dM_fixed_68 rfl hl (by decide) rfl (fun ls hl => ?_)
                refine lv_iinc (v := nI (k + 1)) (lv' := [(4, .int (nI (k + 1))), (3, .int (zB (b && decide (g 16 (8 * k + i) = g 16 (8 * 0 + i))))), (0, .ref (a 17)), (1, .int (nI c)), (2, .int (nI i))]) hx hb dM_fixed_69 hl (k := 4) rfl (nI_1 _) (by decide) rfl (fun ls hl => ?_)
                refine lv_goto (tgt := 29) hx hb dM_fixed_72 (by decide) ?_
                exact ih2 (k + 1) (b && decide (g 16 (8 * k + i) = g 16 (8 * 0 + i))) ls hil hk1 (by omega) (by omega) (by rw [← hR2, show kept - k = (kept - (k + 1)) + 1 by omega]; rfl) (lv_sub hl [2, 3, 4, 1, 0] rfl)
              · refine lv_iconst (v := nI 1) hx hb dM_fixed_63 (by decide) ?_
                refine zt (y := zB (b && decide (g 16 (8 * k + i) = g 16 (8 * 0 + i)))) (by rw [c_39, c_60, Bool.true_and, decide_eq_true rfl]; rfl) ?_
                refine lv_goto (tgt := 68) hx hb dM_fixed_64 (by decide) ?_
                refine lv_istore_n (lv' := [(3, .int (zB (b && decide (g 16 (8 * k + i) = g 16 (8 * 0 + i))))), (0, .ref (a 17)), (1, .int (nI c)), (2, .int (nI i)), (4, .int (nI k))]) hx hb dM_fixed_68 rfl hl (by decide) rfl (fun ls hl => ?_)
                refine lv_iinc (v := nI (k + 1)) (lv' := [(4, .int (nI (k + 1))), (3, .int (zB (b && decide (g 16 (8 * k + i) = g 16 (8 * 0 + i))))), (0, .ref (a 17)), (1, .int (nI c)), (2, .int (nI i))]) hx hb dM_fixed_69 hl (k := 4) rfl (nI_1 _) (by decide) rfl (fun ls hl => ?_)
                refine lv_goto (tgt := 29) hx hb dM_fixed_72 (by decide) ?_
                exact ih2 (k + 1) (b && decide (g 16 (8 * k + i) = g 16 (8 * 0 + i))) ls hil hk1 (by omega) (by omega) (by rw [← hR2, show kept - k = (kept - (k + 1)) + 1 by omega]; rfl) (lv_sub hl [2, 3, 4, 1, 0] rfl)
      refine lv_iload_n hx hb dM_fixed_9 rfl (lv_at hl 2 rfl) ?_
      refine lv_aload_n hx hb dM_fixed_10 rfl (lv_at hl 0 rfl) ?_
      refine mgf_5 (v := nI lc) hx hb hz hi_M hown hK hP (hz _ q_465) h5 dM_fixed_11 ?_
      refine lv_icmp_ge (tgt := 88) hx hb dM_fixed_14 (by decide) (fun c_14 => ?_) (fun c_14 => ?_)
      · have c_14 := (nI_leI (a := lc) (b := i) (by omega) (by omega)).mp c_14
        refine lv_iload_n hx hb dM_fixed_88 rfl (lv_at hl 1 rfl) ?_
        exact W.iret hx hb hr (fun zT zh _ => ⟨⟨_, (upd f 2 (nI 0), g, h, r), rfl, (by
                by_cases hk9 : kept = 0
                · rw [if_pos hk9]; exact ⟨by rw [hcz hk9], rfl⟩
                · exact ⟨by rw [if_neg hk9, ← hR, show lc - i = 0 by omega]; rfl, rfl⟩), zbw zh hP⟩, hS.F zh⟩) hS.2.2 dM_fixed_89
      · have c_14 := mt (nI_leI (a := lc) (b := i) (by omega) (by omega)).mpr c_14
        refine lv_aload_n hx hb dM_fixed_17 rfl (lv_at hl 0 rfl) ?_
        refine mgf_6 (v := nI kept) hx hb hz hi_M hown hK hP (hz _ q_466) h6 dM_fixed_18 ?_
        refine lv_if_le (tgt := 88) hx hb dM_fixed_21 (by decide) (fun c_21 => ?_) (fun c_21 => ?_)
        · have c_21 := (nI_leI (a := kept) (b := 0) (by omega) (by omega)).mp c_21
          refine lv_iload_n hx hb dM_fixed_88 rfl (lv_at hl 1 rfl) ?_
          exact W.iret hx hb hr (fun zT zh _ => ⟨⟨_, (upd f 2 (nI 0), g, h, r), rfl, (by
                  by_cases hk9 : kept = 0
                  · rw [if_pos hk9]; exact ⟨by rw [hcz hk9], rfl⟩
                  · exact ⟨by rw [if_neg hk9, ← hR, show lc - i = 0 by omega]; rfl, rfl⟩), zbw zh hP⟩, hS.F zh⟩) hS.2.2 dM_fixed_89
        · have c_21 := mt (nI_leI (a := kept) (b := 0) (by omega) (by omega)).mpr c_21
          refine lv_iconst (v := nI 1) hx hb dM_fixed_24 (by decide) ?_
          refine zt (y := zB true) (show _ = zB true from rfl) ?_
          refine lv_istore_n (lv' := [(3, .int (zB true)), (0, .ref (a 17)), (1, .int (nI c)), (2, .int (nI i))]) hx hb dM_fixed_25 rfl hl (by decide) rfl (fun ls hl => ?_)
          refine lv_iconst (v := nI 1) hx hb dM_fixed_26 (by decide) ?_
          refine lv_istore (lv' := [(4, .int (nI 1)), (3, .int (zB true)), (0, .ref (a 17)), (1, .int (nI c)), (2, .int (nI i))]) hx hb dM_fixed_27 hl (by decide) rfl (fun ls hl => ?_)
          exact inner (kept + 1) 1 true ls (by omega) (by omega) (by omega) (by omega) rfl (lv_sub hl [2, 3, 4, 1, 0] rfl)
  refine lv_aload_n hx hb dM_fixed_0 rfl (lv_at hl 0 rfl) ?_
  refine lv_iconst (v := nI 0) hx hb dM_fixed_1 (by decide) ?_
  refine mpf_2 hx hb hz hi_M hown hK hP (hD _ _ _ _) hS (hz _ q_461) dM_fixed_2 (fun H locs hP hS => ?_)
  refine lv_iconst (v := nI 0) hx hb dM_fixed_5 (by decide) ?_
  refine lv_istore_n (lv' := [(1, .int (nI 0)), (0, .ref (a 17))]) hx hb dM_fixed_6 rfl hl (by decide) rfl (fun ls hl => ?_)
  refine lv_iconst (v := nI 0) hx hb dM_fixed_7 (by decide) ?_
  refine lv_istore_n (lv' := [(2, .int (nI 0)), (1, .int (nI 0)), (0, .ref (a 17))]) hx hb dM_fixed_8 rfl hl (by decide) rfl (fun ls hl => ?_)
  exact loop (lc + 1) 0 0 _ _ ls (by omega) (by omega) (by omega) (fun _ => rfl) rfl hP hS (lv_sub hl [2, 1, 0] rfl)
