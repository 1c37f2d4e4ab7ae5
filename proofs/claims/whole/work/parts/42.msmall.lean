set_option maxHeartbeats 4000000 in
set_option maxRecDepth 100000 in
theorem c_M_isLetter (l : Launch)  (u : Int32) : Met l yM_isLetter wsM_isLetter ({ frames := 0, cells := 0, slots := 0, locals := 0 }) (va_Pc [.int u] zNo) (vp_Si (fun r => r = (zB (zLet u)))) 0 0 (fun _ => False) := by
  refine Met.ofW (cc := prog_8_method_4_code) (maxL := 1) (ret := (some .boolean)) (by decide) rfl ?_
  intro zp ze s zm args below meth zc s₁ zBL hml hv
  obtain ⟨rfl, -⟩ := hv
  have hx := zBL.exec
  have hb := zBL.bytes
  have hr := zBL.returns
  have hts := atoms_spec (ws := wsM_isLetter) zBL.pre
  have hz : ∀ w ∈ zBig, w.before _ s = true := fun w h => hts w (List.mem_cons_of_mem _ h)
  have hown : s.vm.findClass "LetterSumsModel" = some zm.cls := findClass_of_methodNamed zBL.named
  have hlocks := zBL.notSynchronized
  have hl := lv_entry ([.int u]) (n := 1) (Nat.le_of_ble_eq_true rfl)
  rw [lg_entry_eq]
  generalize (lg_sl ([.int u]) ++ List.replicate (1 - (lg_sl ([.int u])).length) Slot.unset).toArray = ls at hl ⊢
  have hl : lv_has ls 1 [(0, .int u)] := hl
  refine lv_iload_n hx hb dM_isLetter_0 rfl (lv_at hl 0 rfl) ?_
  refine lv_bipush (v := nI 97) hx hb dM_isLetter_1 (by decide) ?_
  refine lv_icmp_lt (tgt := 16) hx hb dM_isLetter_3 (by decide) (fun c_3 => ?_) (fun c_3 => ?_)
  · refine lv_iconst (v := nI 0) hx hb dM_isLetter_16 (by decide) ?_
    exact W.zret hx hb hr rfl (fun zT zh _ => ⟨_, rfl, (by simp [zB, zLet, c_3]), zh⟩) t_nil dM_isLetter_17
  · refine lv_iload_n hx hb dM_isLetter_6 rfl (lv_at hl 0 rfl) ?_
    refine lv_bipush (v := nI 122) hx hb dM_isLetter_7 (by decide) ?_
    refine lv_icmp_gt (tgt := 16) hx hb dM_isLetter_9 (by decide) (fun c_9 => ?_) (fun c_9 => ?_)
    · refine lv_iconst (v := nI 0) hx hb dM_isLetter_16 (by decide) ?_
      exact W.zret hx hb hr rfl (fun zT zh _ => ⟨_, rfl, (by simp [zB, zLet, c_3, c_9]), zh⟩) t_nil dM_isLetter_17
    · refine lv_iconst (v := nI 1) hx hb dM_isLetter_12 (by decide) ?_
      refine lv_goto (tgt := 17) hx hb dM_isLetter_13 (by decide) ?_
      exact W.zret hx hb hr rfl (fun zT zh _ => ⟨_, rfl, (by simp [zB, zLet, c_3, c_9]), zh⟩) t_nil dM_isLetter_17

set_option maxHeartbeats 4000000 in
set_option maxRecDepth 100000 in
theorem c_M_unit (l : Launch) (dC : Nat → ClassId) (dI : Nat → Nat → Nat) (cA cZ cJ : ClassId) (a : Nat → Nat) (f : Nat → Int32) (g : Nat → Nat → Int32) (h : Nat → Int64) (r : Int64) (hWD : MDist a) (u : Int32) (tn : Nat) (htn : tn ≤ 80) (h1 : f 1 = nI tn) : Met l yM_unit wsM_unit ({ frames := 0, cells := 0, slots := 0, locals := 0 }) (va_Pc [.ref (a 17), .int u] (zPW (dC, dI) vwCl [(cA, .int), (cZ, .boolean), (cJ, .long)] (WM cA cZ cJ a f g h r))) (va_Qi (fun (z : Int32) (s : zMt) => if zUn u tn then z = nI 1 ∧ s = (upd (upd f 2 (nI 0)) 1 (nI (tn + 1)), updA g 0 tn u, h, r) else z = nI 0 ∧ s = (upd f 2 (nI 0), g, h, r)) (zBW (dC, dI) vwCl (fun u : zMt => WM cA cZ cJ a u.1 u.2.1 u.2.2.1 u.2.2.2)) (AM a)) 0 0 (AM a) := by
  refine Met.ofW (cc := prog_8_method_3_code) (maxL := 2) (ret := (some .boolean)) (by decide) rfl ?_
  intro zp ze s zm args below meth zc s₁ zBL hml hv
  obtain ⟨rfl, hP, hK, hN⟩ := hv
  have hx := zBL.exec
  have hb := zBL.bytes
  have hr := zBL.returns
  have hts := atoms_spec (ws := wsM_unit) zBL.pre
  have hz : ∀ w ∈ zBig, w.before _ s = true := fun w h => hts w (List.mem_cons_of_mem _ h)
  have hown : s.vm.findClass "LetterSumsModel" = some zm.cls := findClass_of_methodNamed zBL.named
  have hlocks := zBL.notSynchronized
  have hD : ∀ f g h r, va_D (AM a) (WM cA cZ cJ a f g h r) := fun f g h r => WM_D hWD f g h r
  have hS : va_S (AM a) s.heap s.heap [] := va_S.rf
  have hl := lv_entry ([.ref (a 17), .int u]) (n := 2) (Nat.le_of_ble_eq_true rfl)
  rw [lg_entry_eq]
  generalize (lg_sl ([.ref (a 17), .int u]) ++ List.replicate (2 - (lg_sl ([.ref (a 17), .int u])).length) Slot.unset).toArray = ls at hl ⊢
  have hl : lv_has ls 2 [(0, .ref (a 17)), (1, .int u)] := hl
  refine lv_aload_n hx hb dM_unit_0 rfl (lv_at hl 0 rfl) ?_
  refine lv_iconst (v := nI 0) hx hb dM_unit_1 (by decide) ?_
  refine mpf_2 hx hb hz hi_M hown hK hP (hD _ _ _ _) hS (hz _ q_461) dM_unit_2 (fun H locs hP hS => ?_)
  refine lv_iload_n hx hb dM_unit_5 rfl (lv_at hl 1 rfl) ?_
  refine lv_if_lt (tgt := 25) hx hb dM_unit_6 (by decide) (fun c_6 => ?_) (fun c_6 => ?_)
  · refine lv_iconst (v := nI 0) hx hb dM_unit_25 (by decide) ?_
    exact W.zret hx hb hr rfl (fun zT zh _ => ⟨⟨_, (upd f 2 (nI 0), g, h, r), rfl, (by dsimp only; rw [if_neg (zUnF1 c_6)]; exact ⟨rfl, rfl⟩), zbw zh hP⟩, hS.F zh⟩) hS.2.2 dM_unit_26
  · refine lv_iload_n hx hb dM_unit_9 rfl (lv_at hl 1 rfl) ?_
    refine lv_sipush (v := nI 255) hx hb dM_unit_10 (by decide) ?_
    refine lv_icmp_gt (tgt := 25) hx hb dM_unit_13 (by decide) (fun c_13 => ?_) (fun c_13 => ?_)
    · refine lv_iconst (v := nI 0) hx hb dM_unit_25 (by decide) ?_
      exact W.zret hx hb hr rfl (fun zT zh _ => ⟨⟨_, (upd f 2 (nI 0), g, h, r), rfl, (by dsimp only; rw [if_neg (zUnF2 c_13)]; exact ⟨rfl, rfl⟩), zbw zh hP⟩, hS.F zh⟩) hS.2.2 dM_unit_26
    · refine lv_aload_n hx hb dM_unit_16 rfl (lv_at hl 0 rfl) ?_
      refine mgf_1 (v := nI tn) hx hb hz hi_M hown hK hP (hz _ q_460) h1 dM_unit_17 ?_
      refine lv_bipush (v := nI 80) hx hb dM_unit_20 (by decide) ?_
      refine lv_icmp_ne (tgt := 27) hx hb dM_unit_22 (by decide) (fun c_22 => ?_) (fun c_22 => ?_)
      · have c_22 := mt (nI_eq (a := tn) (b := 80) (by omega) (by omega)).mpr c_22
        refine lv_aload_n hx hb dM_unit_27 rfl (lv_at hl 0 rfl) ?_
        refine mgr_fed hx hb hz hi_M hown hK hP (hz _ q_459) dM_unit_28 ?_
        refine lv_aload_n hx hb dM_unit_31 rfl (lv_at hl 0 rfl) ?_
        refine mgf_1 (v := nI tn) hx hb hz hi_M hown hK hP (hz _ q_460) h1 dM_unit_32 ?_
        refine lv_iload_n hx hb dM_unit_35 rfl (lv_at hl 1 rfl) ?_
        refine zast (wd' := WM cA cZ cJ a (upd f 2 (nI 0)) (updA g 0 tn u) h r) hx hb hK hP (hD _ _ _ _) hS 0 0 rfl rfl tn rfl (by omega) (by decide) rfl dM_unit_36 (fun H locs hP hS => ?_)
        refine lv_aload_n hx hb dM_unit_37 rfl (lv_at hl 0 rfl) ?_
        refine lv_dup hx hb dM_unit_38 rfl ?_
        refine mgf_1 (v := nI tn) hx hb hz hi_M hown hK hP (hz _ q_460) h1 dM_unit_39 ?_
        refine lv_iconst (v := nI 1) hx hb dM_unit_42 (by decide) ?_
        refine lv_iadd hx hb dM_unit_43 ?_
        refine zt (nI_add _ _) ?_
        refine mpf_1 hx hb hz hi_M hown hK hP (hD _ _ _ _) hS (hz _ q_460) dM_unit_44 (fun H locs hP hS => ?_)
        refine lv_iconst (v := nI 1) hx hb dM_unit_47 (by decide) ?_
        exact W.zret hx hb hr rfl (fun zT zh _ => ⟨⟨_, (upd (upd f 2 (nI 0)) 1 (nI (tn + 1)), updA g 0 tn u, h, r), rfl, (by dsimp only; rw [if_pos (zUnT c_6 c_13 (by omega))]; exact ⟨rfl, rfl⟩), zbw zh hP⟩, hS.F zh⟩) hS.2.2 dM_unit_48
      · have c_22 := (nI_eq (a := tn) (b := 80) (by omega) (by omega)).mp c_22
        refine lv_iconst (v := nI 0) hx hb dM_unit_25 (by decide) ?_
        exact W.zret hx hb hr rfl (fun zT zh _ => ⟨⟨_, (upd f 2 (nI 0), g, h, r), rfl, (by dsimp only; rw [if_neg (fun q => by have := q.2.2; omega)]; exact ⟨rfl, rfl⟩), zbw zh hP⟩, hS.F zh⟩) hS.2.2 dM_unit_26

set_option maxHeartbeats 4000000 in
set_option maxRecDepth 100000 in
theorem c_M_bar (l : Launch) (dC : Nat → ClassId) (dI : Nat → Nat → Nat) (cA cZ cJ : ClassId) (a : Nat → Nat) (f : Nat → Int32) (g : Nat → Nat → Int32) (h : Nat → Int64) (r : Int64) (hWD : MDist a) (b : Bool) : Met l yM_bar wsM_bar ({ frames := 0, cells := 0, slots := 0, locals := 0 }) (va_Pc [.ref (a 17), .int (zB b)] (zPW (dC, dI) vwCl [(cA, .int), (cZ, .boolean), (cJ, .long)] (WM cA cZ cJ a f g h r))) (va_Qv (fun s : zMt => s = (upd (upd (upd f 2 (nI 0)) 7 (zB b)) 6 (nI 0), g, h, r)) (zBW (dC, dI) vwCl (fun u : zMt => WM cA cZ cJ a u.1 u.2.1 u.2.2.1 u.2.2.2)) (AM a)) 0 0 (AM a) := by
  refine Met.ofW (cc := prog_8_method_8_code) (maxL := 2) (ret := none) (by decide) rfl ?_
  intro zp ze s zm args below meth zc s₁ zBL hml hv
  obtain ⟨rfl, hP, hK, hN⟩ := hv
  have hx := zBL.exec
  have hb := zBL.bytes
  have hr := zBL.returns
  have hts := atoms_spec (ws := wsM_bar) zBL.pre
  have hz : ∀ w ∈ zBig, w.before _ s = true := fun w h => hts w (List.mem_cons_of_mem _ h)
  have hown : s.vm.findClass "LetterSumsModel" = some zm.cls := findClass_of_methodNamed zBL.named
  have hlocks := zBL.notSynchronized
  have hD : ∀ f g h r, va_D (AM a) (WM cA cZ cJ a f g h r) := fun f g h r => WM_D hWD f g h r
  have hS : va_S (AM a) s.heap s.heap [] := va_S.rf
  have hl := lv_entry ([.ref (a 17), .int (zB b)]) (n := 2) (Nat.le_of_ble_eq_true rfl)
  rw [lg_entry_eq]
  generalize (lg_sl ([.ref (a 17), .int (zB b)]) ++ List.replicate (2 - (lg_sl ([.ref (a 17), .int (zB b)])).length) Slot.unset).toArray = ls at hl ⊢
  have hl : lv_has ls 2 [(0, .ref (a 17)), (1, .int (zB b))] := hl
  refine lv_aload_n hx hb dM_bar_0 rfl (lv_at hl 0 rfl) ?_
  refine lv_iconst (v := nI 0) hx hb dM_bar_1 (by decide) ?_
  refine mpf_2 hx hb hz hi_M hown hK hP (hD _ _ _ _) hS (hz _ q_461) dM_bar_2 (fun H locs hP hS => ?_)
  refine lv_aload_n hx hb dM_bar_5 rfl (lv_at hl 0 rfl) ?_
  refine lv_iload_n hx hb dM_bar_6 rfl (lv_at hl 1 rfl) ?_
  refine mpf_7 hx hb hz hi_M hown hK hP (hD _ _ _ _) hS (hz _ q_472) (zB_nar _) (zB_fit _) dM_bar_7 (fun H locs hP hS => ?_)
  refine lv_aload_n hx hb dM_bar_10 rfl (lv_at hl 0 rfl) ?_
  refine lv_iconst (v := nI 0) hx hb dM_bar_11 (by decide) ?_
  refine mpf_6 hx hb hz hi_M hown hK hP (hD _ _ _ _) hS (hz _ q_466) dM_bar_12 (fun H locs hP hS => ?_)
  exact W.vret hx hb hr (fun zT zh _ => ⟨⟨(upd (upd (upd f 2 (nI 0)) 7 (zB b)) 6 (nI 0), g, h, r), rfl, rfl, zbw zh hP⟩, hS.F zh⟩) hS.2.2 dM_bar_15

set_option maxHeartbeats 4000000 in
set_option maxRecDepth 100000 in
theorem c_M_letters (l : Launch) (dC : Nat → ClassId) (dI : Nat → Nat → Nat) (cA cZ cJ : ClassId) (a : Nat → Nat) (f : Nat → Int32) (g : Nat → Nat → Int32) (h : Nat → Int64) (r : Int64) (hWD : MDist a) (lc : Nat) (h5 : f 5 = nI lc) : Met l yM_letters wsM_letters ({ frames := 0, cells := 0, slots := 0, locals := 0 }) (va_Pc [.ref (a 17)] (zPW (dC, dI) vwCl [(cA, .int), (cZ, .boolean), (cJ, .long)] (WM cA cZ cJ a f g h r))) (va_Qi (fun (z : Int32) (s : zMt) => z = nI lc ∧ s = (upd f 2 (nI 0), g, h, r)) (zBW (dC, dI) vwCl (fun u : zMt => WM cA cZ cJ a u.1 u.2.1 u.2.2.1 u.2.2.2)) (AM a)) 0 0 (AM a) := by
  refine Met.ofW (cc := prog_8_method_9_code) (maxL := 1) (ret := (some .int)) (by decide) rfl ?_
  intro zp ze s zm args below meth zc s₁ zBL hml hv
  obtain ⟨rfl, hP, hK, hN⟩ := hv
  have hx := zBL.exec
  have hb := zBL.bytes
  have hr := zBL.returns
  have hts := atoms_spec (ws := wsM_letters) zBL.pre
  have hz : ∀ w ∈ zBig, w.before _ s = true := fun w h => hts w (List.mem_cons_of_mem _ h)
  have hown : s.vm.findClass "LetterSumsModel" = some zm.cls := findClass_of_methodNamed zBL.named
  have hlocks := zBL.notSynchronized
  have hD : ∀ f g h r, va_D (AM a) (WM cA cZ cJ a f g h r) := fun f g h r => WM_D hWD f g h r
  have hS : va_S (AM a) s.heap s.heap [] := va_S.rf
  have hl := lv_entry ([.ref (a 17)]) (n := 1) (Nat.le_of_ble_eq_true rfl)
  rw [lg_entry_eq]
  generalize (lg_sl ([.ref (a 17)]) ++ List.replicate (1 - (lg_sl ([.ref (a 17)])).length) Slot.unset).toArray = ls at hl ⊢
  have hl : lv_has ls 1 [(0, .ref (a 17))] := hl
  refine lv_aload_n hx hb dM_letters_0 rfl (lv_at hl 0 rfl) ?_
  refine lv_iconst (v := nI 0) hx hb dM_letters_1 (by decide) ?_
  refine mpf_2 hx hb hz hi_M hown hK hP (hD _ _ _ _) hS (hz _ q_461) dM_letters_2 (fun H locs hP hS => ?_)
  refine lv_aload_n hx hb dM_letters_5 rfl (lv_at hl 0 rfl) ?_
  refine mgf_5 (v := nI lc) hx hb hz hi_M hown hK hP (hz _ q_465) h5 dM_letters_6 ?_
  exact W.iret hx hb hr (fun zT zh _ => ⟨⟨_, (upd f 2 (nI 0), g, h, r), rfl, ⟨rfl, rfl⟩, zbw zh hP⟩, hS.F zh⟩) hS.2.2 dM_letters_9
