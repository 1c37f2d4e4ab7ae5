set_option maxHeartbeats 4000000 in
set_option maxRecDepth 100000 in
theorem c_isLetter (l : Launch)  (u : Int32) : Met l yO_isLetter wsO_isLetter ({ frames := 0, cells := 0, slots := 0, locals := 0 }) (va_Pc [.int u] zNo) (vp_Si (fun r => r = (zB (zLet u)))) 0 0 (fun _ => False) := by
  refine Met.ofW (cc := prog_1_method_19_code) (maxL := 1) (ret := (some .boolean)) (by decide) rfl ?_
  intro zp ze s zm args below meth zc s₁ zBL hml hv
  obtain ⟨rfl, -⟩ := hv
  have hx := zBL.exec
  have hb := zBL.bytes
  have hr := zBL.returns
  have hts := atoms_spec (ws := wsO_isLetter) zBL.pre
  have hz : ∀ w ∈ zBig, w.before _ s = true := fun w h => hts w (List.mem_cons_of_mem _ h)
  have hown : s.vm.findClass "LetterSums" = some zm.cls := findClass_of_methodNamed zBL.named
  have hlocks := zBL.notSynchronized
  have hl := lv_entry ([.int u]) (n := 1) (Nat.le_of_ble_eq_true rfl)
  rw [lg_entry_eq]
  generalize (lg_sl ([.int u]) ++ List.replicate (1 - (lg_sl ([.int u])).length) Slot.unset).toArray = ls at hl ⊢
  have hl : lv_has ls 1 [(0, .int u)] := hl
  refine lv_iload_n hx hb dO_isLetter_0 rfl (lv_at hl 0 rfl) ?_
  refine lv_bipush (v := nI 97) hx hb dO_isLetter_1 (by decide) ?_
  refine lv_icmp_lt (tgt := 16) hx hb dO_isLetter_3 (by decide) (fun c_3 => ?_) (fun c_3 => ?_)
  · refine lv_iconst (v := nI 0) hx hb dO_isLetter_16 (by decide) ?_
    exact W.zret hx hb hr rfl (fun zT zh _ => ⟨_, rfl, (by simp [zB, zLet, c_3]), zh⟩) t_nil dO_isLetter_17
  · refine lv_iload_n hx hb dO_isLetter_6 rfl (lv_at hl 0 rfl) ?_
    refine lv_bipush (v := nI 122) hx hb dO_isLetter_7 (by decide) ?_
    refine lv_icmp_gt (tgt := 16) hx hb dO_isLetter_9 (by decide) (fun c_9 => ?_) (fun c_9 => ?_)
    · refine lv_iconst (v := nI 0) hx hb dO_isLetter_16 (by decide) ?_
      exact W.zret hx hb hr rfl (fun zT zh _ => ⟨_, rfl, (by simp [zB, zLet, c_3, c_9]), zh⟩) t_nil dO_isLetter_17
    · refine lv_iconst (v := nI 1) hx hb dO_isLetter_12 (by decide) ?_
      refine lv_goto (tgt := 17) hx hb dO_isLetter_13 (by decide) ?_
      exact W.zret hx hb hr rfl (fun zT zh _ => ⟨_, rfl, (by simp [zB, zLet, c_3, c_9]), zh⟩) t_nil dO_isLetter_17

set_option maxHeartbeats 4000000 in
set_option maxRecDepth 100000 in
theorem c_isDigit (l : Launch)  (u : Int32) : Met l yO_isDigit wsO_isDigit ({ frames := 0, cells := 0, slots := 0, locals := 0 }) (va_Pc [.int u] zNo) (vp_Si (fun r => r = (zB (zDig u)))) 0 0 (fun _ => False) := by
  refine Met.ofW (cc := prog_1_method_20_code) (maxL := 1) (ret := (some .boolean)) (by decide) rfl ?_
  intro zp ze s zm args below meth zc s₁ zBL hml hv
  obtain ⟨rfl, -⟩ := hv
  have hx := zBL.exec
  have hb := zBL.bytes
  have hr := zBL.returns
  have hts := atoms_spec (ws := wsO_isDigit) zBL.pre
  have hz : ∀ w ∈ zBig, w.before _ s = true := fun w h => hts w (List.mem_cons_of_mem _ h)
  have hown : s.vm.findClass "LetterSums" = some zm.cls := findClass_of_methodNamed zBL.named
  have hlocks := zBL.notSynchronized
  have hl := lv_entry ([.int u]) (n := 1) (Nat.le_of_ble_eq_true rfl)
  rw [lg_entry_eq]
  generalize (lg_sl ([.int u]) ++ List.replicate (1 - (lg_sl ([.int u])).length) Slot.unset).toArray = ls at hl ⊢
  have hl : lv_has ls 1 [(0, .int u)] := hl
  refine lv_iload_n hx hb dO_isDigit_0 rfl (lv_at hl 0 rfl) ?_
  refine lv_bipush (v := nI 48) hx hb dO_isDigit_1 (by decide) ?_
  refine lv_icmp_lt (tgt := 16) hx hb dO_isDigit_3 (by decide) (fun c_3 => ?_) (fun c_3 => ?_)
  · refine lv_iconst (v := nI 0) hx hb dO_isDigit_16 (by decide) ?_
    exact W.zret hx hb hr rfl (fun zT zh _ => ⟨_, rfl, (by simp [zB, zDig, c_3]), zh⟩) t_nil dO_isDigit_17
  · refine lv_iload_n hx hb dO_isDigit_6 rfl (lv_at hl 0 rfl) ?_
    refine lv_bipush (v := nI 57) hx hb dO_isDigit_7 (by decide) ?_
    refine lv_icmp_gt (tgt := 16) hx hb dO_isDigit_9 (by decide) (fun c_9 => ?_) (fun c_9 => ?_)
    · refine lv_iconst (v := nI 0) hx hb dO_isDigit_16 (by decide) ?_
      exact W.zret hx hb hr rfl (fun zT zh _ => ⟨_, rfl, (by simp [zB, zDig, c_3, c_9]), zh⟩) t_nil dO_isDigit_17
    · refine lv_iconst (v := nI 1) hx hb dO_isDigit_12 (by decide) ?_
      refine lv_goto (tgt := 17) hx hb dO_isDigit_13 (by decide) ?_
      exact W.zret hx hb hr rfl (fun zT zh _ => ⟨_, rfl, (by simp [zB, zDig, c_3, c_9]), zh⟩) t_nil dO_isDigit_17

set_option maxHeartbeats 4000000 in
set_option maxRecDepth 100000 in
theorem c_digitOf (l : Launch)  (x k : Int32) : Met l yO_digitOf wsO_digitOf ({ frames := 0, cells := 0, slots := 0, locals := 0 }) (va_Pc [.int x, .int k] zNo) (vp_Si (fun r => r = (zDo x k))) 0 0 (fun _ => False) := by
  refine Met.ofW (cc := prog_1_method_21_code) (maxL := 2) (ret := (some .int)) (by decide) rfl ?_
  intro zp ze s zm args below meth zc s₁ zBL hml hv
  obtain ⟨rfl, -⟩ := hv
  have hx := zBL.exec
  have hb := zBL.bytes
  have hr := zBL.returns
  have hts := atoms_spec (ws := wsO_digitOf) zBL.pre
  have hz : ∀ w ∈ zBig, w.before _ s = true := fun w h => hts w (List.mem_cons_of_mem _ h)
  have hown : s.vm.findClass "LetterSums" = some zm.cls := findClass_of_methodNamed zBL.named
  have hlocks := zBL.notSynchronized
  have hl := lv_entry ([.int x, .int k]) (n := 2) (Nat.le_of_ble_eq_true rfl)
  rw [lg_entry_eq]
  generalize (lg_sl ([.int x, .int k]) ++ List.replicate (2 - (lg_sl ([.int x, .int k])).length) Slot.unset).toArray = ls at hl ⊢
  have hl : lv_has ls 2 [(0, .int x), (1, .int k)] := hl
  refine lv_iload_n hx hb dO_digitOf_0 rfl (lv_at hl 0 rfl) ?_
  refine lv_iconst (v := nI 4) hx hb dO_digitOf_1 (by decide) ?_
  refine lv_iload_n hx hb dO_digitOf_2 rfl (lv_at hl 1 rfl) ?_
  refine lv_imul hx hb dO_digitOf_3 ?_
  refine lv_iushr (v := (x.toUInt32 >>> (((nI 4) * k).toUInt32 &&& Int32.toUInt32 31)).toInt32) hx hb dO_digitOf_4 rfl ?_
  refine lv_bipush (v := nI 15) hx hb dO_digitOf_5 (by decide) ?_
  refine lv_iand hx hb dO_digitOf_7 ?_
  exact W.iret hx hb hr (fun zT zh _ => ⟨_, rfl, rfl, zh⟩) t_nil dO_digitOf_8

set_option maxHeartbeats 4000000 in
set_option maxRecDepth 100000 in
theorem c_withDigit (l : Launch)  (x k d : Int32) : Met l yO_withDigit wsO_withDigit ({ frames := 0, cells := 0, slots := 0, locals := 0 }) (va_Pc [.int x, .int k, .int d] zNo) (vp_Si (fun r => r = (zWd x k d))) 0 0 (fun _ => False) := by
  refine Met.ofW (cc := prog_1_method_22_code) (maxL := 3) (ret := (some .int)) (by decide) rfl ?_
  intro zp ze s zm args below meth zc s₁ zBL hml hv
  obtain ⟨rfl, -⟩ := hv
  have hx := zBL.exec
  have hb := zBL.bytes
  have hr := zBL.returns
  have hts := atoms_spec (ws := wsO_withDigit) zBL.pre
  have hz : ∀ w ∈ zBig, w.before _ s = true := fun w h => hts w (List.mem_cons_of_mem _ h)
  have hown : s.vm.findClass "LetterSums" = some zm.cls := findClass_of_methodNamed zBL.named
  have hlocks := zBL.notSynchronized
  have hl := lv_entry ([.int x, .int k, .int d]) (n := 3) (Nat.le_of_ble_eq_true rfl)
  rw [lg_entry_eq]
  generalize (lg_sl ([.int x, .int k, .int d]) ++ List.replicate (3 - (lg_sl ([.int x, .int k, .int d])).length) Slot.unset).toArray = ls at hl ⊢
  have hl : lv_has ls 3 [(0, .int x), (1, .int k), (2, .int d)] := hl
  refine lv_iload_n hx hb dO_withDigit_0 rfl (lv_at hl 0 rfl) ?_
  refine lv_iload_n hx hb dO_withDigit_1 rfl (lv_at hl 2 rfl) ?_
  refine lv_iconst (v := nI 4) hx hb dO_withDigit_2 (by decide) ?_
  refine lv_iload_n hx hb dO_withDigit_3 rfl (lv_at hl 1 rfl) ?_
  refine lv_imul hx hb dO_withDigit_4 ?_
  refine lv_ishl hx hb dO_withDigit_5 ?_
  refine lv_ior hx hb dO_withDigit_6 ?_
  exact W.iret hx hb hr (fun zT zh _ => ⟨_, rfl, rfl, zh⟩) t_nil dO_withDigit_7

set_option maxHeartbeats 4000000 in
set_option maxRecDepth 100000 in
theorem c_forget (l : Launch) (dC : Nat → ClassId) (dI : Nat → Nat → Nat) (cA : ClassId) (a : Nat → Nat) (f : Nat → Int32) (g : Nat → Nat → Int32) (hWD : WDist a)  : Met l yA_forget wsA_forget ({ frames := 0, cells := 0, slots := 0, locals := 0 }) (va_Pc [.ref (a 16)] (zPW (dC, dI) vwCl [(cA, .int)] (WT cA a f g))) (va_Qv (fun u => u = (upd (upd f 22 (nI 0)) 23 (nI 0), g)) (zBW (dC, dI) vwCl (fun u : zSt => WT cA a u.1 u.2)) (AT a)) 0 0 (AT a) := by
  refine Met.ofW (cc := prog_2_method_2_code) (maxL := 1) (ret := none) (by decide) rfl ?_
  intro zp ze s zm args below meth zc s₁ zBL hml hv
  obtain ⟨rfl, hP, hK, hN⟩ := hv
  have hx := zBL.exec
  have hb := zBL.bytes
  have hr := zBL.returns
  have hts := atoms_spec (ws := wsA_forget) zBL.pre
  have hz : ∀ w ∈ zBig, w.before _ s = true := fun w h => hts w (List.mem_cons_of_mem _ h)
  have hown : s.vm.findClass "LetterSums$Answers" = some zm.cls := findClass_of_methodNamed zBL.named
  have hlocks := zBL.notSynchronized
  have hD : ∀ f g, va_D (AT a) (WT cA a f g) := fun f g => WT_D hWD f g
  have hS : va_S (AT a) s.heap s.heap [] := va_S.rf
  have hl := lv_entry ([.ref (a 16)]) (n := 1) (Nat.le_of_ble_eq_true rfl)
  rw [lg_entry_eq]
  generalize (lg_sl ([.ref (a 16)]) ++ List.replicate (1 - (lg_sl ([.ref (a 16)])).length) Slot.unset).toArray = ls at hl ⊢
  have hl : lv_has ls 1 [(0, .ref (a 16))] := hl
  refine lv_aload_n hx hb dA_forget_0 rfl (lv_at hl 0 rfl) ?_
  refine lv_iconst (v := nI 0) hx hb dA_forget_1 (by decide) ?_
  refine pf_22 hx hb hz hi_A hown hK hP (hD _ _) hS (hz _ q_26) dA_forget_2 (fun H locs hP hS => ?_)
  refine lv_aload_n hx hb dA_forget_5 rfl (lv_at hl 0 rfl) ?_
  refine lv_iconst (v := nI 0) hx hb dA_forget_6 (by decide) ?_
  refine pf_23 hx hb hz hi_A hown hK hP (hD _ _) hS (hz _ q_28) (by decide) (by decide) dA_forget_7 (fun H locs hP hS => ?_)
  exact W.vret hx hb hr (fun zT zh _ => ⟨⟨(upd (upd f 22 (nI 0)) 23 (nI 0), g), rfl, rfl, zbw zh hP⟩, hS.F zh⟩) hS.2.2 dA_forget_10

set_option maxHeartbeats 4000000 in
set_option maxRecDepth 100000 in
theorem c_isFull (l : Launch) (dC : Nat → ClassId) (dI : Nat → Nat → Nat) (cA : ClassId) (a : Nat → Nat) (f : Nat → Int32) (g : Nat → Nat → Int32) (n : Nat) (hn : n ≤ 1000) (h22 : f 22 = nI n) : Met l yA_isFull wsA_isFull ({ frames := 0, cells := 0, slots := 0, locals := 0 }) (va_Pc [.ref (a 16)] (zPW (dC, dI) vwCl [(cA, .int)] (WT cA a f g))) (vp_Si (fun r => r = (zB (decide (1000 ≤ n))))) 0 0 (fun _ => False) := by
  refine Met.ofW (cc := prog_2_method_4_code) (maxL := 1) (ret := (some .boolean)) (by decide) rfl ?_
  intro zp ze s zm args below meth zc s₁ zBL hml hv
  obtain ⟨rfl, hP, hK, hN⟩ := hv
  have hx := zBL.exec
  have hb := zBL.bytes
  have hr := zBL.returns
  have hts := atoms_spec (ws := wsA_isFull) zBL.pre
  have hz : ∀ w ∈ zBig, w.before _ s = true := fun w h => hts w (List.mem_cons_of_mem _ h)
  have hown : s.vm.findClass "LetterSums$Answers" = some zm.cls := findClass_of_methodNamed zBL.named
  have hlocks := zBL.notSynchronized
  have hl := lv_entry ([.ref (a 16)]) (n := 1) (Nat.le_of_ble_eq_true rfl)
  rw [lg_entry_eq]
  generalize (lg_sl ([.ref (a 16)]) ++ List.replicate (1 - (lg_sl ([.ref (a 16)])).length) Slot.unset).toArray = ls at hl ⊢
  have hl : lv_has ls 1 [(0, .ref (a 16))] := hl
  refine lv_aload_n hx hb dA_isFull_0 rfl (lv_at hl 0 rfl) ?_
  refine gf_22 (v := nI n) hx hb hz hi_A hown hK hP (hz _ q_26) h22 dA_isFull_1 ?_
  refine lv_aload_n hx hb dA_isFull_4 rfl (lv_at hl 0 rfl) ?_
  refine gr_16_packed hx hb hz hi_A hown hK hP (hz _ q_25) dA_isFull_5 ?_
  refine zalen hx hb hK hP 17 0 rfl rfl dA_isFull_8 ?_
  refine lv_icmp_lt (tgt := 16) hx hb dA_isFull_9 (by decide) (fun c_9 => ?_) (fun c_9 => ?_)
  · have c_9 := (nI_ltI (a := n) (b := 1000) (by omega) (by omega)).mp c_9
    refine lv_iconst (v := nI 0) hx hb dA_isFull_16 (by decide) ?_
    exact W.zret hx hb hr rfl (fun zT zh _ => ⟨_, rfl, (by rw [decide_eq_false (by omega)]; rfl), zh⟩) t_nil dA_isFull_17
  · have c_9 := mt (nI_ltI (a := n) (b := 1000) (by omega) (by omega)).mpr c_9
    refine lv_iconst (v := nI 1) hx hb dA_isFull_12 (by decide) ?_
    refine lv_goto (tgt := 17) hx hb dA_isFull_13 (by decide) ?_
    exact W.zret hx hb hr rfl (fun zT zh _ => ⟨_, rfl, (by rw [decide_eq_true (by omega)]; rfl), zh⟩) t_nil dA_isFull_17

set_option maxHeartbeats 4000000 in
set_option maxRecDepth 100000 in
theorem c_get (l : Launch) (dC : Nat → ClassId) (dI : Nat → Nat → Nat) (cA : ClassId) (a : Nat → Nat) (f : Nat → Int32) (g : Nat → Nat → Int32) (k : Int32) (n : Nat) (hn : n ≤ 1000) (h22 : f 22 = nI n) : Met l yA_get wsA_get ({ frames := 0, cells := 0, slots := 0, locals := 0 }) (va_Pc [.ref (a 16), .int k] (zPW (dC, dI) vwCl [(cA, .int)] (WT cA a f g))) (vp_Si (fun r => r = (zAt (nI 0) (g 12) n k))) 0 0 (fun _ => False) := by
  refine Met.ofW (cc := prog_2_method_5_code) (maxL := 2) (ret := (some .int)) (by decide) rfl ?_
  intro zp ze s zm args below meth zc s₁ zBL hml hv
  obtain ⟨rfl, hP, hK, hN⟩ := hv
  have hx := zBL.exec
  have hb := zBL.bytes
  have hr := zBL.returns
  have hts := atoms_spec (ws := wsA_get) zBL.pre
  have hz : ∀ w ∈ zBig, w.before _ s = true := fun w h => hts w (List.mem_cons_of_mem _ h)
  have hown : s.vm.findClass "LetterSums$Answers" = some zm.cls := findClass_of_methodNamed zBL.named
  have hlocks := zBL.notSynchronized
  have hl := lv_entry ([.ref (a 16), .int k]) (n := 2) (Nat.le_of_ble_eq_true rfl)
  rw [lg_entry_eq]
  generalize (lg_sl ([.ref (a 16), .int k]) ++ List.replicate (2 - (lg_sl ([.ref (a 16), .int k])).length) Slot.unset).toArray = ls at hl ⊢
  have hl : lv_has ls 2 [(0, .ref (a 16)), (1, .int k)] := hl
  refine lv_iload_n hx hb dA_get_0 rfl (lv_at hl 1 rfl) ?_
  refine lv_if_lt (tgt := 21) hx hb dA_get_1 (by decide) (fun c_1 => ?_) (fun c_1 => ?_)
  · refine lv_iconst (v := nI 0) hx hb dA_get_21 (by decide) ?_
    exact W.iret hx hb hr (fun zT zh _ => ⟨_, rfl, (zAt_neg c_1).symm, zh⟩) t_nil dA_get_22
  · refine lv_iload_n hx hb dA_get_4 rfl (lv_at hl 1 rfl) ?_
    refine lv_aload_n hx hb dA_get_5 rfl (lv_at hl 0 rfl) ?_
    refine gf_22 (v := nI n) hx hb hz hi_A hown hK hP (hz _ q_26) h22 dA_get_6 ?_
    refine lv_icmp_ge (tgt := 21) hx hb dA_get_9 (by decide) (fun c_9 => ?_) (fun c_9 => ?_)
    · refine lv_iconst (v := nI 0) hx hb dA_get_21 (by decide) ?_
      exact W.iret hx hb hr (fun zT zh _ => ⟨_, rfl, (zAt_big (by omega) c_9).symm, zh⟩) t_nil dA_get_22
    · obtain ⟨j, hj, hk⟩ := zAt_ix (n := n) (by omega) c_1 c_9
      refine lv_aload_n hx hb dA_get_12 rfl (lv_at hl 0 rfl) ?_
      refine gr_16_packed hx hb hz hi_A hown hK hP (hz _ q_25) dA_get_13 ?_
      refine lv_iload_n hx hb dA_get_16 rfl (lv_at hl 1 rfl) ?_
      refine zald (v := g 12 j) hx hb hK hP 17 0 rfl rfl j hk (by omega) (by decide) rfl dA_get_17 ?_
      refine lv_goto (tgt := 22) hx hb dA_get_18 (by decide) ?_
      exact W.iret hx hb hr (fun zT zh _ => ⟨_, rfl, (zAt_in (by omega) hj hk).symm, zh⟩) t_nil dA_get_22

set_option maxHeartbeats 4000000 in
set_option maxRecDepth 100000 in
theorem c_add (l : Launch) (dC : Nat → ClassId) (dI : Nat → Nat → Nat) (cA : ClassId) (a : Nat → Nat) (f : Nat → Int32) (g : Nat → Nat → Int32) (hWD : WDist a) (x : Int32) (n : Nat) (hn : n ≤ 1000) (h22 : f 22 = nI n) : Met l yA_add wsA_add ({ frames := 1, cells := 0, slots := 0, locals := 20 }) (va_Pc [.ref (a 16), .int x] (zPW (dC, dI) vwCl [(cA, .int)] (WT cA a f g))) (va_Qv (fun u => u = if n < 1000 then (upd f 22 (nI (n + 1)), updA g 12 n x) else (f, g)) (zBW (dC, dI) vwCl (fun u : zSt => WT cA a u.1 u.2)) (AT a)) 0 0 (AT a) := by
  refine Met.ofW (cc := prog_2_method_3_code) (maxL := 2) (ret := none) (by decide) rfl ?_
  intro zp ze s zm args below meth zc s₁ zBL hml hv
  obtain ⟨rfl, hP, hK, hN⟩ := hv
  have hx := zBL.exec
  have hb := zBL.bytes
  have hr := zBL.returns
  have hts := atoms_spec (ws := wsA_add) zBL.pre
  have hz : ∀ w ∈ zBig, w.before _ s = true := fun w h => hts w (List.mem_cons_of_mem _ h)
  have hown : s.vm.findClass "LetterSums$Answers" = some zm.cls := findClass_of_methodNamed zBL.named
  have hlocks := zBL.notSynchronized
  have hD : ∀ f g, va_D (AT a) (WT cA a f g) := fun f g => WT_D hWD f g
  have hS : va_S (AT a) s.heap s.heap [] := va_S.rf
  have hl := lv_entry ([.ref (a 16), .int x]) (n := 2) (Nat.le_of_ble_eq_true rfl)
  rw [lg_entry_eq]
  generalize (lg_sl ([.ref (a 16), .int x]) ++ List.replicate (2 - (lg_sl ([.ref (a 16), .int x])).length) Slot.unset).toArray = ls at hl ⊢
  have hl : lv_has ls 2 [(0, .ref (a 16)), (1, .int x)] := hl
  refine lv_aload_n hx hb dA_add_0 rfl (lv_at hl 0 rfl) ?_
  refine zq_e (zrV (rest := []) ⟨hx, hb, hml, hown, hz⟩ (c_isFull l dC dI cA a f g n hn h22) ⟨zcB 0 hz q_371 q_2 q_374 (by decide +kernel) rfl rfl ⟨Nat.le_of_ble_eq_true rfl, Nat.le_of_ble_eq_true rfl⟩, hz _ q_372, hz _ q_373⟩ hK hN hP 16 1 rfl rfl rfl rfl hl.1 rfl (Nat.le_of_ble_eq_true rfl) dA_add_1 ⟨Nat.zero_le _, Nat.zero_le _⟩) ?_
  refine lv_if_ne (tgt := 27) hx hb dA_add_4 (by decide) (fun c_4 => ?_) (fun c_4 => ?_)
  · have c_4 : ¬ n < 1000 := Nat.not_lt.mpr (of_decide_eq_true (zB_n0 c_4))
    exact W.vret hx hb hr (fun zT zh _ => ⟨⟨(f, g), rfl, (by rw [if_neg c_4]), zbw zh hP⟩, hS.F zh⟩) hS.2.2 dA_add_27
  · have c_4 : n < 1000 := Nat.not_le.mp (zB_d0.mp c_4)
    refine lv_aload_n hx hb dA_add_7 rfl (lv_at hl 0 rfl) ?_
    refine gr_16_packed hx hb hz hi_A hown hK hP (hz _ q_25) dA_add_8 ?_
    refine lv_aload_n hx hb dA_add_11 rfl (lv_at hl 0 rfl) ?_
    refine gf_22 (v := nI n) hx hb hz hi_A hown hK hP (hz _ q_26) h22 dA_add_12 ?_
    refine lv_iload_n hx hb dA_add_15 rfl (lv_at hl 1 rfl) ?_
    refine zast (wd' := WT cA a f (updA g 12 n x)) hx hb hK hP (hD _ _) hS 17 0 rfl rfl n rfl (by omega) (by decide) rfl dA_add_16 (fun H locs hP hS => ?_)
    refine lv_aload_n hx hb dA_add_17 rfl (lv_at hl 0 rfl) ?_
    refine lv_dup hx hb dA_add_18 rfl ?_
    refine gf_22 (v := nI n) hx hb hz hi_A hown hK hP (hz _ q_26) h22 dA_add_19 ?_
    refine lv_iconst (v := nI 1) hx hb dA_add_22 (by decide) ?_
    refine lv_iadd hx hb dA_add_23 ?_
    refine zt (nI_add _ _) ?_
    refine pf_22 hx hb hz hi_A hown hK hP (hD _ _) hS (hz _ q_26) dA_add_24 (fun H locs hP hS => ?_)
    exact W.vret hx hb hr (fun zT zh _ => ⟨⟨(upd f 22 (nI (n + 1)), updA g 12 n x), rfl, (by rw [if_pos c_4]), zbw zh hP⟩, hS.F zh⟩) hS.2.2 dA_add_27

set_option maxHeartbeats 4000000 in
set_option maxRecDepth 100000 in
theorem c_endsWord (l : Launch) (dC : Nat → ClassId) (dI : Nat → Nat → Nat) (cA : ClassId) (a : Nat → Nat) (f : Nat → Int32) (g : Nat → Nat → Int32) (hWD : WDist a) (w sg sn : Nat) (bh : Bool) (h4 : f 4 = nI w) (h5 : f 5 = nI sg) (h6 : f 6 = nI sn) (h7 : f 7 = zB bh) (hw : w ≤ 1000) (hs : sg ≤ 1000) : Met l yG_endsWord wsG_endsWord ({ frames := 0, cells := 0, slots := 0, locals := 0 }) (va_Pc [.ref (a 1)] (zPW (dC, dI) vwCl [(cA, .int)] (WT cA a f g))) (va_Qi (fun r u => r = zB (gEnd w sg sn bh).1 ∧ u = (gF f (gEnd w sg sn bh).2.1 (gEnd w sg sn bh).2.2.1 (gEnd w sg sn bh).2.2.2.1 (gEnd w sg sn bh).2.2.2.2, g)) (zBW (dC, dI) vwCl (fun u : zSt => WT cA a u.1 u.2)) (AT a)) 0 0 (AT a) := by
  refine Met.ofW (cc := prog_3_method_7_code) (maxL := 2) (ret := (some .boolean)) (by decide) rfl ?_
  intro zp ze s zm args below meth zc s₁ zBL hml hv
  obtain ⟨rfl, hP, hK, hN⟩ := hv
  have hx := zBL.exec
  have hb := zBL.bytes
  have hr := zBL.returns
  have hts := atoms_spec (ws := wsG_endsWord) zBL.pre
  have hz : ∀ w ∈ zBig, w.before _ s = true := fun w h => hts w (List.mem_cons_of_mem _ h)
  have hown : s.vm.findClass "LetterSums$Grammar" = some zm.cls := findClass_of_methodNamed zBL.named
  have hlocks := zBL.notSynchronized
  have hD : ∀ f g, va_D (AT a) (WT cA a f g) := fun f g => WT_D hWD f g
  have hS : va_S (AT a) s.heap s.heap [] := va_S.rf
  have hl := lv_entry ([.ref (a 1)]) (n := 2) (Nat.le_of_ble_eq_true rfl)
  rw [lg_entry_eq]
  generalize (lg_sl ([.ref (a 1)]) ++ List.replicate (2 - (lg_sl ([.ref (a 1)])).length) Slot.unset).toArray = ls at hl ⊢
  have hl : lv_has ls 2 [(0, .ref (a 1))] := hl
  refine lv_aload_n hx hb dG_endsWord_0 rfl (lv_at hl 0 rfl) ?_
  refine gf_5 (v := nI sg) hx hb hz hi_G hown hK hP (hz _ q_52) h5 dG_endsWord_1 ?_
  refine lv_if_le (tgt := 11) hx hb dG_endsWord_4 (by decide) (fun c_4 => ?_) (fun c_4 => ?_)
  · have c_4 := (nI_leI (a := sg) (b := 0) (by omega) (by omega)).mp c_4
    refine lv_iconst (v := nI 0) hx hb dG_endsWord_11 (by decide) ?_
    refine lv_istore_n (lv' := [(1, .int (nI 0)), (0, .ref (a 1))]) hx hb dG_endsWord_12 rfl hl (by decide) rfl (fun ls hl => ?_)
    refine lv_aload_n hx hb dG_endsWord_13 rfl (lv_at hl 1 rfl) ?_
    refine lv_iconst (v := nI 0) hx hb dG_endsWord_14 (by decide) ?_
    refine pf_5 hx hb hz hi_G hown hK hP (hD _ _) hS (hz _ q_52) dG_endsWord_15 (fun H locs hP hS => ?_)
    refine lv_iload_n hx hb dG_endsWord_18 rfl (lv_at hl 0 rfl) ?_
    exact W.zret hx hb hr rfl (fun zT zh _ => ⟨⟨_, (upd f 5 (nI 0), g), rfl, ⟨by rw [gEnd, decide_eq_false (by omega)]; rfl, Prod.ext (gF_ext h4 rfl h6 h7 (fun j j4 j5 j6 j7 => by simp [upd, j4, j5, j6, j7])) rfl⟩, zbw zh hP⟩, hS.F zh⟩) hS.2.2 dG_endsWord_19
  · have c_4 := mt (nI_leI (a := sg) (b := 0) (by omega) (by omega)).mpr c_4
    refine lv_iconst (v := nI 1) hx hb dG_endsWord_7 (by decide) ?_
    refine lv_goto (tgt := 12) hx hb dG_endsWord_8 (by decide) ?_
    refine lv_istore_n (lv' := [(1, .int (nI 1)), (0, .ref (a 1))]) hx hb dG_endsWord_12 rfl hl (by decide) rfl (fun ls hl => ?_)
    refine lv_aload_n hx hb dG_endsWord_13 rfl (lv_at hl 1 rfl) ?_
    refine lv_iconst (v := nI 0) hx hb dG_endsWord_14 (by decide) ?_
    refine pf_5 hx hb hz hi_G hown hK hP (hD _ _) hS (hz _ q_52) dG_endsWord_15 (fun H locs hP hS => ?_)
    refine lv_iload_n hx hb dG_endsWord_18 rfl (lv_at hl 0 rfl) ?_
    exact W.zret hx hb hr rfl (fun zT zh _ => ⟨⟨_, (upd f 5 (nI 0), g), rfl, ⟨by rw [gEnd, decide_eq_true (by omega)]; rfl, Prod.ext (gF_ext h4 rfl h6 h7 (fun j j4 j5 j6 j7 => by simp [upd, j4, j5, j6, j7])) rfl⟩, zbw zh hP⟩, hS.F zh⟩) hS.2.2 dG_endsWord_19

set_option maxHeartbeats 4000000 in
set_option maxRecDepth 100000 in
theorem c_admitsSign (l : Launch) (dC : Nat → ClassId) (dI : Nat → Nat → Nat) (cA : ClassId) (a : Nat → Nat) (f : Nat → Int32) (g : Nat → Nat → Int32) (hWD : WDist a) (w sg sn : Nat) (bh : Bool) (h4 : f 4 = nI w) (h5 : f 5 = nI sg) (h6 : f 6 = nI sn) (h7 : f 7 = zB bh) (hw : w ≤ 1000) (hs : sg ≤ 1000) : Met l yG_admitsSign wsG_admitsSign ({ frames := 0, cells := 0, slots := 0, locals := 0 }) (va_Pc [.ref (a 1)] (zPW (dC, dI) vwCl [(cA, .int)] (WT cA a f g))) (va_Qi (fun r u => r = zB (gSign w sg sn bh).1 ∧ u = (gF f (gSign w sg sn bh).2.1 (gSign w sg sn bh).2.2.1 (gSign w sg sn bh).2.2.2.1 (gSign w sg sn bh).2.2.2.2, g)) (zBW (dC, dI) vwCl (fun u : zSt => WT cA a u.1 u.2)) (AT a)) 0 0 (AT a) := by
  refine Met.ofW (cc := prog_3_method_5_code) (maxL := 1) (ret := (some .boolean)) (by decide) rfl ?_
  intro zp ze s zm args below meth zc s₁ zBL hml hv
  obtain ⟨rfl, hP, hK, hN⟩ := hv
  have hx := zBL.exec
  have hb := zBL.bytes
  have hr := zBL.returns
  have hts := atoms_spec (ws := wsG_admitsSign) zBL.pre
  have hz : ∀ w ∈ zBig, w.before _ s = true := fun w h => hts w (List.mem_cons_of_mem _ h)
  have hown : s.vm.findClass "LetterSums$Grammar" = some zm.cls := findClass_of_methodNamed zBL.named
  have hlocks := zBL.notSynchronized
  have hD : ∀ f g, va_D (AT a) (WT cA a f g) := fun f g => WT_D hWD f g
  have hS : va_S (AT a) s.heap s.heap [] := va_S.rf
  have hl := lv_entry ([.ref (a 1)]) (n := 1) (Nat.le_of_ble_eq_true rfl)
  rw [lg_entry_eq]
  generalize (lg_sl ([.ref (a 1)]) ++ List.replicate (1 - (lg_sl ([.ref (a 1)])).length) Slot.unset).toArray = ls at hl ⊢
  have hl : lv_has ls 1 [(0, .ref (a 1))] := hl
  refine lv_aload_n hx hb dG_admitsSign_0 rfl (lv_at hl 0 rfl) ?_
  refine gf_5 (v := nI sg) hx hb hz hi_G hown hK hP (hz _ q_52) h5 dG_admitsSign_1 ?_
  refine lv_if_ne (tgt := 17) hx hb dG_admitsSign_4 (by decide) (fun c_4 => ?_) (fun c_4 => ?_)
  · have c_4 := mt (nI_eq (a := sg) (b := 0) (by omega) (by omega)).mpr c_4
    refine lv_aload_n hx hb dG_admitsSign_17 rfl (lv_at hl 0 rfl) ?_
    refine lv_dup hx hb dG_admitsSign_18 rfl ?_
    refine gf_5 (v := nI sg) hx hb hz hi_G hown hK hP (hz _ q_52) h5 dG_admitsSign_19 ?_
    refine lv_iconst (v := nI 1) hx hb dG_admitsSign_22 (by decide) ?_
    refine lv_iadd hx hb dG_admitsSign_23 ?_
    refine zt (nI_add _ _) ?_
    refine pf_5 hx hb hz hi_G hown hK hP (hD _ _) hS (hz _ q_52) dG_admitsSign_24 (fun H locs hP hS => ?_)
    refine lv_aload_n hx hb dG_admitsSign_27 rfl (lv_at hl 0 rfl) ?_
    refine gf_4 (v := nI w) hx hb hz hi_G hown hK hP (hz _ q_51) h4 dG_admitsSign_28 ?_
    refine lv_bipush (v := nI 8) hx hb dG_admitsSign_31 (by decide) ?_
    refine lv_icmp_gt (tgt := 49) hx hb dG_admitsSign_33 (by decide) (fun c_33 => ?_) (fun c_33 => ?_)
    · have c_33 := (nI_ltI (a := 8) (b := w) (by omega) (by omega)).mp c_33
      refine lv_iconst (v := nI 0) hx hb dG_admitsSign_49 (by decide) ?_
      exact W.zret hx hb hr rfl (fun zT zh _ => ⟨⟨_, (upd f 5 (nI (sg + 1)), g), rfl, ⟨(by unfold gSign; rw [if_neg c_4]; rw [decide_eq_false (by omega)]; rfl), Prod.ext (gF_ext (by show _ = nI (if sg = 0 then w + 1 else w); rw [if_neg c_4]; exact h4) rfl h6 h7 (fun j j4 j5 j6 j7 => by simp [upd, j4, j5, j6, j7])) rfl⟩, zbw zh hP⟩, hS.F zh⟩) hS.2.2 dG_admitsSign_50
    · have c_33 := mt (nI_ltI (a := 8) (b := w) (by omega) (by omega)).mpr c_33
      refine lv_aload_n hx hb dG_admitsSign_36 rfl (lv_at hl 0 rfl) ?_
      refine gf_5 (v := nI (sg + 1)) hx hb hz hi_G hown hK hP (hz _ q_52) rfl dG_admitsSign_37 ?_
      refine lv_bipush (v := nI 8) hx hb dG_admitsSign_40 (by decide) ?_
      refine lv_icmp_gt (tgt := 49) hx hb dG_admitsSign_42 (by decide) (fun c_42 => ?_) (fun c_42 => ?_)
      · have c_42 := (nI_ltI (a := 8) (b := (sg + 1)) (by omega) (by omega)).mp c_42
        refine lv_iconst (v := nI 0) hx hb dG_admitsSign_49 (by decide) ?_
        exact W.zret hx hb hr rfl (fun zT zh _ => ⟨⟨_, (upd f 5 (nI (sg + 1)), g), rfl, ⟨(by unfold gSign; rw [if_neg c_4]; rw [decide_eq_false (p := sg + 1 ≤ 8) (by omega), Bool.and_false]; rfl), Prod.ext (gF_ext (by show _ = nI (if sg = 0 then w + 1 else w); rw [if_neg c_4]; exact h4) rfl h6 h7 (fun j j4 j5 j6 j7 => by simp [upd, j4, j5, j6, j7])) rfl⟩, zbw zh hP⟩, hS.F zh⟩) hS.2.2 dG_admitsSign_50
      · have c_42 := mt (nI_ltI (a := 8) (b := (sg + 1)) (by omega) (by omega)).mpr c_42
        refine lv_iconst (v := nI 1) hx hb dG_admitsSign_45 (by decide) ?_
        refine lv_goto (tgt := 50) hx hb dG_admitsSign_46 (by decide) ?_
        exact W.zret hx hb hr rfl (fun zT zh _ => ⟨⟨_, (upd f 5 (nI (sg + 1)), g), rfl, ⟨(by unfold gSign; rw [if_neg c_4]; rw [decide_eq_true (by omega), decide_eq_true (by omega)]; rfl), Prod.ext (gF_ext (by show _ = nI (if sg = 0 then w + 1 else w); rw [if_neg c_4]; exact h4) rfl h6 h7 (fun j j4 j5 j6 j7 => by simp [upd, j4, j5, j6, j7])) rfl⟩, zbw zh hP⟩, hS.F zh⟩) hS.2.2 dG_admitsSign_50
  · have c_4 := (nI_eq (a := sg) (b := 0) (by omega) (by omega)).mp c_4
    refine lv_aload_n hx hb dG_admitsSign_7 rfl (lv_at hl 0 rfl) ?_
    refine lv_dup hx hb dG_admitsSign_8 rfl ?_
    refine gf_4 (v := nI w) hx hb hz hi_G hown hK hP (hz _ q_51) h4 dG_admitsSign_9 ?_
    refine lv_iconst (v := nI 1) hx hb dG_admitsSign_12 (by decide) ?_
    refine lv_iadd hx hb dG_admitsSign_13 ?_
    refine zt (nI_add _ _) ?_
    refine pf_4 hx hb hz hi_G hown hK hP (hD _ _) hS (hz _ q_51) dG_admitsSign_14 (fun H locs hP hS => ?_)
    refine lv_aload_n hx hb dG_admitsSign_17 rfl (lv_at hl 0 rfl) ?_
    refine lv_dup hx hb dG_admitsSign_18 rfl ?_
    refine gf_5 (v := nI sg) hx hb hz hi_G hown hK hP (hz _ q_52) h5 dG_admitsSign_19 ?_
    refine lv_iconst (v := nI 1) hx hb dG_admitsSign_22 (by decide) ?_
    refine lv_iadd hx hb dG_admitsSign_23 ?_
    refine zt (nI_add _ _) ?_
    refine pf_5 hx hb hz hi_G hown hK hP (hD _ _) hS (hz _ q_52) dG_admitsSign_24 (fun H locs hP hS => ?_)
    refine lv_aload_n hx hb dG_admitsSign_27 rfl (lv_at hl 0 rfl) ?_
    refine gf_4 (v := nI (w + 1)) hx hb hz hi_G hown hK hP (hz _ q_51) rfl dG_admitsSign_28 ?_
    refine lv_bipush (v := nI 8) hx hb dG_admitsSign_31 (by decide) ?_
    refine lv_icmp_gt (tgt := 49) hx hb dG_admitsSign_33 (by decide) (fun c_33 => ?_) (fun c_33 => ?_)
    · have c_33 := (nI_ltI (a := 8) (b := (w + 1)) (by omega) (by omega)).mp c_33
      refine lv_iconst (v := nI 0) hx hb dG_admitsSign_49 (by decide) ?_
      exact W.zret hx hb hr rfl (fun zT zh _ => ⟨⟨_, (upd (upd f 4 (nI (w + 1))) 5 (nI (sg + 1)), g), rfl, ⟨(by unfold gSign; rw [if_pos c_4]; rw [decide_eq_false (by omega)]; rfl), Prod.ext (gF_ext (by show _ = nI (if sg = 0 then w + 1 else w); rw [if_pos c_4]; rfl) rfl h6 h7 (fun j j4 j5 j6 j7 => by simp [upd, j4, j5, j6, j7])) rfl⟩, zbw zh hP⟩, hS.F zh⟩) hS.2.2 dG_admitsSign_50
    · have c_33 := mt (nI_ltI (a := 8) (b := (w + 1)) (by omega) (by omega)).mpr c_33
      refine lv_aload_n hx hb dG_admitsSign_36 rfl (lv_at hl 0 rfl) ?_
      refine gf_5 (v := nI (sg + 1)) hx hb hz hi_G hown hK hP (hz _ q_52) rfl dG_admitsSign_37 ?_
      refine lv_bipush (v := nI 8) hx hb dG_admitsSign_40 (by decide) ?_
      refine lv_icmp_gt (tgt := 49) hx hb dG_admitsSign_42 (by decide) (fun c_42 => ?_) (fun c_42 => ?_)
      · have c_42 := (nI_ltI (a := 8) (b := (sg + 1)) (by omega) (by omega)).mp c_42
        refine lv_iconst (v := nI 0) hx hb dG_admitsSign_49 (by decide) ?_
        exact W.zret hx hb hr rfl (fun zT zh _ => ⟨⟨_, (upd (upd f 4 (nI (w + 1))) 5 (nI (sg + 1)), g), rfl, ⟨(by unfold gSign; rw [if_pos c_4]; rw [decide_eq_false (p := sg + 1 ≤ 8) (by omega), Bool.and_false]; rfl), Prod.ext (gF_ext (by show _ = nI (if sg = 0 then w + 1 else w); rw [if_pos c_4]; rfl) rfl h6 h7 (fun j j4 j5 j6 j7 => by simp [upd, j4, j5, j6, j7])) rfl⟩, zbw zh hP⟩, hS.F zh⟩) hS.2.2 dG_admitsSign_50
      · have c_42 := mt (nI_ltI (a := 8) (b := (sg + 1)) (by omega) (by omega)).mpr c_42
        refine lv_iconst (v := nI 1) hx hb dG_admitsSign_45 (by decide) ?_
        refine lv_goto (tgt := 50) hx hb dG_admitsSign_46 (by decide) ?_
        exact W.zret hx hb hr rfl (fun zT zh _ => ⟨⟨_, (upd (upd f 4 (nI (w + 1))) 5 (nI (sg + 1)), g), rfl, ⟨(by unfold gSign; rw [if_pos c_4]; rw [decide_eq_true (by omega), decide_eq_true (by omega)]; rfl), Prod.ext (gF_ext (by show _ = nI (if sg = 0 then w + 1 else w); rw [if_pos c_4]; rfl) rfl h6 h7 (fun j j4 j5 j6 j7 => by simp [upd, j4, j5, j6, j7])) rfl⟩, zbw zh hP⟩, hS.F zh⟩) hS.2.2 dG_admitsSign_50

set_option maxHeartbeats 4000000 in
set_option maxRecDepth 100000 in
theorem c_admitsEquals (l : Launch) (dC : Nat → ClassId) (dI : Nat → Nat → Nat) (cA : ClassId) (a : Nat → Nat) (f : Nat → Int32) (g : Nat → Nat → Int32) (hWD : WDist a) (w sg sn : Nat) (bh : Bool) (h4 : f 4 = nI w) (h5 : f 5 = nI sg) (h6 : f 6 = nI sn) (h7 : f 7 = zB bh) (hw : w ≤ 1000) (hs : sg ≤ 1000) : Met l yG_admitsEquals wsG_admitsEquals ({ frames := 1, cells := 0, slots := 0, locals := 21 }) (va_Pc [.ref (a 1)] (zPW (dC, dI) vwCl [(cA, .int)] (WT cA a f g))) (va_Qi (fun r u => r = zB (if bh then (false, w, sg, sn, bh) else gEnd w sg sn true).1 ∧ u = (gF f (if bh then (false, w, sg, sn, bh) else gEnd w sg sn true).2.1 (if bh then (false, w, sg, sn, bh) else gEnd w sg sn true).2.2.1 (if bh then (false, w, sg, sn, bh) else gEnd w sg sn true).2.2.2.1 (if bh then (false, w, sg, sn, bh) else gEnd w sg sn true).2.2.2.2, g)) (zBW (dC, dI) vwCl (fun u : zSt => WT cA a u.1 u.2)) (AT a)) 0 0 (AT a) := by
  refine Met.ofW (cc := prog_3_method_6_code) (maxL := 1) (ret := (some .boolean)) (by decide) rfl ?_
  intro zp ze s zm args below meth zc s₁ zBL hml hv
  obtain ⟨rfl, hP, hK, hN⟩ := hv
  have hx := zBL.exec
  have hb := zBL.bytes
  have hr := zBL.returns
  have hts := atoms_spec (ws := wsG_admitsEquals) zBL.pre
  have hz : ∀ w ∈ zBig, w.before _ s = true := fun w h => hts w (List.mem_cons_of_mem _ h)
  have hown : s.vm.findClass "LetterSums$Grammar" = some zm.cls := findClass_of_methodNamed zBL.named
  have hlocks := zBL.notSynchronized
  have hD : ∀ f g, va_D (AT a) (WT cA a f g) := fun f g => WT_D hWD f g
  have hS : va_S (AT a) s.heap s.heap [] := va_S.rf
  have hl := lv_entry ([.ref (a 1)]) (n := 1) (Nat.le_of_ble_eq_true rfl)
  rw [lg_entry_eq]
  generalize (lg_sl ([.ref (a 1)]) ++ List.replicate (1 - (lg_sl ([.ref (a 1)])).length) Slot.unset).toArray = ls at hl ⊢
  have hl : lv_has ls 1 [(0, .ref (a 1))] := hl
  refine lv_aload_n hx hb dG_admitsEquals_0 rfl (lv_at hl 0 rfl) ?_
  refine gf_7 (v := zB bh) hx hb hz hi_G hown hK hP (hz _ q_54) h7 dG_admitsEquals_1 ?_
  refine lv_if_eq (tgt := 9) hx hb dG_admitsEquals_4 (by decide) (fun c_4 => ?_) (fun c_4 => ?_)
  · have c_4 : bh = false := zB_eq0.mp c_4
    subst c_4
    refine lv_aload_n hx hb dG_admitsEquals_9 rfl (lv_at hl 0 rfl) ?_
    refine lv_iconst (v := nI 1) hx hb dG_admitsEquals_10 (by decide) ?_
    refine pf_7 hx hb hz hi_G hown hK hP (hD _ _) hS (hz _ q_54) (by decide) (by decide) dG_admitsEquals_11 (fun H locs hP hS => ?_)
    refine lv_aload_n hx hb dG_admitsEquals_14 rfl (lv_at hl 0 rfl) ?_
    refine zk_i (zrV (rest := []) ⟨hx, hb, hml, hown, hz⟩ (c_endsWord l dC dI cA a (upd f 7 (nI 1)) g hWD w sg sn true h4 h5 h6 rfl hw hs) ⟨zcB 0 hz q_246 q_4 q_249 (by decide +kernel) rfl rfl ⟨Nat.le_of_ble_eq_true rfl, Nat.le_of_ble_eq_true rfl⟩, hz _ q_248, hz _ qs_4⟩ hK hN hP 1 2 rfl rfl rfl rfl hl.1 rfl (Nat.le_of_ble_eq_true rfl) dG_admitsEquals_15 ⟨Nat.zero_le _, Nat.zero_le _⟩) hS (fun _ h => h) (fun zr zu H1 locs zhu hP1 hS hk => ?_)
    obtain ⟨rfl, rfl⟩ := zhu
    have hP := hP1
    generalize H1 = H at hP hS ⊢
    exact W.zret hx hb hr (zB_nar _) (fun zT zh _ => ⟨⟨_, (gF (upd f 7 (nI 1)) (gEnd w sg sn true).2.1 (gEnd w sg sn true).2.2.1 (gEnd w sg sn true).2.2.2.1 (gEnd w sg sn true).2.2.2.2, g), rfl, ⟨rfl, Prod.ext (gF_ext rfl rfl rfl rfl (fun j j4 j5 j6 j7 => by show gF _ _ _ _ _ j = f j; rw [gF_o j4 j5 j6 j7]; simp [upd, j7])) rfl⟩, zbw zh hP⟩, hS.F zh⟩) hS.2.2 dG_admitsEquals_18
  · have c_4 : bh = true := by cases bh <;> first | rfl | exact absurd rfl c_4
    subst c_4
    refine lv_iconst (v := nI 0) hx hb dG_admitsEquals_7 (by decide) ?_
    exact W.zret hx hb hr rfl (fun zT zh _ => ⟨⟨_, (f, g), rfl, ⟨rfl, Prod.ext (gF_ext h4 h5 h6 h7 (fun j j4 j5 j6 j7 => by simp [upd, j4, j5, j6, j7])) rfl⟩, zbw zh hP⟩, hS.F zh⟩) hS.2.2 dG_admitsEquals_8

set_option maxHeartbeats 4000000 in
set_option maxRecDepth 100000 in
theorem c_admitsLetter (l : Launch) (dC : Nat → ClassId) (dI : Nat → Nat → Nat) (cA : ClassId) (a : Nat → Nat) (f : Nat → Int32) (g : Nat → Nat → Int32) (hWD : WDist a) (w sg sn : Nat) (bh : Bool) (h4 : f 4 = nI w) (h5 : f 5 = nI sg) (h6 : f 6 = nI sn) (h7 : f 7 = zB bh) (hw : w ≤ 1000) (hs : sg ≤ 1000) (t : Nat) (ht : 97 ≤ t) (ht2 : t ≤ 122) (hsn : sn < 2 ^ 26) : Met l yG_admitsLetter wsG_admitsLetter ({ frames := 1, cells := 0, slots := 0, locals := 20 }) (va_Pc [.ref (a 1), .int (nI t)] (zPW (dC, dI) vwCl [(cA, .int)] (WT cA a f g))) (va_Qi (fun r u => r = zB (decide (zPc (sn ||| 2 ^ (t - 97)) ≤ 8)) ∧ u = (gF f w sg (sn ||| 2 ^ (t - 97)) bh, g)) (zBW (dC, dI) vwCl (fun u : zSt => WT cA a u.1 u.2)) (AT a)) 0 0 (AT a) := by
  refine Met.ofW (cc := prog_3_method_4_code) (maxL := 2) (ret := (some .boolean)) (by decide) rfl ?_
  intro zp ze s zm args below meth zc s₁ zBL hml hv
  obtain ⟨rfl, hP, hK, hN⟩ := hv
  have hx := zBL.exec
  have hb := zBL.bytes
  have hr := zBL.returns
  have hts := atoms_spec (ws := wsG_admitsLetter) zBL.pre
  have hz : ∀ w ∈ zBig, w.before _ s = true := fun w h => hts w (List.mem_cons_of_mem _ h)
  have hown : s.vm.findClass "LetterSums$Grammar" = some zm.cls := findClass_of_methodNamed zBL.named
  have hlocks := zBL.notSynchronized
  have hD : ∀ f g, va_D (AT a) (WT cA a f g) := fun f g => WT_D hWD f g
  have hS : va_S (AT a) s.heap s.heap [] := va_S.rf
  have hl := lv_entry ([.ref (a 1), .int (nI t)]) (n := 2) (Nat.le_of_ble_eq_true rfl)
  rw [lg_entry_eq]
  generalize (lg_sl ([.ref (a 1), .int (nI t)]) ++ List.replicate (2 - (lg_sl ([.ref (a 1), .int (nI t)])).length) Slot.unset).toArray = ls at hl ⊢
  have hl : lv_has ls 2 [(0, .ref (a 1)), (1, .int (nI t))] := hl
  refine lv_aload_n hx hb dG_admitsLetter_0 rfl (lv_at hl 0 rfl) ?_
  refine lv_dup hx hb dG_admitsLetter_1 rfl ?_
  refine gf_6 (v := nI sn) hx hb hz hi_G hown hK hP (hz _ q_53) h6 dG_admitsLetter_2 ?_
  refine lv_iconst (v := nI 1) hx hb dG_admitsLetter_5 (by decide) ?_
  refine lv_iload_n hx hb dG_admitsLetter_6 rfl (lv_at hl 1 rfl) ?_
  refine lv_bipush (v := nI 97) hx hb dG_admitsLetter_7 (by decide) ?_
  refine lv_isub hx hb dG_admitsLetter_9 ?_
  refine zt (y := nI (t - 97)) (pk_sub ht) ?_
  refine lv_ishl hx hb dG_admitsLetter_10 ?_
  refine lv_ior hx hb dG_admitsLetter_11 ?_
  refine zt (y := nI (sn ||| 2 ^ (t - 97))) (zSeen ht ht2) ?_
  refine pf_6 hx hb hz hi_G hown hK hP (hD _ _) hS (hz _ q_53) dG_admitsLetter_12 (fun H locs hP hS => ?_)
  refine lv_aload_n hx hb dG_admitsLetter_15 rfl (lv_at hl 0 rfl) ?_
  refine gf_6 (v := nI (sn ||| 2 ^ (t - 97))) hx hb hz hi_G hown hK hP (hz _ q_53) rfl dG_admitsLetter_16 ?_
  refine zq_e (zrS0 (rest := []) ⟨hx, hb, hml, hown, hz⟩ (c_bitCount l  (nI (sn ||| 2 ^ (t - 97)))) ⟨zcB 1 hz q_229 q_10 q_231 (by decide +kernel) rfl rfl ⟨Nat.le_of_ble_eq_true rfl, Nat.le_of_ble_eq_true rfl⟩, hz _ q_230⟩ rfl hl.1 rfl (Nat.le_of_ble_eq_true rfl) dG_admitsLetter_19 ⟨Nat.zero_le _, Nat.zero_le _⟩) ?_
  refine zt (y := nI (zPc (sn ||| 2 ^ (t - 97)))) (zBc_eq (Nat.lt_trans (zSnLt hsn ht2) (by decide))) ?_
  refine lv_bipush (v := nI 8) hx hb dG_admitsLetter_22 (by decide) ?_
  refine lv_icmp_gt (tgt := 31) hx hb dG_admitsLetter_24 (by decide) (fun c_24 => ?_) (fun c_24 => ?_)
  · have hpc := zPc_le (sn ||| 2 ^ (t - 97))
    have c_24 := (nI_ltI (a := 8) (b := zPc (sn ||| 2 ^ (t - 97))) (by omega) (by omega)).mp c_24
    refine lv_iconst (v := nI 0) hx hb dG_admitsLetter_31 (by decide) ?_
    exact W.zret hx hb hr rfl (fun zT zh _ => ⟨⟨_, (upd f 6 (nI (sn ||| 2 ^ (t - 97))), g), rfl, ⟨by rw [decide_eq_false (by omega)]; rfl, Prod.ext (gF_ext h4 h5 rfl h7 (fun j j4 j5 j6 j7 => by simp [upd, j4, j5, j6, j7])) rfl⟩, zbw zh hP⟩, hS.F zh⟩) hS.2.2 dG_admitsLetter_32
  · have hpc := zPc_le (sn ||| 2 ^ (t - 97))
    have c_24 := mt (nI_ltI (a := 8) (b := zPc (sn ||| 2 ^ (t - 97))) (by omega) (by omega)).mpr c_24
    refine lv_iconst (v := nI 1) hx hb dG_admitsLetter_27 (by decide) ?_
    refine lv_goto (tgt := 32) hx hb dG_admitsLetter_28 (by decide) ?_
    exact W.zret hx hb hr rfl (fun zT zh _ => ⟨⟨_, (upd f 6 (nI (sn ||| 2 ^ (t - 97))), g), rfl, ⟨by rw [decide_eq_true (by omega)]; rfl, Prod.ext (gF_ext h4 h5 rfl h7 (fun j j4 j5 j6 j7 => by simp [upd, j4, j5, j6, j7])) rfl⟩, zbw zh hP⟩, hS.F zh⟩) hS.2.2 dG_admitsLetter_32

set_option maxHeartbeats 4000000 in
set_option maxRecDepth 100000 in
theorem c_admits (l : Launch) (dC : Nat → ClassId) (dI : Nat → Nat → Nat) (cA : ClassId) (a : Nat → Nat) (f : Nat → Int32) (g : Nat → Nat → Int32) (hWD : WDist a) (w sg sn : Nat) (bh : Bool) (h4 : f 4 = nI w) (h5 : f 5 = nI sg) (h6 : f 6 = nI sn) (h7 : f 7 = zB bh) (hw : w ≤ 1000) (hs : sg ≤ 1000) (B t : Nat) (h3 : f 3 = nI B) (hB : B ≤ 10) (ht : t < 256) (hsn : sn < 2 ^ 26) : Met l yG_admits wsG_admits ({ frames := 2, cells := 0, slots := 0, locals := 41 }) (va_Pc [.ref (a 1), .int (nI t)] (zPW (dC, dI) vwCl [(cA, .int)] (WT cA a f g))) (va_Qi (fun r u => r = zB (gStep B w sg sn bh t).1 ∧ u = (gF f (gStep B w sg sn bh t).2.1 (gStep B w sg sn bh t).2.2.1 (gStep B w sg sn bh t).2.2.2.1 (gStep B w sg sn bh t).2.2.2.2, g)) (zBW (dC, dI) vwCl (fun u : zSt => WT cA a u.1 u.2)) (AT a)) 0 0 (AT a) := by
  refine Met.ofW (cc := prog_3_method_3_code) (maxL := 2) (ret := (some .boolean)) (by decide) rfl ?_
  intro zp ze s zm args below meth zc s₁ zBL hml hv
  obtain ⟨rfl, hP, hK, hN⟩ := hv
  have hx := zBL.exec
  have hb := zBL.bytes
  have hr := zBL.returns
  have hts := atoms_spec (ws := wsG_admits) zBL.pre
  have hz : ∀ w ∈ zBig, w.before _ s = true := fun w h => hts w (List.mem_cons_of_mem _ h)
  have hown : s.vm.findClass "LetterSums$Grammar" = some zm.cls := findClass_of_methodNamed zBL.named
  have hlocks := zBL.notSynchronized
  have hD : ∀ f g, va_D (AT a) (WT cA a f g) := fun f g => WT_D hWD f g
  have hS : va_S (AT a) s.heap s.heap [] := va_S.rf
  have hl := lv_entry ([.ref (a 1), .int (nI t)]) (n := 2) (Nat.le_of_ble_eq_true rfl)
  rw [lg_entry_eq]
  generalize (lg_sl ([.ref (a 1), .int (nI t)]) ++ List.replicate (2 - (lg_sl ([.ref (a 1), .int (nI t)])).length) Slot.unset).toArray = ls at hl ⊢
  have hl : lv_has ls 2 [(0, .ref (a 1)), (1, .int (nI t))] := hl
  refine lv_iload_n hx hb dG_admits_0 rfl (lv_at hl 1 rfl) ?_
  refine zq_e (zrSN0 (rest := []) ⟨hx, hb, hml, hown, hz⟩ (c_isLetter l  (nI t)) ⟨zcN 1 hz hN qn_222 q_1 q_224 (by decide +kernel) rfl rfl ⟨Nat.le_of_ble_eq_true rfl, Nat.le_of_ble_eq_true rfl⟩, hz _ q_223, trivial⟩ rfl hl.1 rfl (Nat.le_of_ble_eq_true rfl) dG_admits_1 ⟨Nat.zero_le _, Nat.zero_le _⟩) ?_
  refine lv_if_eq (tgt := 28) hx hb dG_admits_4 (by decide) (fun c_4 => ?_) (fun c_4 => ?_)
  · have c_4 := zLet_f (by omega) c_4
    refine lv_iload_n hx hb dG_admits_28 rfl (lv_at hl 1 rfl) ?_
    refine zq_e (zrSN0 (rest := []) ⟨hx, hb, hml, hown, hz⟩ (c_isDigit l  (nI t)) ⟨zcN 1 hz hN qn_239 q_1 q_241 (by decide +kernel) rfl rfl ⟨Nat.le_of_ble_eq_true rfl, Nat.le_of_ble_eq_true rfl⟩, hz _ q_240, trivial⟩ rfl hl.1 rfl (Nat.le_of_ble_eq_true rfl) dG_admits_29 ⟨Nat.zero_le _, Nat.zero_le _⟩) ?_
    refine lv_if_eq (tgt := 59) hx hb dG_admits_32 (by decide) (fun c_32 => ?_) (fun c_32 => ?_)
    · have c_32 := zDig_f (by omega) c_32
      refine lv_iload_n hx hb dG_admits_59 rfl (lv_at hl 1 rfl) ?_
      refine lv_bipush (v := nI 61) hx hb dG_admits_60 (by decide) ?_
      refine lv_icmp_ne (tgt := 70) hx hb dG_admits_62 (by decide) (fun c_62 => ?_) (fun c_62 => ?_)
      · have c_62 := mt (nI_eq (a := t) (b := 61) (by omega) (by omega)).mpr c_62
        refine lv_iload_n hx hb dG_admits_70 rfl (lv_at hl 1 rfl) ?_
        refine lv_bipush (v := nI 43) hx hb dG_admits_71 (by decide) ?_
        refine lv_icmp_eq (tgt := 82) hx hb dG_admits_73 (by decide) (fun c_73 => ?_) (fun c_73 => ?_)
        · have c_73 := (nI_eq (a := t) (b := 43) (by omega) (by omega)).mp c_73
          have hst : gStep B w sg sn bh t = gEnd w sg sn bh := by unfold gStep; rw [if_neg c_4, if_neg c_32, if_neg c_62, if_pos (Or.inl c_73)]
          refine lv_aload_n hx hb dG_admits_82 rfl (lv_at hl 0 rfl) ?_
          refine zk_i (zrV (rest := []) ⟨hx, hb, hml, hown, hz⟩ (c_endsWord l dC dI cA a f g hWD w sg sn bh h4 h5 h6 h7 hw hs) ⟨zcB 0 hz q_246 q_4 q_249 (by decide +kernel) rfl rfl ⟨Nat.le_of_ble_eq_true rfl, Nat.le_of_ble_eq_true rfl⟩, hz _ q_248, hz _ qs_4⟩ hK hN hP 1 2 rfl rfl rfl rfl hl.1 rfl (Nat.le_of_ble_eq_true rfl) dG_admits_83 ⟨Nat.zero_le _, Nat.zero_le _⟩) hS (fun _ h => h) (fun zr zu H1 locs zhu hP1 hS hk => ?_)
          obtain ⟨rfl, rfl⟩ := zhu
          have hP := hP1
          generalize H1 = H at hP hS ⊢
          refine lv_if_eq (tgt := 93) hx hb dG_admits_86 (by decide) (fun c_86 => ?_) (fun c_86 => ?_)
          · have c_86 : (gEnd w sg sn bh).1 = false := zB_eq0.mp c_86
            refine lv_iconst (v := nI 0) hx hb dG_admits_93 (by decide) ?_
            exact W.zret hx hb hr rfl (fun zT zh _ => ⟨⟨_, (gF f (gEnd w sg sn bh).2.1 (gEnd w sg sn bh).2.2.1 (gEnd w sg sn bh).2.2.2.1 (gEnd w sg sn bh).2.2.2.2, g), rfl, ⟨by rw [hst, c_86]; rfl, by rw [hst]⟩, zbw zh hP⟩, hS.F zh⟩) hS.2.2 dG_admits_94
          · have c_86 : (gEnd w sg sn bh).1 = true := by cases hq : (gEnd w sg sn bh).1 <;> first | rfl | exact absurd (by rw [hq]; rfl) c_86
            refine lv_iconst (v := nI 1) hx hb dG_admits_89 (by decide) ?_
            refine lv_goto (tgt := 94) hx hb dG_admits_90 (by decide) ?_
            exact W.zret hx hb hr rfl (fun zT zh _ => ⟨⟨_, (gF f (gEnd w sg sn bh).2.1 (gEnd w sg sn bh).2.2.1 (gEnd w sg sn bh).2.2.2.1 (gEnd w sg sn bh).2.2.2.2, g), rfl, ⟨by rw [hst, c_86]; rfl, by rw [hst]⟩, zbw zh hP⟩, hS.F zh⟩) hS.2.2 dG_admits_94
        · have c_73 := mt (nI_eq (a := t) (b := 43) (by omega) (by omega)).mpr c_73
          refine lv_iload_n hx hb dG_admits_76 rfl (lv_at hl 1 rfl) ?_
          refine lv_bipush (v := nI 45) hx hb dG_admits_77 (by decide) ?_
          refine lv_icmp_ne (tgt := 93) hx hb dG_admits_79 (by decide) (fun c_79 => ?_) (fun c_79 => ?_)
          · have c_79 := mt (nI_eq (a := t) (b := 45) (by omega) (by omega)).mpr c_79
            have hst : gStep B w sg sn bh t = (false, w, sg, sn, bh) := by unfold gStep; rw [if_neg c_4, if_neg c_32, if_neg c_62, if_neg (by omega)]
            refine lv_iconst (v := nI 0) hx hb dG_admits_93 (by decide) ?_
            exact W.zret hx hb hr rfl (fun zT zh _ => ⟨⟨_, (f, g), rfl, ⟨by rw [hst]; rfl, by rw [hst]; exact Prod.ext (gF_ext h4 h5 h6 h7 (fun _ _ _ _ _ => rfl)) rfl⟩, zbw zh hP⟩, hS.F zh⟩) hS.2.2 dG_admits_94
          · have c_79 := (nI_eq (a := t) (b := 45) (by omega) (by omega)).mp c_79
            have hst : gStep B w sg sn bh t = gEnd w sg sn bh := by unfold gStep; rw [if_neg c_4, if_neg c_32, if_neg c_62, if_pos (Or.inr c_79)]
            refine lv_aload_n hx hb dG_admits_82 rfl (lv_at hl 0 rfl) ?_
            refine zk_i (zrV (rest := []) ⟨hx, hb, hml, hown, hz⟩ (c_endsWord l dC dI cA a f g hWD w sg sn bh h4 h5 h6 h7 hw hs) ⟨zcB 0 hz q_246 q_4 q_249 (by decide +kernel) rfl rfl ⟨Nat.le_of_ble_eq_true rfl, Nat.le_of_ble_eq_true rfl⟩, hz _ q_248, hz _ qs_4⟩ hK hN hP 1 2 rfl rfl rfl rfl hl.1 rfl (Nat.le_of_ble_eq_true rfl) dG_admits_83 ⟨Nat.zero_le _, Nat.zero_le _⟩) hS (fun _ h => h) (fun zr zu H1 locs zhu hP1 hS hk => ?_)
            obtain ⟨rfl, rfl⟩ := zhu
            have hP := hP1
            generalize H1 = H at hP hS ⊢
            refine lv_if_eq (tgt := 93) hx hb dG_admits_86 (by decide) (fun c_86 => ?_) (fun c_86 => ?_)
            · have c_86 : (gEnd w sg sn bh).1 = false := zB_eq0.mp c_86
              refine lv_iconst (v := nI 0) hx hb dG_admits_93 (by decide) ?_
              exact W.zret hx hb hr rfl (fun zT zh _ => ⟨⟨_, (gF f (gEnd w sg sn bh).2.1 (gEnd w sg sn bh).2.2.1 (gEnd w sg sn bh).2.2.2.1 (gEnd w sg sn bh).2.2.2.2, g), rfl, ⟨by rw [hst, c_86]; rfl, by rw [hst]⟩, zbw zh hP⟩, hS.F zh⟩) hS.2.2 dG_admits_94
            · have c_86 : (gEnd w sg sn bh).1 = true := by cases hq : (gEnd w sg sn bh).1 <;> first | rfl | exact absurd (by rw [hq]; rfl) c_86
              refine lv_iconst (v := nI 1) hx hb dG_admits_89 (by decide) ?_
              refine lv_goto (tgt := 94) hx hb dG_admits_90 (by decide) ?_
              exact W.zret hx hb hr rfl (fun zT zh _ => ⟨⟨_, (gF f (gEnd w sg sn bh).2.1 (gEnd w sg sn bh).2.2.1 (gEnd w sg sn bh).2.2.2.1 (gEnd w sg sn bh).2.2.2.2, g), rfl, ⟨by rw [hst, c_86]; rfl, by rw [hst]⟩, zbw zh hP⟩, hS.F zh⟩) hS.2.2 dG_admits_94
      · have c_62 := (nI_eq (a := t) (b := 61) (by omega) (by omega)).mp c_62
        have hst : gStep B w sg sn bh t = if bh then (false, w, sg, sn, bh) else gEnd w sg sn true := by unfold gStep; rw [if_neg c_4, if_neg c_32, if_pos c_62]
        refine lv_aload_n hx hb dG_admits_65 rfl (lv_at hl 0 rfl) ?_
        refine zk_i (zrV (rest := []) ⟨hx, hb, hml, hown, hz⟩ (c_admitsEquals l dC dI cA a f g hWD w sg sn bh h4 h5 h6 h7 hw hs) ⟨zcB 0 hz q_242 q_4 q_245 (by decide +kernel) rfl rfl ⟨Nat.le_of_ble_eq_true rfl, Nat.le_of_ble_eq_true rfl⟩, hz _ q_244, hz _ qs_3⟩ hK hN hP 1 2 rfl rfl rfl rfl hl.1 rfl (Nat.le_of_ble_eq_true rfl) dG_admits_66 ⟨Nat.zero_le _, Nat.zero_le _⟩) hS (fun _ h => h) (fun zr zu H1 locs zhu hP1 hS hk => ?_)
        obtain ⟨rfl, rfl⟩ := zhu
        have hP := hP1
        generalize H1 = H at hP hS ⊢
        exact W.zret hx hb hr (zB_nar _) (fun zT zh _ => ⟨⟨_, (gF f (if bh then (false, w, sg, sn, bh) else gEnd w sg sn true).2.1 (if bh then (false, w, sg, sn, bh) else gEnd w sg sn true).2.2.1 (if bh then (false, w, sg, sn, bh) else gEnd w sg sn true).2.2.2.1 (if bh then (false, w, sg, sn, bh) else gEnd w sg sn true).2.2.2.2, g), rfl, ⟨by rw [hst], by rw [hst]⟩, zbw zh hP⟩, hS.F zh⟩) hS.2.2 dG_admits_69
    · have c_32 := zDig_t (by omega) c_32
      refine lv_iload_n hx hb dG_admits_35 rfl (lv_at hl 1 rfl) ?_
      refine lv_bipush (v := nI 48) hx hb dG_admits_36 (by decide) ?_
      refine lv_isub hx hb dG_admits_38 ?_
      refine zt (y := nI (t - 48)) (pk_sub (by omega)) ?_
      refine lv_aload_n hx hb dG_admits_39 rfl (lv_at hl 0 rfl) ?_
      refine gf_3 (v := nI B) hx hb hz hi_G hown hK hP (hz _ q_50) h3 dG_admits_40 ?_
      refine lv_icmp_ge (tgt := 57) hx hb dG_admits_43 (by decide) (fun c_43 => ?_) (fun c_43 => ?_)
      · have c_43 := (nI_leI (a := B) (b := t - 48) (by omega) (by omega)).mp c_43
        have hst : gStep B w sg sn bh t = (false, w, sg, sn, bh) := by unfold gStep; rw [if_neg c_4, if_pos c_32, if_neg (by omega)]
        refine lv_iconst (v := nI 0) hx hb dG_admits_57 (by decide) ?_
        exact W.zret hx hb hr rfl (fun zT zh _ => ⟨⟨_, (f, g), rfl, ⟨by rw [hst]; rfl, by rw [hst]; exact Prod.ext (gF_ext h4 h5 h6 h7 (fun _ _ _ _ _ => rfl)) rfl⟩, zbw zh hP⟩, hS.F zh⟩) hS.2.2 dG_admits_58
      · have c_43 := mt (nI_leI (a := B) (b := t - 48) (by omega) (by omega)).mpr c_43
        have hst : gStep B w sg sn bh t = gSign w sg sn bh := by unfold gStep; rw [if_neg c_4, if_pos c_32, if_pos (by omega)]
        refine lv_aload_n hx hb dG_admits_46 rfl (lv_at hl 0 rfl) ?_
        refine zk_i (zrV (rest := []) ⟨hx, hb, hml, hown, hz⟩ (c_admitsSign l dC dI cA a f g hWD w sg sn bh h4 h5 h6 h7 hw hs) ⟨zcB 0 hz q_235 q_4 q_238 (by decide +kernel) rfl rfl ⟨Nat.le_of_ble_eq_true rfl, Nat.le_of_ble_eq_true rfl⟩, hz _ q_237, hz _ qs_2⟩ hK hN hP 1 2 rfl rfl rfl rfl hl.1 rfl (Nat.le_of_ble_eq_true rfl) dG_admits_47 ⟨Nat.zero_le _, Nat.zero_le _⟩) hS (fun _ h => h) (fun zr zu H1 locs zhu hP1 hS hk => ?_)
        obtain ⟨rfl, rfl⟩ := zhu
        have hP := hP1
        generalize H1 = H at hP hS ⊢
        refine lv_if_eq (tgt := 57) hx hb dG_admits_50 (by decide) (fun c_50 => ?_) (fun c_50 => ?_)
        · have c_50 : (gSign w sg sn bh).1 = false := zB_eq0.mp c_50
          refine lv_iconst (v := nI 0) hx hb dG_admits_57 (by decide) ?_
          exact W.zret hx hb hr rfl (fun zT zh _ => ⟨⟨_, (gF f (gSign w sg sn bh).2.1 (gSign w sg sn bh).2.2.1 (gSign w sg sn bh).2.2.2.1 (gSign w sg sn bh).2.2.2.2, g), rfl, ⟨by rw [hst, c_50]; rfl, by rw [hst]⟩, zbw zh hP⟩, hS.F zh⟩) hS.2.2 dG_admits_58
        · have c_50 : (gSign w sg sn bh).1 = true := by cases hq : (gSign w sg sn bh).1 <;> first | rfl | exact absurd (by rw [hq]; rfl) c_50
          refine lv_iconst (v := nI 1) hx hb dG_admits_53 (by decide) ?_
          refine lv_goto (tgt := 58) hx hb dG_admits_54 (by decide) ?_
          exact W.zret hx hb hr rfl (fun zT zh _ => ⟨⟨_, (gF f (gSign w sg sn bh).2.1 (gSign w sg sn bh).2.2.1 (gSign w sg sn bh).2.2.2.1 (gSign w sg sn bh).2.2.2.2, g), rfl, ⟨by rw [hst, c_50]; rfl, by rw [hst]⟩, zbw zh hP⟩, hS.F zh⟩) hS.2.2 dG_admits_58
  · have c_4 := zLet_t (by omega) c_4
    refine lv_aload_n hx hb dG_admits_7 rfl (lv_at hl 0 rfl) ?_
    refine lv_iload_n hx hb dG_admits_8 rfl (lv_at hl 1 rfl) ?_
    refine zk_i (zrV (rest := []) ⟨hx, hb, hml, hown, hz⟩ (c_admitsLetter l dC dI cA a f g hWD w sg sn bh h4 h5 h6 h7 hw hs t (by omega) (by omega) hsn) ⟨zcB 1 hz q_225 q_4 q_228 (by decide +kernel) rfl rfl ⟨Nat.le_of_ble_eq_true rfl, Nat.le_of_ble_eq_true rfl⟩, hz _ q_227, hz _ qs_1⟩ hK hN hP 1 2 rfl rfl rfl rfl hl.1 rfl (Nat.le_of_ble_eq_true rfl) dG_admits_9 ⟨Nat.zero_le _, Nat.zero_le _⟩) hS (fun _ h => h) (fun zr zu H1 locs zhu hP1 hS hk => ?_)
    obtain ⟨rfl, rfl⟩ := zhu
    have hP := hP1
    generalize H1 = H at hP hS ⊢
    refine lv_if_eq (tgt := 26) hx hb dG_admits_12 (by decide) (fun c_12 => ?_) (fun c_12 => ?_)
    · have c_12 := zB_d0.mp c_12
      have hst : gStep B w sg sn bh t = (false, w, sg, (sn ||| 2 ^ (t - 97)), bh) := by unfold gStep; rw [if_pos c_4, if_neg c_12]
      refine lv_iconst (v := nI 0) hx hb dG_admits_26 (by decide) ?_
      exact W.zret hx hb hr rfl (fun zT zh _ => ⟨⟨_, (gF f w sg (sn ||| 2 ^ (t - 97)) bh, g), rfl, ⟨by rw [hst]; rfl, by rw [hst]⟩, zbw zh hP⟩, hS.F zh⟩) hS.2.2 dG_admits_27
    · have c_12 := Decidable.not_not.mp (mt zB_d0.mpr c_12)
      have hst : gStep B w sg sn bh t = gSign w sg (sn ||| 2 ^ (t - 97)) bh := by unfold gStep; rw [if_pos c_4, if_pos c_12]
      refine lv_aload_n hx hb dG_admits_15 rfl (lv_at hl 0 rfl) ?_
      refine zk_i (zrV (rest := []) ⟨hx, hb, hml, hown, hz⟩ (c_admitsSign l dC dI cA a (gF f w sg (sn ||| 2 ^ (t - 97)) bh) g hWD w sg (sn ||| 2 ^ (t - 97)) bh rfl rfl rfl rfl hw hs) ⟨zcB 0 hz q_235 q_4 q_238 (by decide +kernel) rfl rfl ⟨Nat.le_of_ble_eq_true rfl, Nat.le_of_ble_eq_true rfl⟩, hz _ q_237, hz _ qs_2⟩ hK hN hP 1 2 rfl rfl rfl rfl hl.1 rfl (Nat.le_of_ble_eq_true rfl) dG_admits_16 ⟨Nat.zero_le _, Nat.zero_le _⟩) hS (fun _ h => h) (fun zr zu H1 locs zhu hP1 hS hk => ?_)
      obtain ⟨rfl, rfl⟩ := zhu
      have hP := hP1
      generalize H1 = H at hP hS ⊢
      refine lv_if_eq (tgt := 26) hx hb dG_admits_19 (by decide) (fun c_19 => ?_) (fun c_19 => ?_)
      · have c_19 : (gSign w sg (sn ||| 2 ^ (t - 97)) bh).1 = false := zB_eq0.mp c_19
        refine lv_iconst (v := nI 0) hx hb dG_admits_26 (by decide) ?_
        exact W.zret hx hb hr rfl (fun zT zh _ => ⟨⟨_, (gF (gF f w sg (sn ||| 2 ^ (t - 97)) bh) (gSign w sg (sn ||| 2 ^ (t - 97)) bh).2.1 (gSign w sg (sn ||| 2 ^ (t - 97)) bh).2.2.1 (gSign w sg (sn ||| 2 ^ (t - 97)) bh).2.2.2.1 (gSign w sg (sn ||| 2 ^ (t - 97)) bh).2.2.2.2, g), rfl, ⟨by rw [hst, c_19]; rfl, by rw [hst, gF_gF]⟩, zbw zh hP⟩, hS.F zh⟩) hS.2.2 dG_admits_27
      · have c_19 : (gSign w sg (sn ||| 2 ^ (t - 97)) bh).1 = true := by cases hq : (gSign w sg (sn ||| 2 ^ (t - 97)) bh).1 <;> first | rfl | exact absurd (by rw [hq]; rfl) c_19
        refine lv_iconst (v := nI 1) hx hb dG_admits_22 (by decide) ?_
        refine lv_goto (tgt := 27) hx hb dG_admits_23 (by decide) ?_
        exact W.zret hx hb hr rfl (fun zT zh _ => ⟨⟨_, (gF (gF f w sg (sn ||| 2 ^ (t - 97)) bh) (gSign w sg (sn ||| 2 ^ (t - 97)) bh).2.1 (gSign w sg (sn ||| 2 ^ (t - 97)) bh).2.2.1 (gSign w sg (sn ||| 2 ^ (t - 97)) bh).2.2.2.1 (gSign w sg (sn ||| 2 ^ (t - 97)) bh).2.2.2.2, g), rfl, ⟨by rw [hst, c_19]; rfl, by rw [hst, gF_gF]⟩, zbw zh hP⟩, hS.F zh⟩) hS.2.2 dG_admits_27

set_option maxHeartbeats 4000000 in
set_option maxRecDepth 100000 in
theorem c_firstWrong (l : Launch) (dC : Nat → ClassId) (dI : Nat → Nat → Nat) (cA : ClassId) (a : Nat → Nat) (f : Nat → Int32) (g : Nat → Nat → Int32) (hWD : WDist a) (B n : Nat) (t : Nat → Nat) (h3 : f 3 = nI B) (hB : B ≤ 10) (hn : n ≤ 80) (ht : ∀ j, j < n → g 0 j = nI (t j) ∧ t j < 256) : Met l yG_firstWrong wsG_firstWrong ({ frames := 3, cells := 0, slots := 0, locals := 62 }) (va_Pc [.ref (a 1), .ref (a 0), .int (nI n)] (zPW (dC, dI) vwCl [(cA, .int)] (WT cA a f g))) (va_Qi (fun r u => r = gRun B t n 0 0 0 0 false ∧ ∃ w sg sn bh, u = (gF f w sg sn bh, g)) (zBW (dC, dI) vwCl (fun u : zSt => WT cA a u.1 u.2)) (AT a)) 0 0 (AT a) := by
  refine Met.ofW (cc := prog_3_method_2_code) (maxL := 4) (ret := (some .int)) (by decide) rfl ?_
  intro zp ze s zm args below meth zc s₁ zBL hml hv
  obtain ⟨rfl, hP, hK, hN⟩ := hv
  have hx := zBL.exec
  have hb := zBL.bytes
  have hr := zBL.returns
  have hts := atoms_spec (ws := wsG_firstWrong) zBL.pre
  have hz : ∀ w ∈ zBig, w.before _ s = true := fun w h => hts w (List.mem_cons_of_mem _ h)
  have hown : s.vm.findClass "LetterSums$Grammar" = some zm.cls := findClass_of_methodNamed zBL.named
  have hlocks := zBL.notSynchronized
  have hD : ∀ f g, va_D (AT a) (WT cA a f g) := fun f g => WT_D hWD f g
  have hS : va_S (AT a) s.heap s.heap [] := va_S.rf
  have hl := lv_entry ([.ref (a 1), .ref (a 0), .int (nI n)]) (n := 4) (Nat.le_of_ble_eq_true rfl)
  rw [lg_entry_eq]
  generalize (lg_sl ([.ref (a 1), .ref (a 0), .int (nI n)]) ++ List.replicate (4 - (lg_sl ([.ref (a 1), .ref (a 0), .int (nI n)])).length) Slot.unset).toArray = ls at hl ⊢
  have hl : lv_has ls 4 [(0, .ref (a 1)), (1, .ref (a 0)), (2, .int (nI n))] := hl
  have loop : ∀ (k i w sg sn : Nat) (bh : Bool) (H : Heap) (locs : List Loc) (ls : Array Slot), n + 1 ≤ i + k → i ≤ n → w ≤ i → sg ≤ i → sn < 2 ^ 26 → gRun B t (n - i) i w sg sn bh = gRun B t n 0 0 0 0 false → va_P (dC, dI) vwCl (WT cA a (gF f w sg sn bh) g) H → va_S (AT a) s.heap H locs → lv_has ls 4 [(0, .ref (a 1)), (1, .ref (a 0)), (2, .int (nI n)), (3, .int (nI i))] → W zp l ze (headSpec wsG_firstWrong ({ frames := 3, cells := 0, slots := 0, locals := 62 })).room s zm ([.ref (a 1), .ref (a 0), .int (nI n)] : List Value).toArray below meth zc H locs 0 0 (MQ below (va_Qi (fun r u => r = gRun B t n 0 0 0 0 false ∧ ∃ w sg sn bh, u = (gF f w sg sn bh, g)) (zBW (dC, dI) vwCl (fun u : zSt => WT cA a u.1 u.2)) (AT a)) ([.ref (a 1), .ref (a 0), .int (nI n)] : List Value).toArray s 0 0 (AT a)) (F0 zm 22 ls []) := by
    intro k
    induction k with
    | zero => intro i w sg sn bh H locs ls q1 q2; omega
    | succ k ih =>
      intro i w sg sn bh H locs ls hik hin hwi hsi hsn hR hP hS hl
      refine lv_iload_n hx hb dG_firstWrong_22 rfl (lv_at hl 3 rfl) ?_
      refine lv_iload_n hx hb dG_firstWrong_23 rfl (lv_at hl 2 rfl) ?_
      refine lv_icmp_ge (tgt := 51) hx hb dG_firstWrong_24 (by decide) (fun c_24 => ?_) (fun c_24 => ?_)
      · have c_24 := (nI_leI (a := n) (b := i) (by omega) (by omega)).mp c_24
        refine lv_aload_n hx hb dG_firstWrong_51 rfl (lv_at hl 0 rfl) ?_
        refine gf_7 (v := zB bh) hx hb hz hi_G hown hK hP (hz _ q_54) rfl dG_firstWrong_52 ?_
        refine lv_if_eq (tgt := 69) hx hb dG_firstWrong_55 (by decide) (fun c_55 => ?_) (fun c_55 => ?_)
        · have c_55 : bh = false := zB_eq0.mp c_55
          refine lv_iload_n hx hb dG_firstWrong_69 rfl (lv_at hl 2 rfl) ?_
          exact W.iret hx hb hr (fun zT zh _ => ⟨⟨_, (gF f w sg sn bh, g), rfl, ⟨by rw [← hR, show n - i = 0 by omega]; simp only [gRun]; rw [c_55]; simp; congr 1; omega, _, _, _, _, rfl⟩, zbw zh hP⟩, hS.F zh⟩) hS.2.2 dG_firstWrong_70
        · have c_55 : bh = true := by cases bh <;> first | rfl | exact absurd rfl c_55
          refine lv_aload_n hx hb dG_firstWrong_58 rfl (lv_at hl 0 rfl) ?_
          refine gf_5 (v := nI sg) hx hb hz hi_G hown hK hP (hz _ q_52) rfl dG_firstWrong_59 ?_
          refine lv_if_le (tgt := 69) hx hb dG_firstWrong_62 (by decide) (fun c_62 => ?_) (fun c_62 => ?_)
          · have c_62 := (nI_leI (a := sg) (b := 0) (by omega) (by omega)).mp c_62
            refine lv_iload_n hx hb dG_firstWrong_69 rfl (lv_at hl 2 rfl) ?_
            exact W.iret hx hb hr (fun zT zh _ => ⟨⟨_, (gF f w sg sn bh, g), rfl, ⟨by rw [← hR, show n - i = 0 by omega]; simp only [gRun]; rw [c_55, decide_eq_false (by omega)]; simp; congr 1; omega, _, _, _, _, rfl⟩, zbw zh hP⟩, hS.F zh⟩) hS.2.2 dG_firstWrong_70
          · have c_62 := mt (nI_leI (a := sg) (b := 0) (by omega) (by omega)).mpr c_62
            refine lv_iconst (v := (-1)) hx hb dG_firstWrong_65 (by decide) ?_
            refine lv_goto (tgt := 70) hx hb dG_firstWrong_66 (by decide) ?_
            exact W.iret hx hb hr (fun zT zh _ => ⟨⟨_, (gF f w sg sn bh, g), rfl, ⟨by rw [← hR, show n - i = 0 by omega]; simp only [gRun]; rw [c_55, decide_eq_true (by omega)]; rfl, _, _, _, _, rfl⟩, zbw zh hP⟩, hS.F zh⟩) hS.2.2 dG_firstWrong_70
      · have c_24 := mt (nI_leI (a := n) (b := i) (by omega) (by omega)).mpr c_24
        refine lv_iload_n hx hb dG_firstWrong_27 rfl (lv_at hl 3 rfl) ?_
        refine lv_aload_n hx hb dG_firstWrong_28 rfl (lv_at hl 1 rfl) ?_
        refine zalen hx hb hK hP 0 0 rfl rfl dG_firstWrong_29 ?_
        refine lv_icmp_ge (tgt := 51) hx hb dG_firstWrong_30 (by decide) (fun c_30 => ?_) (fun c_30 => ?_)
        · have c_30 := (nI_leI (a := 80) (b := i) (by omega) (by omega)).mp c_30
          refine lv_aload_n hx hb dG_firstWrong_51 rfl (lv_at hl 0 rfl) ?_
          refine gf_7 (v := zB bh) hx hb hz hi_G hown hK hP (hz _ q_54) rfl dG_firstWrong_52 ?_
          refine lv_if_eq (tgt := 69) hx hb dG_firstWrong_55 (by decide) (fun c_55 => ?_) (fun c_55 => ?_)
          · have c_55 : bh = false := zB_eq0.mp c_55
            refine lv_iload_n hx hb dG_firstWrong_69 rfl (lv_at hl 2 rfl) ?_
            exact W.iret hx hb hr (fun zT zh _ => ⟨⟨_, (gF f w sg sn bh, g), rfl, ⟨by rw [← hR, show n - i = 0 by omega]; simp only [gRun]; rw [c_55]; simp; congr 1; omega, _, _, _, _, rfl⟩, zbw zh hP⟩, hS.F zh⟩) hS.2.2 dG_firstWrong_70
          · have c_55 : bh = true := by cases bh <;> first | rfl | exact absurd rfl c_55
            refine lv_aload_n hx hb dG_firstWrong_58 rfl (lv_at hl 0 rfl) ?_
            refine gf_5 (v := nI sg) hx hb hz hi_G hown hK hP (hz _ q_52) rfl dG_firstWrong_59 ?_
            refine lv_if_le (tgt := 69) hx hb dG_firstWrong_62 (by decide) (fun c_62 => ?_) (fun c_62 => ?_)
            · have c_62 := (nI_leI (a := sg) (b := 0) (by omega) (by omega)).mp c_62
              refine lv_iload_n hx hb dG_firstWrong_69 rfl (lv_at hl 2 rfl) ?_
              exact W.iret hx hb hr (fun zT zh _ => ⟨⟨_, (gF f w sg sn bh, g), rfl, ⟨by rw [← hR, show n - i = 0 by omega]; simp only [gRun]; rw [c_55, decide_eq_false (by omega)]; simp; congr 1; omega, _, _, _, _, rfl⟩, zbw zh hP⟩, hS.F zh⟩) hS.2.2 dG_firstWrong_70
            · have c_62 := mt (nI_leI (a := sg) (b := 0) (by omega) (by omega)).mpr c_62
              refine lv_iconst (v := (-1)) hx hb dG_firstWrong_65 (by decide) ?_
              refine lv_goto (tgt := 70) hx hb dG_firstWrong_66 (by decide) ?_
              exact W.iret hx hb hr (fun zT zh _ => ⟨⟨_, (gF f w sg sn bh, g), rfl, ⟨by rw [← hR, show n - i = 0 by omega]; simp only [gRun]; rw [c_55, decide_eq_true (by omega)]; rfl, _, _, _, _, rfl⟩, zbw zh hP⟩, hS.F zh⟩) hS.2.2 dG_firstWrong_70
        · have c_30 := mt (nI_leI (a := 80) (b := i) (by omega) (by omega)).mpr c_30
          refine lv_aload_n hx hb dG_firstWrong_33 rfl (lv_at hl 0 rfl) ?_
          refine lv_aload_n hx hb dG_firstWrong_34 rfl (lv_at hl 1 rfl) ?_
          refine lv_iload_n hx hb dG_firstWrong_35 rfl (lv_at hl 3 rfl) ?_
          refine zald (v := nI (t i)) hx hb hK hP 0 0 rfl rfl i rfl (by omega) (by decide) (ht i (by omega)).1 dG_firstWrong_36 ?_
          refine zk_i (zrV (rest := []) ⟨hx, hb, hml, hown, hz⟩ (c_admits l dC dI cA a (gF f w sg sn bh) g hWD w sg sn bh rfl rfl rfl rfl (by omega) (by omega) B (t i) h3 hB (ht i (by omega)).2 hsn) ⟨zcB 1 hz q_218 q_4 q_221 (by decide +kernel) rfl rfl ⟨Nat.le_of_ble_eq_true rfl, Nat.le_of_ble_eq_true rfl⟩, hz _ q_220, hz _ qs_0⟩ hK hN hP 1 2 rfl rfl rfl rfl hl.1 rfl (Nat.le_of_ble_eq_true rfl) dG_firstWrong_37 ⟨Nat.zero_le _, Nat.zero_le _⟩) hS (fun _ h => h) (fun zr zu H1 locs zhu hP1 hS hk => ?_)
          obtain ⟨rfl, rfl⟩ := zhu
          rw [gF_gF] at hP1
          have hs1 := gStep_le B w sg sn bh (t i) hwi hsi hsn (ht i (by omega)).2
          have hP := hP1
          generalize H1 = H at hP hS ⊢
          refine lv_if_ne (tgt := 45) hx hb dG_firstWrong_40 (by decide) (fun c_40 => ?_) (fun c_40 => ?_)
          · have c_40 : (gStep B w sg sn bh (t i)).1 = true := by cases hq : (gStep B w sg sn bh (t i)).1 <;> first | rfl | exact absurd (by rw [hq]; rfl) c_40
            refine lv_iinc (v := nI (i + 1)) (lv' := [(3, .int (nI (i + 1))), (0, .ref (a 1)), (1, .ref (a 0)), (2, .int (nI n))]) hx hb dG_firstWrong_45 hl (k := 3) rfl (nI_1 _) (by decide) rfl (fun ls hl => ?_)
            refine lv_goto (tgt := 22) hx hb dG_firstWrong_48 (by decide) ?_
            exact ih (i + 1) _ _ _ _ H locs ls (by omega) (by omega) hs1.1 hs1.2.1 hs1.2.2 (by rw [← hR, show n - i = (n - (i + 1)) + 1 by omega]; show _ = gRun B t _ i w sg sn bh; simp only [gRun]; rw [if_pos c_40]) hP hS (lv_sub hl [1, 2, 3, 0] rfl)
          · have c_40 : (gStep B w sg sn bh (t i)).1 = false := zB_eq0.mp c_40
            refine lv_iload_n hx hb dG_firstWrong_43 rfl (lv_at hl 3 rfl) ?_
            exact W.iret hx hb hr (fun zT zh _ => ⟨⟨_, (gF f (gStep B w sg sn bh (t i)).2.1 (gStep B w sg sn bh (t i)).2.2.1 (gStep B w sg sn bh (t i)).2.2.2.1 (gStep B w sg sn bh (t i)).2.2.2.2, g), rfl, ⟨by rw [← hR, show n - i = (n - (i + 1)) + 1 by omega]; simp only [gRun]; rw [if_neg (by rw [c_40]; decide)], _, _, _, _, rfl⟩, zbw zh hP⟩, hS.F zh⟩) hS.2.2 dG_firstWrong_44
  refine lv_aload_n hx hb dG_firstWrong_0 rfl (lv_at hl 0 rfl) ?_
  refine lv_iconst (v := nI 0) hx hb dG_firstWrong_1 (by decide) ?_
  refine pf_4 hx hb hz hi_G hown hK hP (hD _ _) hS (hz _ q_51) dG_firstWrong_2 (fun H locs hP hS => ?_)
  refine lv_aload_n hx hb dG_firstWrong_5 rfl (lv_at hl 0 rfl) ?_
  refine lv_iconst (v := nI 0) hx hb dG_firstWrong_6 (by decide) ?_
  refine pf_5 hx hb hz hi_G hown hK hP (hD _ _) hS (hz _ q_52) dG_firstWrong_7 (fun H locs hP hS => ?_)
  refine lv_aload_n hx hb dG_firstWrong_10 rfl (lv_at hl 0 rfl) ?_
  refine lv_iconst (v := nI 0) hx hb dG_firstWrong_11 (by decide) ?_
  refine pf_6 hx hb hz hi_G hown hK hP (hD _ _) hS (hz _ q_53) dG_firstWrong_12 (fun H locs hP hS => ?_)
  refine lv_aload_n hx hb dG_firstWrong_15 rfl (lv_at hl 0 rfl) ?_
  refine lv_iconst (v := nI 0) hx hb dG_firstWrong_16 (by decide) ?_
  refine pf_7 hx hb hz hi_G hown hK hP (hD _ _) hS (hz _ q_54) (by decide) (by decide) dG_firstWrong_17 (fun H locs hP hS => ?_)
  refine lv_iconst (v := nI 0) hx hb dG_firstWrong_20 (by decide) ?_
  refine lv_istore_n (lv' := [(3, .int (nI 0)), (0, .ref (a 1)), (1, .ref (a 0)), (2, .int (nI n))]) hx hb dG_firstWrong_21 rfl hl (by decide) rfl (fun ls hl => ?_)
  exact loop (n + 1) 0 0 0 0 false _ _ ls (by omega) (by omega) (by omega) (by omega) (by decide) rfl hP hS (lv_sub hl [1, 2, 3, 0] rfl)

set_option maxHeartbeats 4000000 in
set_option maxRecDepth 100000 in
theorem c_byteAt (l : Launch) (dC : Nat → ClassId) (dI : Nat → Nat → Nat) (cA : ClassId) (a : Nat → Nat) (f : Nat → Int32) (g : Nat → Nat → Int32) (k : Int32) (n : Nat) (hn : n ≤ 80) (h9 : f 9 = nI n) : Met l yS_byteAt wsS_byteAt ({ frames := 0, cells := 0, slots := 0, locals := 0 }) (va_Pc [.ref (a 2), .int k] (zPW (dC, dI) vwCl [(cA, .int)] (WT cA a f g))) (vp_Si (fun r => r = (zAt (-1) (g 1) n k))) 0 0 (fun _ => False) := by
  refine Met.ofW (cc := prog_5_method_5_code) (maxL := 2) (ret := (some .int)) (by decide) rfl ?_
  intro zp ze s zm args below meth zc s₁ zBL hml hv
  obtain ⟨rfl, hP, hK, hN⟩ := hv
  have hx := zBL.exec
  have hb := zBL.bytes
  have hr := zBL.returns
  have hts := atoms_spec (ws := wsS_byteAt) zBL.pre
  have hz : ∀ w ∈ zBig, w.before _ s = true := fun w h => hts w (List.mem_cons_of_mem _ h)
  have hown : s.vm.findClass "LetterSums$Sum" = some zm.cls := findClass_of_methodNamed zBL.named
  have hlocks := zBL.notSynchronized
  have hl := lv_entry ([.ref (a 2), .int k]) (n := 2) (Nat.le_of_ble_eq_true rfl)
  rw [lg_entry_eq]
  generalize (lg_sl ([.ref (a 2), .int k]) ++ List.replicate (2 - (lg_sl ([.ref (a 2), .int k])).length) Slot.unset).toArray = ls at hl ⊢
  have hl : lv_has ls 2 [(0, .ref (a 2)), (1, .int k)] := hl
  refine lv_iload_n hx hb dS_byteAt_0 rfl (lv_at hl 1 rfl) ?_
  refine lv_if_lt (tgt := 21) hx hb dS_byteAt_1 (by decide) (fun c_1 => ?_) (fun c_1 => ?_)
  · refine lv_iconst (v := (-1)) hx hb dS_byteAt_21 (by decide) ?_
    exact W.iret hx hb hr (fun zT zh _ => ⟨_, rfl, (zAt_neg c_1).symm, zh⟩) t_nil dS_byteAt_22
  · refine lv_iload_n hx hb dS_byteAt_4 rfl (lv_at hl 1 rfl) ?_
    refine lv_aload_n hx hb dS_byteAt_5 rfl (lv_at hl 0 rfl) ?_
    refine gf_9 (v := nI n) hx hb hz hi_S hown hK hP (hz _ q_77) h9 dS_byteAt_6 ?_
    refine lv_icmp_ge (tgt := 21) hx hb dS_byteAt_9 (by decide) (fun c_9 => ?_) (fun c_9 => ?_)
    · refine lv_iconst (v := (-1)) hx hb dS_byteAt_21 (by decide) ?_
      exact W.iret hx hb hr (fun zT zh _ => ⟨_, rfl, (zAt_big (by omega) c_9).symm, zh⟩) t_nil dS_byteAt_22
    · obtain ⟨j, hj, hk⟩ := zAt_ix (n := n) (by omega) c_1 c_9
      refine lv_aload_n hx hb dS_byteAt_12 rfl (lv_at hl 0 rfl) ?_
      refine gr_2_bytes hx hb hz hi_S hown hK hP (hz _ q_76) dS_byteAt_13 ?_
      refine lv_iload_n hx hb dS_byteAt_16 rfl (lv_at hl 1 rfl) ?_
      refine zald (v := g 1 j) hx hb hK hP 3 0 rfl rfl j hk (by omega) (by decide) rfl dS_byteAt_17 ?_
      refine lv_goto (tgt := 22) hx hb dS_byteAt_18 (by decide) ?_
      exact W.iret hx hb hr (fun zT zh _ => ⟨_, rfl, (zAt_in (by omega) hj hk).symm, zh⟩) t_nil dS_byteAt_22

set_option maxHeartbeats 4000000 in
set_option maxRecDepth 100000 in
theorem c_letterAt (l : Launch) (dC : Nat → ClassId) (dI : Nat → Nat → Nat) (cA : ClassId) (a : Nat → Nat) (f : Nat → Int32) (g : Nat → Nat → Int32) (k : Int32) (n : Nat) (hn : n ≤ 8) (h12 : f 12 = nI n) : Met l yS_letterAt wsS_letterAt ({ frames := 0, cells := 0, slots := 0, locals := 0 }) (va_Pc [.ref (a 2), .int k] (zPW (dC, dI) vwCl [(cA, .int)] (WT cA a f g))) (vp_Si (fun r => r = (zAt (-1) (g 4) n k))) 0 0 (fun _ => False) := by
  refine Met.ofW (cc := prog_5_method_6_code) (maxL := 2) (ret := (some .int)) (by decide) rfl ?_
  intro zp ze s zm args below meth zc s₁ zBL hml hv
  obtain ⟨rfl, hP, hK, hN⟩ := hv
  have hx := zBL.exec
  have hb := zBL.bytes
  have hr := zBL.returns
  have hts := atoms_spec (ws := wsS_letterAt) zBL.pre
  have hz : ∀ w ∈ zBig, w.before _ s = true := fun w h => hts w (List.mem_cons_of_mem _ h)
  have hown : s.vm.findClass "LetterSums$Sum" = some zm.cls := findClass_of_methodNamed zBL.named
  have hlocks := zBL.notSynchronized
  have hl := lv_entry ([.ref (a 2), .int k]) (n := 2) (Nat.le_of_ble_eq_true rfl)
  rw [lg_entry_eq]
  generalize (lg_sl ([.ref (a 2), .int k]) ++ List.replicate (2 - (lg_sl ([.ref (a 2), .int k])).length) Slot.unset).toArray = ls at hl ⊢
  have hl : lv_has ls 2 [(0, .ref (a 2)), (1, .int k)] := hl
  refine lv_iload_n hx hb dS_letterAt_0 rfl (lv_at hl 1 rfl) ?_
  refine lv_if_lt (tgt := 21) hx hb dS_letterAt_1 (by decide) (fun c_1 => ?_) (fun c_1 => ?_)
  · refine lv_iconst (v := (-1)) hx hb dS_letterAt_21 (by decide) ?_
    exact W.iret hx hb hr (fun zT zh _ => ⟨_, rfl, (zAt_neg c_1).symm, zh⟩) t_nil dS_letterAt_22
  · refine lv_iload_n hx hb dS_letterAt_4 rfl (lv_at hl 1 rfl) ?_
    refine lv_aload_n hx hb dS_letterAt_5 rfl (lv_at hl 0 rfl) ?_
    refine gf_12 (v := nI n) hx hb hz hi_S hown hK hP (hz _ q_89) h12 dS_letterAt_6 ?_
    refine lv_icmp_ge (tgt := 21) hx hb dS_letterAt_9 (by decide) (fun c_9 => ?_) (fun c_9 => ?_)
    · refine lv_iconst (v := (-1)) hx hb dS_letterAt_21 (by decide) ?_
      exact W.iret hx hb hr (fun zT zh _ => ⟨_, rfl, (zAt_big (by omega) c_9).symm, zh⟩) t_nil dS_letterAt_22
    · obtain ⟨j, hj, hk⟩ := zAt_ix (n := n) (by omega) c_1 c_9
      refine lv_aload_n hx hb dS_letterAt_12 rfl (lv_at hl 0 rfl) ?_
      refine gr_2_byAlphabet hx hb hz hi_S hown hK hP (hz _ q_87) dS_letterAt_13 ?_
      refine lv_iload_n hx hb dS_letterAt_16 rfl (lv_at hl 1 rfl) ?_
      refine zald (v := g 4 j) hx hb hK hP 6 0 rfl rfl j hk (by omega) (by decide) rfl dS_letterAt_17 ?_
      refine lv_goto (tgt := 22) hx hb dS_letterAt_18 (by decide) ?_
      exact W.iret hx hb hr (fun zT zh _ => ⟨_, rfl, (zAt_in (by omega) hj hk).symm, zh⟩) t_nil dS_letterAt_22

set_option maxHeartbeats 4000000 in
set_option maxRecDepth 100000 in
theorem c_slotOf (l : Launch) (dC : Nat → ClassId) (dI : Nat → Nat → Nat) (cA : ClassId) (a : Nat → Nat) (f : Nat → Int32) (g : Nat → Nat → Int32) (u : Int32) : Met l yS_slotOf wsS_slotOf ({ frames := 1, cells := 0, slots := 0, locals := 20 }) (va_Pc [.ref (a 2), .int u] (zPW (dC, dI) vwCl [(cA, .int)] (WT cA a f g))) (vp_Si (fun r => r = (zSl (g 5) u))) 0 0 (fun _ => False) := by
  refine Met.ofW (cc := prog_5_method_7_code) (maxL := 2) (ret := (some .int)) (by decide) rfl ?_
  intro zp ze s zm args below meth zc s₁ zBL hml hv
  obtain ⟨rfl, hP, hK, hN⟩ := hv
  have hx := zBL.exec
  have hb := zBL.bytes
  have hr := zBL.returns
  have hts := atoms_spec (ws := wsS_slotOf) zBL.pre
  have hz : ∀ w ∈ zBig, w.before _ s = true := fun w h => hts w (List.mem_cons_of_mem _ h)
  have hown : s.vm.findClass "LetterSums$Sum" = some zm.cls := findClass_of_methodNamed zBL.named
  have hlocks := zBL.notSynchronized
  have hl := lv_entry ([.ref (a 2), .int u]) (n := 2) (Nat.le_of_ble_eq_true rfl)
  rw [lg_entry_eq]
  generalize (lg_sl ([.ref (a 2), .int u]) ++ List.replicate (2 - (lg_sl ([.ref (a 2), .int u])).length) Slot.unset).toArray = ls at hl ⊢
  have hl : lv_has ls 2 [(0, .ref (a 2)), (1, .int u)] := hl
  refine lv_iload_n hx hb dS_slotOf_0 rfl (lv_at hl 1 rfl) ?_
  refine zq_e (zrSN0 (rest := []) ⟨hx, hb, hml, hown, hz⟩ (c_isLetter l  u) ⟨zcN 1 hz hN qn_258 q_1 q_224 (by decide +kernel) rfl rfl ⟨Nat.le_of_ble_eq_true rfl, Nat.le_of_ble_eq_true rfl⟩, hz _ q_223, trivial⟩ rfl hl.1 rfl (Nat.le_of_ble_eq_true rfl) dS_slotOf_1 ⟨Nat.zero_le _, Nat.zero_le _⟩) ?_
  refine lv_if_eq (tgt := 19) hx hb dS_slotOf_4 (by decide) (fun c_4 => ?_) (fun c_4 => ?_)
  · have c_4 : zLet u = false := zB_eq0.mp c_4
    refine lv_iconst (v := (-1)) hx hb dS_slotOf_19 (by decide) ?_
    exact W.iret hx hb hr (fun zT zh _ => ⟨_, rfl, (zSl_out c_4).symm, zh⟩) t_nil dS_slotOf_20
  · have c_4 : zLet u = true := zB_n0 c_4
    obtain ⟨j, hj, hu⟩ := zLet_ix c_4
    refine lv_aload_n hx hb dS_slotOf_7 rfl (lv_at hl 0 rfl) ?_
    refine gr_2_slots hx hb hz hi_S hown hK hP (hz _ q_88) dS_slotOf_8 ?_
    refine lv_iload_n hx hb dS_slotOf_11 rfl (lv_at hl 1 rfl) ?_
    refine lv_bipush (v := nI 97) hx hb dS_slotOf_12 (by decide) ?_
    refine lv_isub hx hb dS_slotOf_14 ?_
    refine zald (v := g 5 j) hx hb hK hP 7 0 rfl rfl j (by rw [hu]; exact zSubA) hj (by decide) rfl dS_slotOf_15 ?_
    refine lv_goto (tgt := 20) hx hb dS_slotOf_16 (by decide) ?_
    exact W.iret hx hb hr (fun zT zh _ => ⟨_, rfl, (zSl_in hj hu).symm, zh⟩) t_nil dS_slotOf_20

set_option maxHeartbeats 4000000 in
set_option maxRecDepth 100000 in
theorem c_digitAt (l : Launch) (dC : Nat → ClassId) (dI : Nat → Nat → Nat) (cA : ClassId) (a : Nat → Nat) (f : Nat → Int32) (g : Nat → Nat → Int32) (i x : Int32) (n : Nat) (hn : n ≤ 80) (h9 : f 9 = nI n) : Met l yS_digitAt wsS_digitAt ({ frames := 2, cells := 0, slots := 0, locals := 41 }) (va_Pc [.ref (a 2), .int i, .int x] (zPW (dC, dI) vwCl [(cA, .int)] (WT cA a f g))) (vp_Si (fun r => r = (zDg (g 1) n (g 5) i x))) 0 0 (fun _ => False) := by
  refine Met.ofW (cc := prog_5_method_8_code) (maxL := 5) (ret := (some .int)) (by decide) rfl ?_
  intro zp ze s zm args below meth zc s₁ zBL hml hv
  obtain ⟨rfl, hP, hK, hN⟩ := hv
  have hx := zBL.exec
  have hb := zBL.bytes
  have hr := zBL.returns
  have hts := atoms_spec (ws := wsS_digitAt) zBL.pre
  have hz : ∀ w ∈ zBig, w.before _ s = true := fun w h => hts w (List.mem_cons_of_mem _ h)
  have hown : s.vm.findClass "LetterSums$Sum" = some zm.cls := findClass_of_methodNamed zBL.named
  have hlocks := zBL.notSynchronized
  have hl := lv_entry ([.ref (a 2), .int i, .int x]) (n := 5) (Nat.le_of_ble_eq_true rfl)
  rw [lg_entry_eq]
  generalize (lg_sl ([.ref (a 2), .int i, .int x]) ++ List.replicate (5 - (lg_sl ([.ref (a 2), .int i, .int x])).length) Slot.unset).toArray = ls at hl ⊢
  have hl : lv_has ls 5 [(0, .ref (a 2)), (1, .int i), (2, .int x)] := hl
  refine lv_aload_n hx hb dS_digitAt_0 rfl (lv_at hl 0 rfl) ?_
  refine lv_iload_n hx hb dS_digitAt_1 rfl (lv_at hl 1 rfl) ?_
  refine zq_e (zrV (rest := []) ⟨hx, hb, hml, hown, hz⟩ (c_byteAt l dC dI cA a f g i n hn h9) ⟨zcB 1 hz q_318 q_5 q_321 (by decide +kernel) rfl rfl ⟨Nat.le_of_ble_eq_true rfl, Nat.le_of_ble_eq_true rfl⟩, hz _ q_319, hz _ q_320⟩ hK hN hP 2 4 rfl rfl rfl rfl hl.1 rfl (Nat.le_of_ble_eq_true rfl) dS_digitAt_2 ⟨Nat.zero_le _, Nat.zero_le _⟩) ?_
  refine lv_istore_n (lv' := [(3, .int (zAt (-1) (g 1) n i)), (0, .ref (a 2)), (1, .int i), (2, .int x)]) hx hb dS_digitAt_5 rfl hl (by decide) rfl (fun ls hl => ?_)
  refine lv_aload_n hx hb dS_digitAt_6 rfl (lv_at hl 1 rfl) ?_
  refine lv_iload_n hx hb dS_digitAt_7 rfl (lv_at hl 0 rfl) ?_
  refine zq_e (zrV (rest := []) ⟨hx, hb, hml, hown, hz⟩ (c_slotOf l dC dI cA a f g (zAt (-1) (g 1) n i)) ⟨zcB 1 hz q_415 q_5 q_326 (by decide +kernel) rfl rfl ⟨Nat.le_of_ble_eq_true rfl, Nat.le_of_ble_eq_true rfl⟩, hz _ q_324, hz _ q_325⟩ hK hN hP 2 4 rfl rfl rfl rfl hl.1 rfl (Nat.le_of_ble_eq_true rfl) dS_digitAt_8 ⟨Nat.zero_le _, Nat.zero_le _⟩) ?_
  refine lv_istore (lv' := [(4, .int (zSl (g 5) (zAt (-1) (g 1) n i))), (3, .int (zAt (-1) (g 1) n i)), (0, .ref (a 2)), (1, .int i), (2, .int x)]) hx hb dS_digitAt_11 hl (by decide) rfl (fun ls hl => ?_)
  refine lv_iload hx hb dS_digitAt_13 (lv_at hl 0 rfl) ?_
  refine lv_iconst (v := (-1)) hx hb dS_digitAt_15 (by decide) ?_
  refine lv_icmp_ne (tgt := 26) hx hb dS_digitAt_16 (by decide) (fun c_16 => ?_) (fun c_16 => ?_)
  · refine lv_iload_n hx hb dS_digitAt_26 rfl (lv_at hl 4 rfl) ?_
    refine lv_iload hx hb dS_digitAt_27 (lv_at hl 0 rfl) ?_
    refine zq_e (zrSN0 (rest := []) ⟨hx, hb, hml, hown, hz⟩ (c_digitOf l  x (zSl (g 5) (zAt (-1) (g 1) n i))) ⟨zcN 2 hz hN qn_416 q_1 q_395 (by decide +kernel) rfl rfl ⟨Nat.le_of_ble_eq_true rfl, Nat.le_of_ble_eq_true rfl⟩, hz _ q_394, trivial⟩ rfl hl.1 rfl (Nat.le_of_ble_eq_true rfl) dS_digitAt_29 ⟨Nat.zero_le _, Nat.zero_le _⟩) ?_
    exact W.iret hx hb hr (fun zT zh _ => ⟨_, rfl, (by unfold zDg; rw [if_neg c_16]), zh⟩) t_nil dS_digitAt_32
  · have c_16 := c_16
    refine lv_iload_n hx hb dS_digitAt_19 rfl (lv_at hl 1 rfl) ?_
    refine lv_bipush (v := nI 48) hx hb dS_digitAt_20 (by decide) ?_
    refine lv_isub hx hb dS_digitAt_22 ?_
    refine lv_goto (tgt := 32) hx hb dS_digitAt_23 (by decide) ?_
    exact W.iret hx hb hr (fun zT zh _ => ⟨_, rfl, (by unfold zDg; rw [if_pos c_16]), zh⟩) t_nil dS_digitAt_32

set_option maxHeartbeats 4000000 in
set_option maxRecDepth 100000 in
theorem c_isBehind (l : Launch) (dC : Nat → ClassId) (dI : Nat → Nat → Nat) (cA : ClassId) (a : Nat → Nat) (f : Nat → Int32) (g : Nat → Nat → Int32) (k : Nat) (hk : k < 8) : Met l yS_isBehind wsS_isBehind ({ frames := 0, cells := 0, slots := 0, locals := 0 }) (va_Pc [.ref (a 2), .int (nI k)] (zPW (dC, dI) vwCl [(cA, .int)] (WT cA a f g))) (vp_Si (fun r => r = (zB (zBh f g k)))) 0 0 (fun _ => False) := by
  refine Met.ofW (cc := prog_5_method_9_code) (maxL := 2) (ret := (some .boolean)) (by decide) rfl ?_
  intro zp ze s zm args below meth zc s₁ zBL hml hv
  obtain ⟨rfl, hP, hK, hN⟩ := hv
  have hx := zBL.exec
  have hb := zBL.bytes
  have hr := zBL.returns
  have hts := atoms_spec (ws := wsS_isBehind) zBL.pre
  have hz : ∀ w ∈ zBig, w.before _ s = true := fun w h => hts w (List.mem_cons_of_mem _ h)
  have hown : s.vm.findClass "LetterSums$Sum" = some zm.cls := findClass_of_methodNamed zBL.named
  have hlocks := zBL.notSynchronized
  have hl := lv_entry ([.ref (a 2), .int (nI k)]) (n := 2) (Nat.le_of_ble_eq_true rfl)
  rw [lg_entry_eq]
  generalize (lg_sl ([.ref (a 2), .int (nI k)]) ++ List.replicate (2 - (lg_sl ([.ref (a 2), .int (nI k)])).length) Slot.unset).toArray = ls at hl ⊢
  have hl : lv_has ls 2 [(0, .ref (a 2)), (1, .int (nI k))] := hl
  refine lv_aload_n hx hb dS_isBehind_0 rfl (lv_at hl 0 rfl) ?_
  refine gr_2_starts hx hb hz hi_S hown hK hP (hz _ q_79) dS_isBehind_1 ?_
  refine lv_iload_n hx hb dS_isBehind_4 rfl (lv_at hl 1 rfl) ?_
  refine zald (v := g 2 k) hx hb hK hP 4 0 rfl rfl k rfl (by omega) (by decide) rfl dS_isBehind_5 ?_
  refine lv_aload_n hx hb dS_isBehind_6 rfl (lv_at hl 0 rfl) ?_
  refine gf_10 (v := f 10) hx hb hz hi_S hown hK hP (hz _ q_78) rfl dS_isBehind_7 ?_
  refine lv_icmp_le (tgt := 17) hx hb dS_isBehind_10 (by decide) (fun c_10 => ?_) (fun c_10 => ?_)
  · refine lv_iconst (v := nI 0) hx hb dS_isBehind_17 (by decide) ?_
    exact W.zret hx hb hr rfl (fun zT zh _ => ⟨_, rfl, (by unfold zBh; rw [decide_eq_false (Int32.not_lt.mpr c_10)]; rfl), zh⟩) t_nil dS_isBehind_18
  · refine lv_iconst (v := nI 1) hx hb dS_isBehind_13 (by decide) ?_
    refine lv_goto (tgt := 18) hx hb dS_isBehind_14 (by decide) ?_
    exact W.zret hx hb hr rfl (fun zT zh _ => ⟨_, rfl, (by unfold zBh; rw [decide_eq_true (Int32.not_le.mp c_10)]; rfl), zh⟩) t_nil dS_isBehind_18

set_option maxHeartbeats 4000000 in
set_option maxRecDepth 100000 in
theorem c_isTakenAway (l : Launch) (dC : Nat → ClassId) (dI : Nat → Nat → Nat) (cA : ClassId) (a : Nat → Nat) (f : Nat → Int32) (g : Nat → Nat → Int32) (k : Nat) (hk : k < 8) (n : Nat) (hn : n ≤ 80) (h9 : f 9 = nI n) : Met l yS_isTakenAway wsS_isTakenAway ({ frames := 1, cells := 0, slots := 0, locals := 21 }) (va_Pc [.ref (a 2), .int (nI k)] (zPW (dC, dI) vwCl [(cA, .int)] (WT cA a f g))) (vp_Si (fun r => r = (zB (zTk g n k)))) 0 0 (fun _ => False) := by
  refine Met.ofW (cc := prog_5_method_10_code) (maxL := 2) (ret := (some .boolean)) (by decide) rfl ?_
  intro zp ze s zm args below meth zc s₁ zBL hml hv
  obtain ⟨rfl, hP, hK, hN⟩ := hv
  have hx := zBL.exec
  have hb := zBL.bytes
  have hr := zBL.returns
  have hts := atoms_spec (ws := wsS_isTakenAway) zBL.pre
  have hz : ∀ w ∈ zBig, w.before _ s = true := fun w h => hts w (List.mem_cons_of_mem _ h)
  have hown : s.vm.findClass "LetterSums$Sum" = some zm.cls := findClass_of_methodNamed zBL.named
  have hlocks := zBL.notSynchronized
  have hl := lv_entry ([.ref (a 2), .int (nI k)]) (n := 2) (Nat.le_of_ble_eq_true rfl)
  rw [lg_entry_eq]
  generalize (lg_sl ([.ref (a 2), .int (nI k)]) ++ List.replicate (2 - (lg_sl ([.ref (a 2), .int (nI k)])).length) Slot.unset).toArray = ls at hl ⊢
  have hl : lv_has ls 2 [(0, .ref (a 2)), (1, .int (nI k))] := hl
  refine lv_aload_n hx hb dS_isTakenAway_0 rfl (lv_at hl 0 rfl) ?_
  refine lv_aload_n hx hb dS_isTakenAway_1 rfl (lv_at hl 0 rfl) ?_
  refine gr_2_starts hx hb hz hi_S hown hK hP (hz _ q_79) dS_isTakenAway_2 ?_
  refine lv_iload_n hx hb dS_isTakenAway_5 rfl (lv_at hl 1 rfl) ?_
  refine zald (v := g 2 k) hx hb hK hP 4 0 rfl rfl k rfl (by omega) (by decide) rfl dS_isTakenAway_6 ?_
  refine lv_iconst (v := nI 1) hx hb dS_isTakenAway_7 (by decide) ?_
  refine lv_isub hx hb dS_isTakenAway_8 ?_
  refine zq_e (zrV (rest := []) ⟨hx, hb, hml, hown, hz⟩ (c_byteAt l dC dI cA a f g (g 2 k - nI 1) n hn h9) ⟨zcB 1 hz q_318 q_5 q_321 (by decide +kernel) rfl rfl ⟨Nat.le_of_ble_eq_true rfl, Nat.le_of_ble_eq_true rfl⟩, hz _ q_319, hz _ q_320⟩ hK hN hP 2 4 rfl rfl rfl rfl hl.1 rfl (Nat.le_of_ble_eq_true rfl) dS_isTakenAway_9 ⟨Nat.zero_le _, Nat.zero_le _⟩) ?_
  refine lv_bipush (v := nI 45) hx hb dS_isTakenAway_12 (by decide) ?_
  refine lv_icmp_ne (tgt := 21) hx hb dS_isTakenAway_14 (by decide) (fun c_14 => ?_) (fun c_14 => ?_)
  · refine lv_iconst (v := nI 0) hx hb dS_isTakenAway_21 (by decide) ?_
    exact W.zret hx hb hr rfl (fun zT zh _ => ⟨_, rfl, (by unfold zTk; rw [decide_eq_false c_14]; rfl), zh⟩) t_nil dS_isTakenAway_22
  · refine lv_iconst (v := nI 1) hx hb dS_isTakenAway_17 (by decide) ?_
    refine lv_goto (tgt := 22) hx hb dS_isTakenAway_18 (by decide) ?_
    exact W.zret hx hb hr rfl (fun zT zh _ => ⟨_, rfl, (by unfold zTk; rw [decide_eq_true c_14]; rfl), zh⟩) t_nil dS_isTakenAway_22
