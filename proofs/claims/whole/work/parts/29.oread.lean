set_option maxHeartbeats 4000000 in
set_option maxRecDepth 100000 in
theorem c_isKept (l : Launch) (dC : Nat → ClassId) (dI : Nat → Nat → Nat) (cA : ClassId) (a : Nat → Nat) (f : Nat → Int32) (g : Nat → Nat → Int32) (ka : Int32) (kept : Nat) (hkept : kept ≤ 1000) (h2 : f 2 = nI kept) : Met l yO_isKept wsO_isKept ({ frames := 0, cells := 0, slots := 0, locals := 0 }) (va_Pc [.ref (a 20), .int ka] (zPW (dC, dI) vwCl [(cA, .int)] (WS cA a f g))) (vp_Si (fun r => r = (zB (zKept kept ka)))) 0 0 (fun _ => False) := by
  refine Met.ofW (cc := prog_1_method_15_code) (maxL := 2) (ret := (some .boolean)) (by decide) rfl ?_
  intro zp ze s zm args below meth zc s₁ zBL hml hv
  obtain ⟨rfl, hP, hK, hN⟩ := hv
  have hx := zBL.exec
  have hb := zBL.bytes
  have hr := zBL.returns
  have hts := atoms_spec (ws := wsO_isKept) zBL.pre
  have hz : ∀ w ∈ zBig, w.before _ s = true := fun w h => hts w (List.mem_cons_of_mem _ h)
  have hown : s.vm.findClass "LetterSums" = some zm.cls := findClass_of_methodNamed zBL.named
  have hlocks := zBL.notSynchronized
  have hl := lv_entry ([.ref (a 20), .int ka]) (n := 2) (Nat.le_of_ble_eq_true rfl)
  rw [lg_entry_eq]
  generalize (lg_sl ([.ref (a 20), .int ka]) ++ List.replicate (2 - (lg_sl ([.ref (a 20), .int ka])).length) Slot.unset).toArray = ls at hl ⊢
  have hl : lv_has ls 2 [(0, .ref (a 20)), (1, .int ka)] := hl
  refine lv_iload_n hx hb dO_isKept_0 rfl (lv_at hl 1 rfl) ?_
  refine lv_if_lt (tgt := 16) hx hb dO_isKept_1 (by decide) (fun c_1 => ?_) (fun c_1 => ?_)
  · refine lv_iconst (v := nI 0) hx hb dO_isKept_16 (by decide) ?_
    exact W.zret hx hb hr rfl (fun zT zh _ => ⟨_, rfl, (by rw [zKept_neg c_1]; rfl), zh⟩) t_nil dO_isKept_17
  · refine lv_iload_n hx hb dO_isKept_4 rfl (lv_at hl 1 rfl) ?_
    refine lv_aload_n hx hb dO_isKept_5 rfl (lv_at hl 0 rfl) ?_
    refine ogf_2 (v := nI kept) hx hb hz hi_O hown hK hP (hz _ q_186) h2 dO_isKept_6 ?_
    refine lv_icmp_ge (tgt := 16) hx hb dO_isKept_9 (by decide) (fun c_9 => ?_) (fun c_9 => ?_)
    · refine lv_iconst (v := nI 0) hx hb dO_isKept_16 (by decide) ?_
      exact W.zret hx hb hr rfl (fun zT zh _ => ⟨_, rfl, (by rw [zKept_big (by omega) c_9]; rfl), zh⟩) t_nil dO_isKept_17
    · obtain ⟨j, hj, hk⟩ := zAt_ix (n := kept) (by omega) c_1 c_9
      refine lv_iconst (v := nI 1) hx hb dO_isKept_12 (by decide) ?_
      refine lv_goto (tgt := 17) hx hb dO_isKept_13 (by decide) ?_
      exact W.zret hx hb hr rfl (fun zT zh _ => ⟨_, rfl, (by rw [zKept_in (by omega) hj hk]; rfl), zh⟩) t_nil dO_isKept_17

set_option maxHeartbeats 4000000 in
set_option maxRecDepth 100000 in
theorem c_current (l : Launch) (dC : Nat → ClassId) (dI : Nat → Nat → Nat) (cA : ClassId) (a : Nat → Nat) (f : Nat → Int32) (g : Nat → Nat → Int32) (bar : Bool) (h1 : f 1 = zB bar) : Met l yO_currentAnswers wsO_currentAnswers ({ frames := 0, cells := 0, slots := 0, locals := 0 }) (va_Pc [.ref (a 20)] (zPW (dC, dI) vwCl [(cA, .int)] (WS cA a f g))) (zSr (cond bar (a 16) (a 18))) 0 0 (fun _ => False) := by
  refine Met.ofW (cc := prog_1_method_17_code) (maxL := 1) (ret := (some (.object "LetterSums$Answers"))) (by decide) rfl ?_
  intro zp ze s zm args below meth zc s₁ zBL hml hv
  obtain ⟨rfl, hP, hK, hN⟩ := hv
  have hx := zBL.exec
  have hb := zBL.bytes
  have hr := zBL.returns
  have hts := atoms_spec (ws := wsO_currentAnswers) zBL.pre
  have hz : ∀ w ∈ zBig, w.before _ s = true := fun w h => hts w (List.mem_cons_of_mem _ h)
  have hown : s.vm.findClass "LetterSums" = some zm.cls := findClass_of_methodNamed zBL.named
  have hlocks := zBL.notSynchronized
  have hl := lv_entry ([.ref (a 20)]) (n := 1) (Nat.le_of_ble_eq_true rfl)
  rw [lg_entry_eq]
  generalize (lg_sl ([.ref (a 20)]) ++ List.replicate (1 - (lg_sl ([.ref (a 20)])).length) Slot.unset).toArray = ls at hl ⊢
  have hl : lv_has ls 1 [(0, .ref (a 20))] := hl
  refine lv_aload_n hx hb dO_currentAnswers_0 rfl (lv_at hl 0 rfl) ?_
  refine ogf_1 (v := zB bar) hx hb hz hi_O hown hK hP (hz _ q_185) h1 dO_currentAnswers_1 ?_
  refine lv_if_eq (tgt := 14) hx hb dO_currentAnswers_4 (by decide) (fun c_4 => ?_) (fun c_4 => ?_)
  · have c_4 : bar = false := zB_eq0.mp c_4
    subst c_4
    refine lv_aload_n hx hb dO_currentAnswers_14 rfl (lv_at hl 0 rfl) ?_
    refine ogr_20_freeAnswers hx hb hz hi_O hown hK hP (hz _ q_184) dO_currentAnswers_15 ?_
    exact W.aret hx hb hr (Or.inl ⟨_, rfl⟩) (Or.inr ⟨_, rfl⟩) (fun zT zh _ => ⟨rfl, zh⟩) t_nil dO_currentAnswers_18
  · have c_4 : bar = true := zB_n0 c_4
    subst c_4
    refine lv_aload_n hx hb dO_currentAnswers_7 rfl (lv_at hl 0 rfl) ?_
    refine ogr_20_barredAnswers hx hb hz hi_O hown hK hP (hz _ q_183) dO_currentAnswers_8 ?_
    refine lv_goto (tgt := 18) hx hb dO_currentAnswers_11 (by decide) ?_
    exact W.aret hx hb hr (Or.inl ⟨_, rfl⟩) (Or.inr ⟨_, rfl⟩) (fun zT zh _ => ⟨rfl, zh⟩) t_nil dO_currentAnswers_18

set_option maxHeartbeats 4000000 in
set_option maxRecDepth 100000 in
theorem c_answer (l : Launch) (dC : Nat → ClassId) (dI : Nat → Nat → Nat) (cA : ClassId) (a : Nat → Nat) (f : Nat → Int32) (g : Nat → Nat → Int32) (ka : Int32) (bar : Bool) (h1 : f 1 = zB bar) (cnt : Nat) (hcnt : cnt ≤ 1000) (hc : f (cond bar 22 24) = nI cnt) : Met l yO_answer wsO_answer ({ frames := 1, cells := 0, slots := 0, locals := 21 }) (va_Pc [.ref (a 20), .int ka] (zPW (dC, dI) vwCl [(cA, .int)] (WS cA a f g))) (vp_Si (fun r => r = (zAt (nI 0) (cond bar (g 12) (g 13)) cnt ka))) 0 0 (fun _ => False) := by
  refine Met.ofW (cc := prog_1_method_16_code) (maxL := 2) (ret := (some .int)) (by decide) rfl ?_
  intro zp ze s zm args below meth zc s₁ zBL hml hv
  obtain ⟨rfl, hP, hK, hN⟩ := hv
  have hx := zBL.exec
  have hb := zBL.bytes
  have hr := zBL.returns
  have hts := atoms_spec (ws := wsO_answer) zBL.pre
  have hz : ∀ w ∈ zBig, w.before _ s = true := fun w h => hts w (List.mem_cons_of_mem _ h)
  have hown : s.vm.findClass "LetterSums" = some zm.cls := findClass_of_methodNamed zBL.named
  have hlocks := zBL.notSynchronized
  have hl := lv_entry ([.ref (a 20), .int ka]) (n := 2) (Nat.le_of_ble_eq_true rfl)
  rw [lg_entry_eq]
  generalize (lg_sl ([.ref (a 20), .int ka]) ++ List.replicate (2 - (lg_sl ([.ref (a 20), .int ka])).length) Slot.unset).toArray = ls at hl ⊢
  have hl : lv_has ls 2 [(0, .ref (a 20)), (1, .int ka)] := hl
  cases bar with
  | true =>
    refine lv_aload_n hx hb dO_answer_0 rfl (lv_at hl 0 rfl) ?_
    refine zq_r (zrV (rest := []) ⟨hx, hb, hml, hown, hz⟩ (c_current l dC dI cA a f g true h1) ⟨zcB 0 hz q_292 q_1 q_295 (by decide +kernel) rfl rfl ⟨Nat.le_of_ble_eq_true rfl, Nat.le_of_ble_eq_true rfl⟩, hz _ q_294, hz _ qs_8⟩ hK hN hP 20 0 rfl rfl rfl rfl hl.1 rfl (Nat.le_of_ble_eq_true rfl) dO_answer_1 ⟨Nat.zero_le _, Nat.zero_le _⟩) ?_
    refine lv_iload_n hx hb dO_answer_4 rfl (lv_at hl 1 rfl) ?_
    refine zq_e (zrV (rest := []) ⟨hx, hb, hml, hown, hz⟩ (c_get l dC dI cA a f g ka cnt hcnt hc) ⟨zcB 1 hz q_389 q_2 q_392 (by decide +kernel) rfl rfl ⟨Nat.le_of_ble_eq_true rfl, Nat.le_of_ble_eq_true rfl⟩, hz _ q_390, hz _ q_391⟩ hK hN (WS_WT hP) 16 1 rfl rfl rfl rfl hl.1 rfl (Nat.le_of_ble_eq_true rfl) dO_answer_5 ⟨Nat.zero_le _, Nat.zero_le _⟩) ?_
    exact W.iret hx hb hr (fun zT zh _ => ⟨_, rfl, rfl, zh⟩) t_nil dO_answer_8
  | false =>
    refine lv_aload_n hx hb dO_answer_0 rfl (lv_at hl 0 rfl) ?_
    refine zq_r (zrV (rest := []) ⟨hx, hb, hml, hown, hz⟩ (c_current l dC dI cA a f g false h1) ⟨zcB 0 hz q_292 q_1 q_295 (by decide +kernel) rfl rfl ⟨Nat.le_of_ble_eq_true rfl, Nat.le_of_ble_eq_true rfl⟩, hz _ q_294, hz _ qs_8⟩ hK hN hP 20 0 rfl rfl rfl rfl hl.1 rfl (Nat.le_of_ble_eq_true rfl) dO_answer_1 ⟨Nat.zero_le _, Nat.zero_le _⟩) ?_
    refine lv_iload_n hx hb dO_answer_4 rfl (lv_at hl 1 rfl) ?_
    refine zq_e (zrV (rest := []) ⟨hx, hb, hml, hown, hz⟩ (c_get l dC dI cA (swA a) (swF f) (swG g) ka cnt hcnt hc) ⟨zcB 1 hz q_389 q_2 q_392 (by decide +kernel) rfl rfl ⟨Nat.le_of_ble_eq_true rfl, Nat.le_of_ble_eq_true rfl⟩, hz _ q_390, hz _ q_391⟩ hK hN (WT_sw (WS_WT hP)) 16 1 rfl rfl rfl rfl hl.1 rfl (Nat.le_of_ble_eq_true rfl) dO_answer_5 ⟨Nat.zero_le _, Nat.zero_le _⟩) ?_
    exact W.iret hx hb hr (fun zT zh _ => ⟨_, rfl, rfl, zh⟩) t_nil dO_answer_8

set_option maxHeartbeats 4000000 in
set_option maxRecDepth 100000 in
theorem c_letters (l : Launch) (dC : Nat → ClassId) (dI : Nat → Nat → Nat) (cA : ClassId) (a : Nat → Nat) (f : Nat → Int32) (g : Nat → Nat → Int32) (lc : Nat) (h12 : f 12 = nI lc) : Met l yO_letters wsO_letters ({ frames := 0, cells := 0, slots := 0, locals := 0 }) (va_Pc [.ref (a 20)] (zPW (dC, dI) vwCl [(cA, .int)] (WS cA a f g))) (vp_Si (fun r => r = (nI lc))) 0 0 (fun _ => False) := by
  refine Met.ofW (cc := prog_1_method_5_code) (maxL := 1) (ret := (some .int)) (by decide) rfl ?_
  intro zp ze s zm args below meth zc s₁ zBL hml hv
  obtain ⟨rfl, hP, hK, hN⟩ := hv
  have hx := zBL.exec
  have hb := zBL.bytes
  have hr := zBL.returns
  have hts := atoms_spec (ws := wsO_letters) zBL.pre
  have hz : ∀ w ∈ zBig, w.before _ s = true := fun w h => hts w (List.mem_cons_of_mem _ h)
  have hown : s.vm.findClass "LetterSums" = some zm.cls := findClass_of_methodNamed zBL.named
  have hlocks := zBL.notSynchronized
  have hl := lv_entry ([.ref (a 20)]) (n := 1) (Nat.le_of_ble_eq_true rfl)
  rw [lg_entry_eq]
  generalize (lg_sl ([.ref (a 20)]) ++ List.replicate (1 - (lg_sl ([.ref (a 20)])).length) Slot.unset).toArray = ls at hl ⊢
  have hl : lv_has ls 1 [(0, .ref (a 20))] := hl
  refine lv_aload_n hx hb dO_letters_0 rfl (lv_at hl 0 rfl) ?_
  refine ogr_20_sum hx hb hz hi_O hown hK hP (hz _ q_181) dO_letters_1 ?_
  refine ogf_12N (v := nI lc) hx hb hz hi_S hown hK hP (va_Nw.use rfl (hN _ qn_91)) h12 dO_letters_4 ?_
  exact W.iret hx hb hr (fun zT zh _ => ⟨_, rfl, rfl, zh⟩) t_nil dO_letters_7

set_option maxHeartbeats 4000000 in
set_option maxRecDepth 100000 in
theorem c_letter (l : Launch) (dC : Nat → ClassId) (dI : Nat → Nat → Nat) (cA : ClassId) (a : Nat → Nat) (f : Nat → Int32) (g : Nat → Nat → Int32) (ka : Int32) (lc : Nat) (hlc : lc ≤ 8) (h12 : f 12 = nI lc) : Met l yO_letter wsO_letter ({ frames := 1, cells := 0, slots := 0, locals := 21 }) (va_Pc [.ref (a 20), .int ka] (zPW (dC, dI) vwCl [(cA, .int)] (WS cA a f g))) (vp_Si (fun r => r = (zAt (-1) (g 4) lc ka))) 0 0 (fun _ => False) := by
  refine Met.ofW (cc := prog_1_method_6_code) (maxL := 2) (ret := (some .int)) (by decide) rfl ?_
  intro zp ze s zm args below meth zc s₁ zBL hml hv
  obtain ⟨rfl, hP, hK, hN⟩ := hv
  have hx := zBL.exec
  have hb := zBL.bytes
  have hr := zBL.returns
  have hts := atoms_spec (ws := wsO_letter) zBL.pre
  have hz : ∀ w ∈ zBig, w.before _ s = true := fun w h => hts w (List.mem_cons_of_mem _ h)
  have hown : s.vm.findClass "LetterSums" = some zm.cls := findClass_of_methodNamed zBL.named
  have hlocks := zBL.notSynchronized
  have hl := lv_entry ([.ref (a 20), .int ka]) (n := 2) (Nat.le_of_ble_eq_true rfl)
  rw [lg_entry_eq]
  generalize (lg_sl ([.ref (a 20), .int ka]) ++ List.replicate (2 - (lg_sl ([.ref (a 20), .int ka])).length) Slot.unset).toArray = ls at hl ⊢
  have hl : lv_has ls 2 [(0, .ref (a 20)), (1, .int ka)] := hl
  refine lv_aload_n hx hb dO_letter_0 rfl (lv_at hl 0 rfl) ?_
  refine ogr_20_sum hx hb hz hi_O hown hK hP (hz _ q_181) dO_letter_1 ?_
  refine lv_iload_n hx hb dO_letter_4 rfl (lv_at hl 1 rfl) ?_
  refine zq_e (zrV (rest := []) ⟨hx, hb, hml, hown, hz⟩ (c_letterAt l dC dI cA a f g ka lc hlc h12) ⟨zcB 1 hz q_280 q_5 q_283 (by decide +kernel) rfl rfl ⟨Nat.le_of_ble_eq_true rfl, Nat.le_of_ble_eq_true rfl⟩, hz _ q_281, hz _ q_282⟩ hK hN (WS_WT hP) 2 4 rfl rfl rfl rfl hl.1 rfl (Nat.le_of_ble_eq_true rfl) dO_letter_5 ⟨Nat.zero_le _, Nat.zero_le _⟩) ?_
  exact W.iret hx hb hr (fun zT zh _ => ⟨_, rfl, rfl, zh⟩) t_nil dO_letter_8

set_option maxHeartbeats 4000000 in
set_option maxRecDepth 100000 in
theorem c_digit (l : Launch) (dC : Nat → ClassId) (dI : Nat → Nat → Nat) (cA : ClassId) (a : Nat → Nat) (f : Nat → Int32) (g : Nat → Nat → Int32) (ka c : Int32) (kept : Nat) (hkept : kept ≤ 1000) (h2 : f 2 = nI kept) (bar : Bool) (h1 : f 1 = zB bar) (cnt : Nat) (hcnt : cnt ≤ 1000) (hc : f (cond bar 22 24) = nI cnt) : Met l yO_digit wsO_digit ({ frames := 2, cells := 0, slots := 0, locals := 42 }) (va_Pc [.ref (a 20), .int ka, .int c] (zPW (dC, dI) vwCl [(cA, .int)] (WS cA a f g))) (vp_Si (fun r => r = (zDi (zKept kept ka) (zSl (g 5) c) (zDo (zAt (nI 0) (cond bar (g 12) (g 13)) cnt ka) (zSl (g 5) c))))) 0 0 (fun _ => False) := by
  refine Met.ofW (cc := prog_1_method_8_code) (maxL := 4) (ret := (some .int)) (by decide) rfl ?_
  intro zp ze s zm args below meth zc s₁ zBL hml hv
  obtain ⟨rfl, hP, hK, hN⟩ := hv
  have hx := zBL.exec
  have hb := zBL.bytes
  have hr := zBL.returns
  have hts := atoms_spec (ws := wsO_digit) zBL.pre
  have hz : ∀ w ∈ zBig, w.before _ s = true := fun w h => hts w (List.mem_cons_of_mem _ h)
  have hown : s.vm.findClass "LetterSums" = some zm.cls := findClass_of_methodNamed zBL.named
  have hlocks := zBL.notSynchronized
  have hl := lv_entry ([.ref (a 20), .int ka, .int c]) (n := 4) (Nat.le_of_ble_eq_true rfl)
  rw [lg_entry_eq]
  generalize (lg_sl ([.ref (a 20), .int ka, .int c]) ++ List.replicate (4 - (lg_sl ([.ref (a 20), .int ka, .int c])).length) Slot.unset).toArray = ls at hl ⊢
  have hl : lv_has ls 4 [(0, .ref (a 20)), (1, .int ka), (2, .int c)] := hl
  refine lv_aload_n hx hb dO_digit_0 rfl (lv_at hl 0 rfl) ?_
  refine ogr_20_sum hx hb hz hi_O hown hK hP (hz _ q_181) dO_digit_1 ?_
  refine lv_iload_n hx hb dO_digit_4 rfl (lv_at hl 2 rfl) ?_
  refine zq_e (zrV (rest := []) ⟨hx, hb, hml, hown, hz⟩ (c_slotOf l dC dI cA a f g c) ⟨zcB 1 hz q_380 q_5 q_326 (by decide +kernel) rfl rfl ⟨Nat.le_of_ble_eq_true rfl, Nat.le_of_ble_eq_true rfl⟩, hz _ q_324, hz _ q_325⟩ hK hN (WS_WT hP) 2 4 rfl rfl rfl rfl hl.1 rfl (Nat.le_of_ble_eq_true rfl) dO_digit_5 ⟨Nat.zero_le _, Nat.zero_le _⟩) ?_
  refine lv_istore_n (lv' := [(3, .int (zSl (g 5) c)), (0, .ref (a 20)), (1, .int ka), (2, .int c)]) hx hb dO_digit_8 rfl hl (by decide) rfl (fun ls hl => ?_)
  refine lv_aload_n hx hb dO_digit_9 rfl (lv_at hl 1 rfl) ?_
  refine lv_iload_n hx hb dO_digit_10 rfl (lv_at hl 2 rfl) ?_
  refine zq_e (zrV (rest := []) ⟨hx, hb, hml, hown, hz⟩ (c_isKept l dC dI cA a f g ka kept hkept h2) ⟨zcB 1 hz q_381 q_1 q_384 (by decide +kernel) rfl rfl ⟨Nat.le_of_ble_eq_true rfl, Nat.le_of_ble_eq_true rfl⟩, hz _ q_383, hz _ qs_17⟩ hK hN hP 20 0 rfl rfl rfl rfl hl.1 rfl (Nat.le_of_ble_eq_true rfl) dO_digit_11 ⟨Nat.zero_le _, Nat.zero_le _⟩) ?_
  refine lv_if_eq (tgt := 22) hx hb dO_digit_14 (by decide) (fun c_14 => ?_) (fun c_14 => ?_)
  · have c_14 : zKept kept ka = false := zB_eq0.mp c_14
    refine lv_iconst (v := (-1)) hx hb dO_digit_22 (by decide) ?_
    exact W.iret hx hb hr (fun zT zh _ => ⟨_, rfl, (if_neg (by simp [c_14])).symm, zh⟩) t_nil dO_digit_23
  · have c_14 : zKept kept ka = true := zB_n0 c_14
    refine lv_iload_n hx hb dO_digit_17 rfl (lv_at hl 0 rfl) ?_
    refine lv_iconst (v := (-1)) hx hb dO_digit_18 (by decide) ?_
    refine lv_icmp_ne (tgt := 24) hx hb dO_digit_19 (by decide) (fun c_19 => ?_) (fun c_19 => ?_)
    · refine lv_aload_n hx hb dO_digit_24 rfl (lv_at hl 1 rfl) ?_
      refine lv_iload_n hx hb dO_digit_25 rfl (lv_at hl 2 rfl) ?_
      refine zq_e (zrV (rest := []) ⟨hx, hb, hml, hown, hz⟩ (c_answer l dC dI cA a f g ka bar h1 cnt hcnt hc) ⟨zcB 1 hz q_385 q_1 q_388 (by decide +kernel) rfl rfl ⟨Nat.le_of_ble_eq_true rfl, Nat.le_of_ble_eq_true rfl⟩, hz _ q_387, hz _ qs_18⟩ hK hN hP 20 0 rfl rfl rfl rfl hl.1 rfl (Nat.le_of_ble_eq_true rfl) dO_digit_26 ⟨Nat.zero_le _, Nat.zero_le _⟩) ?_
      refine lv_iload_n hx hb dO_digit_29 rfl (lv_at hl 0 rfl) ?_
      refine zq_e (zrS0 (rest := []) ⟨hx, hb, hml, hown, hz⟩ (c_digitOf l  (zAt (nI 0) (cond bar (g 12) (g 13)) cnt ka) (zSl (g 5) c)) ⟨zcB 2 hz q_393 q_1 q_395 (by decide +kernel) rfl rfl ⟨Nat.le_of_ble_eq_true rfl, Nat.le_of_ble_eq_true rfl⟩, hz _ q_394⟩ rfl hl.1 rfl (Nat.le_of_ble_eq_true rfl) dO_digit_30 ⟨Nat.zero_le _, Nat.zero_le _⟩) ?_
      exact W.iret hx hb hr (fun zT zh _ => ⟨_, rfl, (if_pos ⟨c_14, c_19⟩).symm, zh⟩) t_nil dO_digit_33
    · refine lv_iconst (v := (-1)) hx hb dO_digit_22 (by decide) ?_
      exact W.iret hx hb hr (fun zT zh _ => ⟨_, rfl, (if_neg (fun q => q.2 c_19)).symm, zh⟩) t_nil dO_digit_23

set_option maxHeartbeats 4000000 in
set_option maxRecDepth 100000 in
theorem c_side (l : Launch) (dC : Nat → ClassId) (dI : Nat → Nat → Nat) (cA : ClassId) (a : Nat → Nat) (f : Nat → Int32) (g : Nat → Nat → Int32) (ka s0 : Int32) (kept : Nat) (hkept : kept ≤ 1000) (h2 : f 2 = nI kept) (bar : Bool) (h1 : f 1 = zB bar) (cnt : Nat) (hcnt : cnt ≤ 1000) (hc : f (cond bar 22 24) = nI cnt) (n : Nat) (hn : n ≤ 80) (h9 : f 9 = nI n) (nw : Nat) (hnw : nw ≤ 8) (h11 : f 11 = nI nw) (B : Nat) (h8 : f 8 = nI B) (st en : Nat → Nat) (hst : ∀ k, k < nw → g 2 k = nI (st k)) (hen : ∀ k, k < nw → g 3 k = nI (en k)) (hle : ∀ k, k < nw → st k ≤ en k ∧ en k ≤ 80) : Met l yO_side wsO_side ({ frames := 5, cells := 0, slots := 0, locals := 118 }) (va_Pc [.ref (a 20), .int ka, .int s0] (zPW (dC, dI) vwCl [(cA, .int)] (WS cA a f g))) (vp_Sl (fun r => r = (if zKept kept ka = true ∧ 0 ≤ s0.toInt ∧ s0.toInt ≤ 1 then zSv (zBh f g) (zTk g n) (fun k => zHv (nI B).toInt64 (fun zi => zDg (g 1) n (g 5) (nI zi) (zAt (nI 0) (cond bar (g 12) (g 13)) cnt ka)) (en k - max (st k) (en k - 8)) (max (st k) (en k - 8)) (lN 0)) (decide (s0 = nI 1)) nw 0 (lN 0) else -1))) 0 0 (fun _ => False) := by
  refine Met.ofW (cc := prog_1_method_9_code) (maxL := 3) (ret := (some .long)) (by decide) rfl ?_
  intro zp ze s zm args below meth zc s₁ zBL hml hv
  obtain ⟨rfl, hP, hK, hN⟩ := hv
  have hx := zBL.exec
  have hb := zBL.bytes
  have hr := zBL.returns
  have hts := atoms_spec (ws := wsO_side) zBL.pre
  have hz : ∀ w ∈ zBig, w.before _ s = true := fun w h => hts w (List.mem_cons_of_mem _ h)
  have hown : s.vm.findClass "LetterSums" = some zm.cls := findClass_of_methodNamed zBL.named
  have hlocks := zBL.notSynchronized
  have hl := lv_entry ([.ref (a 20), .int ka, .int s0]) (n := 3) (Nat.le_of_ble_eq_true rfl)
  rw [lg_entry_eq]
  generalize (lg_sl ([.ref (a 20), .int ka, .int s0]) ++ List.replicate (3 - (lg_sl ([.ref (a 20), .int ka, .int s0])).length) Slot.unset).toArray = ls at hl ⊢
  have hl : lv_has ls 3 [(0, .ref (a 20)), (1, .int ka), (2, .int s0)] := hl
  refine lv_aload_n hx hb dO_side_0 rfl (lv_at hl 0 rfl) ?_
  refine lv_iload_n hx hb dO_side_1 rfl (lv_at hl 1 rfl) ?_
  refine zq_e (zrV (rest := []) ⟨hx, hb, hml, hown, hz⟩ (c_isKept l dC dI cA a f g ka kept hkept h2) ⟨zcB 1 hz q_381 q_1 q_384 (by decide +kernel) rfl rfl ⟨Nat.le_of_ble_eq_true rfl, Nat.le_of_ble_eq_true rfl⟩, hz _ q_383, hz _ qs_17⟩ hK hN hP 20 0 rfl rfl rfl rfl hl.1 rfl (Nat.le_of_ble_eq_true rfl) dO_side_2 ⟨Nat.zero_le _, Nat.zero_le _⟩) ?_
  refine lv_if_eq (tgt := 17) hx hb dO_side_5 (by decide) (fun c_5 => ?_) (fun c_5 => ?_)
  · have c_5 : zKept kept ka = false := zB_eq0.mp c_5
    refine lv_ldc2 hx hb hown (hz _ q_400) dO_side_17 ?_
    exact W.lret hx hb hr (fun zT zh _ => ⟨_, rfl, (if_neg (by simp [c_5])).symm, zh⟩) t_nil dO_side_20
  · have c_5 : zKept kept ka = true := zB_n0 c_5
    refine lv_iload_n hx hb dO_side_8 rfl (lv_at hl 2 rfl) ?_
    refine lv_if_lt (tgt := 17) hx hb dO_side_9 (by decide) (fun c_9 => ?_) (fun c_9 => ?_)
    · refine lv_ldc2 hx hb hown (hz _ q_400) dO_side_17 ?_
      exact W.lret hx hb hr (fun zT zh _ => ⟨_, rfl, (if_neg (fun q => zSd3 c_9 q.2.1)).symm, zh⟩) t_nil dO_side_20
    · refine lv_iload_n hx hb dO_side_12 rfl (lv_at hl 2 rfl) ?_
      refine lv_iconst (v := nI 1) hx hb dO_side_13 (by decide) ?_
      refine lv_icmp_le (tgt := 21) hx hb dO_side_14 (by decide) (fun c_14 => ?_) (fun c_14 => ?_)
      · refine lv_aload_n hx hb dO_side_21 rfl (lv_at hl 0 rfl) ?_
        refine ogr_20_sum hx hb hz hi_O hown hK hP (hz _ q_181) dO_side_22 ?_
        refine lv_iload_n hx hb dO_side_25 rfl (lv_at hl 2 rfl) ?_
        refine lv_iconst (v := nI 1) hx hb dO_side_26 (by decide) ?_
        refine lv_icmp_ne (tgt := 34) hx hb dO_side_27 (by decide) (fun c_27 => ?_) (fun c_27 => ?_)
        · refine lv_iconst (v := nI 0) hx hb dO_side_34 (by decide) ?_
          refine zt (y := zB false) (show _ = zB false from rfl) ?_
          refine lv_aload_n hx hb dO_side_35 rfl (lv_at hl 0 rfl) ?_
          refine lv_iload_n hx hb dO_side_36 rfl (lv_at hl 1 rfl) ?_
          refine zq_e (zrV (rest := [.int (zB false), .ref (a 2)]) ⟨hx, hb, hml, hown, hz⟩ (c_answer l dC dI cA a f g ka bar h1 cnt hcnt hc) ⟨zcB 1 hz q_385 q_1 q_388 (by decide +kernel) rfl rfl ⟨Nat.le_of_ble_eq_true rfl, Nat.le_of_ble_eq_true rfl⟩, hz _ q_387, hz _ qs_18⟩ hK hN hP 20 0 rfl rfl rfl rfl hl.1 rfl (Nat.le_of_ble_eq_true rfl) dO_side_37 ⟨Nat.zero_le _, Nat.zero_le _⟩) ?_
          refine zq_le (zrV (rest := []) ⟨hx, hb, hml, hown, hz⟩ (c_sideValue l dC dI cA a f g false n hn h9 nw hnw h11 B h8 (zAt (nI 0) (cond bar (g 12) (g 13)) cnt ka) st en hst hen hle) ⟨zcB 2 hz q_401 q_5 q_404 (by decide +kernel) rfl rfl ⟨Nat.le_of_ble_eq_true rfl, Nat.le_of_ble_eq_true rfl⟩, hz _ q_402, hz _ q_403⟩ hK hN (WS_WT hP) 2 4 rfl rfl rfl rfl hl.1 rfl (Nat.le_of_ble_eq_true rfl) dO_side_40 ⟨Nat.zero_le _, Nat.zero_le _⟩) ?_
          exact W.lret hx hb hr (fun zT zh _ => ⟨_, rfl, (by rw [if_pos ⟨c_5, zSd1 c_9, zSd2 c_14⟩, decide_eq_false c_27]), zh⟩) t_nil dO_side_43
        · refine lv_iconst (v := nI 1) hx hb dO_side_30 (by decide) ?_
          refine zt (y := zB true) (show _ = zB true from rfl) ?_
          refine lv_goto (tgt := 35) hx hb dO_side_31 (by decide) ?_
          refine lv_aload_n hx hb dO_side_35 rfl (lv_at hl 0 rfl) ?_
          refine lv_iload_n hx hb dO_side_36 rfl (lv_at hl 1 rfl) ?_
          refine zq_e (zrV (rest := [.int (zB true), .ref (a 2)]) ⟨hx, hb, hml, hown, hz⟩ (c_answer l dC dI cA a f g ka bar h1 cnt hcnt hc) ⟨zcB 1 hz q_385 q_1 q_388 (by decide +kernel) rfl rfl ⟨Nat.le_of_ble_eq_true rfl, Nat.le_of_ble_eq_true rfl⟩, hz _ q_387, hz _ qs_18⟩ hK hN hP 20 0 rfl rfl rfl rfl hl.1 rfl (Nat.le_of_ble_eq_true rfl) dO_side_37 ⟨Nat.zero_le _, Nat.zero_le _⟩) ?_
          refine zq_le (zrV (rest := []) ⟨hx, hb, hml, hown, hz⟩ (c_sideValue l dC dI cA a f g true n hn h9 nw hnw h11 B h8 (zAt (nI 0) (cond bar (g 12) (g 13)) cnt ka) st en hst hen hle) ⟨zcB 2 hz q_401 q_5 q_404 (by decide +kernel) rfl rfl ⟨Nat.le_of_ble_eq_true rfl, Nat.le_of_ble_eq_true rfl⟩, hz _ q_402, hz _ q_403⟩ hK hN (WS_WT hP) 2 4 rfl rfl rfl rfl hl.1 rfl (Nat.le_of_ble_eq_true rfl) dO_side_40 ⟨Nat.zero_le _, Nat.zero_le _⟩) ?_
          exact W.lret hx hb hr (fun zT zh _ => ⟨_, rfl, (by rw [if_pos ⟨c_5, zSd1 c_9, zSd2 c_14⟩, decide_eq_true c_27]), zh⟩) t_nil dO_side_43
      · refine lv_ldc2 hx hb hown (hz _ q_400) dO_side_17 ?_
        exact W.lret hx hb hr (fun zT zh _ => ⟨_, rfl, (if_neg (fun q => zSd4 c_14 q.2.2)).symm, zh⟩) t_nil dO_side_20

set_option maxHeartbeats 4000000 in
set_option maxRecDepth 100000 in
theorem c_carry (l : Launch) (dC : Nat → ClassId) (dI : Nat → Nat → Nat) (cA : ClassId) (a : Nat → Nat) (f : Nat → Int32) (g : Nat → Nat → Int32) (ka c : Int32) (B : Nat) (hB1 : 1 ≤ B) (hB2 : B ≤ 10) (kept : Nat) (hkept : kept ≤ 1000) (h2 : f 2 = nI kept) (bar : Bool) (h1 : f 1 = zB bar) (cnt : Nat) (hcnt : cnt ≤ 1000) (hc : f (cond bar 22 24) = nI cnt) (n : Nat) (hn : n ≤ 80) (h9 : f 9 = nI n) (nw : Nat) (hnw : nw ≤ 8) (h11 : f 11 = nI nw) (h8 : f 8 = nI B) (st en : Nat → Nat) (hst : ∀ k, k < nw → g 2 k = nI (st k)) (hen : ∀ k, k < nw → g 3 k = nI (en k)) (hle : ∀ k, k < nw → st k ≤ en k ∧ en k ≤ 80) : Met l yO_carry wsO_carry ({ frames := 5, cells := 0, slots := 0, locals := 118 }) (va_Pc [.ref (a 20), .int ka, .int c] (zPW (dC, dI) vwCl [(cA, .int)] (WS cA a f g))) (vp_Si (fun r => r = (if zKept kept ka = true ∧ 0 ≤ c.toInt ∧ c.toInt ≤ 8 ∧ zHc (zTk g n) (zBh f g) nw 0 0 = true then (zCv (zBh f g) (fun k => zHv (nI B).toInt64 (fun zi => zDg (g 1) n (g 5) (nI zi) (zAt (nI 0) (cond bar (g 12) (g 13)) cnt ka)) (en k - max (st k) (en k - (c.toInt.toNat + 1))) (max (st k) (en k - (c.toInt.toNat + 1))) (lN 0)) nw 0 (lN 0) / lN (B ^ (c.toInt.toNat + 1))).toInt32 else -1))) 0 0 (fun _ => False) := by
  refine Met.ofW (cc := prog_1_method_10_code) (maxL := 3) (ret := (some .int)) (by decide) rfl ?_
  intro zp ze s zm args below meth zc s₁ zBL hml hv
  obtain ⟨rfl, hP, hK, hN⟩ := hv
  have hx := zBL.exec
  have hb := zBL.bytes
  have hr := zBL.returns
  have hts := atoms_spec (ws := wsO_carry) zBL.pre
  have hz : ∀ w ∈ zBig, w.before _ s = true := fun w h => hts w (List.mem_cons_of_mem _ h)
  have hown : s.vm.findClass "LetterSums" = some zm.cls := findClass_of_methodNamed zBL.named
  have hlocks := zBL.notSynchronized
  have hl := lv_entry ([.ref (a 20), .int ka, .int c]) (n := 3) (Nat.le_of_ble_eq_true rfl)
  rw [lg_entry_eq]
  generalize (lg_sl ([.ref (a 20), .int ka, .int c]) ++ List.replicate (3 - (lg_sl ([.ref (a 20), .int ka, .int c])).length) Slot.unset).toArray = ls at hl ⊢
  have hl : lv_has ls 3 [(0, .ref (a 20)), (1, .int ka), (2, .int c)] := hl
  refine lv_aload_n hx hb dO_carry_0 rfl (lv_at hl 0 rfl) ?_
  refine lv_iload_n hx hb dO_carry_1 rfl (lv_at hl 1 rfl) ?_
  refine zq_e (zrV (rest := []) ⟨hx, hb, hml, hown, hz⟩ (c_isKept l dC dI cA a f g ka kept hkept h2) ⟨zcB 1 hz q_381 q_1 q_384 (by decide +kernel) rfl rfl ⟨Nat.le_of_ble_eq_true rfl, Nat.le_of_ble_eq_true rfl⟩, hz _ q_383, hz _ qs_17⟩ hK hN hP 20 0 rfl rfl rfl rfl hl.1 rfl (Nat.le_of_ble_eq_true rfl) dO_carry_2 ⟨Nat.zero_le _, Nat.zero_le _⟩) ?_
  refine lv_if_eq (tgt := 28) hx hb dO_carry_5 (by decide) (fun c_5 => ?_) (fun c_5 => ?_)
  · have c_5 : zKept kept ka = false := zB_eq0.mp c_5
    refine lv_iconst (v := (-1)) hx hb dO_carry_28 (by decide) ?_
    exact W.iret hx hb hr (fun zT zh _ => ⟨_, rfl, (if_neg (by simp [c_5])).symm, zh⟩) t_nil dO_carry_29
  · have c_5 : zKept kept ka = true := zB_n0 c_5
    refine lv_iload_n hx hb dO_carry_8 rfl (lv_at hl 2 rfl) ?_
    refine lv_if_lt (tgt := 28) hx hb dO_carry_9 (by decide) (fun c_9 => ?_) (fun c_9 => ?_)
    · refine lv_iconst (v := (-1)) hx hb dO_carry_28 (by decide) ?_
      exact W.iret hx hb hr (fun zT zh _ => ⟨_, rfl, (if_neg (fun q => zSd3 c_9 q.2.1)).symm, zh⟩) t_nil dO_carry_29
    · refine lv_iload_n hx hb dO_carry_12 rfl (lv_at hl 2 rfl) ?_
      refine lv_bipush (v := nI 8) hx hb dO_carry_13 (by decide) ?_
      refine lv_icmp_gt (tgt := 28) hx hb dO_carry_15 (by decide) (fun c_15 => ?_) (fun c_15 => ?_)
      · refine lv_iconst (v := (-1)) hx hb dO_carry_28 (by decide) ?_
        exact W.iret hx hb hr (fun zT zh _ => ⟨_, rfl, (if_neg (fun q => zSd6 c_15 q.2.2.1)).symm, zh⟩) t_nil dO_carry_29
      · obtain ⟨cl, hcl, hc9⟩ := nI_of2 (x := c) (M := nI 8) (n := 8) (by decide) c_9 (Int32.not_lt.mp c_15)
        have hct : c.toInt.toNat = cl := by rw [hc9, nI_toInt (by omega)]; rfl
        refine lv_aload_n hx hb dO_carry_18 rfl (lv_at hl 0 rfl) ?_
        refine ogr_20_sum hx hb hz hi_O hown hK hP (hz _ q_181) dO_carry_19 ?_
        refine zq_e (zrV (rest := []) ⟨hx, hb, hml, hown, hz⟩ (c_hasCarries l dC dI cA a f g n hn h9 nw hnw h11) ⟨zcB 0 hz q_422 q_5 q_425 (by decide +kernel) rfl rfl ⟨Nat.le_of_ble_eq_true rfl, Nat.le_of_ble_eq_true rfl⟩, hz _ q_423, hz _ q_424⟩ hK hN (WS_WT hP) 2 4 rfl rfl rfl rfl hl.1 rfl (Nat.le_of_ble_eq_true rfl) dO_carry_22 ⟨Nat.zero_le _, Nat.zero_le _⟩) ?_
        refine lv_if_ne (tgt := 30) hx hb dO_carry_25 (by decide) (fun c_25 => ?_) (fun c_25 => ?_)
        · have c_25 : zHc (zTk g n) (zBh f g) nw 0 0 = true := zB_n0 c_25
          rw [hc9] at hl
          refine lv_aload_n hx hb dO_carry_30 rfl (lv_at hl 0 rfl) ?_
          refine ogr_20_sum hx hb hz hi_O hown hK hP (hz _ q_181) dO_carry_31 ?_
          refine lv_iload_n hx hb dO_carry_34 rfl (lv_at hl 2 rfl) ?_
          refine lv_aload_n hx hb dO_carry_35 rfl (lv_at hl 0 rfl) ?_
          refine lv_iload_n hx hb dO_carry_36 rfl (lv_at hl 1 rfl) ?_
          refine zq_e (zrV (rest := [.int (nI cl), .ref (a 2)]) ⟨hx, hb, hml, hown, hz⟩ (c_answer l dC dI cA a f g ka bar h1 cnt hcnt hc) ⟨zcB 1 hz q_385 q_1 q_388 (by decide +kernel) rfl rfl ⟨Nat.le_of_ble_eq_true rfl, Nat.le_of_ble_eq_true rfl⟩, hz _ q_387, hz _ qs_18⟩ hK hN hP 20 0 rfl rfl rfl rfl hl.1 rfl (Nat.le_of_ble_eq_true rfl) dO_carry_37 ⟨Nat.zero_le _, Nat.zero_le _⟩) ?_
          refine zq_e (zrV (rest := []) ⟨hx, hb, hml, hown, hz⟩ (c_carryFrom l dC dI cA a f g cl hcl B hB1 hB2 n hn h9 nw hnw h11 h8 (zAt (nI 0) (cond bar (g 12) (g 13)) cnt ka) st en hst hen hle) ⟨zcB 2 hz q_426 q_5 q_429 (by decide +kernel) rfl rfl ⟨Nat.le_of_ble_eq_true rfl, Nat.le_of_ble_eq_true rfl⟩, hz _ q_427, hz _ q_428⟩ hK hN (WS_WT hP) 2 4 rfl rfl rfl rfl hl.1 rfl (Nat.le_of_ble_eq_true rfl) dO_carry_40 ⟨Nat.zero_le _, Nat.zero_le _⟩) ?_
          exact W.iret hx hb hr (fun zT zh _ => ⟨_, rfl, (by rw [if_pos ⟨c_5, zSd1 c_9, zSd5 c_15, c_25⟩, hct]), zh⟩) t_nil dO_carry_43
        · have c_25 : zHc (zTk g n) (zBh f g) nw 0 0 = false := zB_eq0.mp c_25
          refine lv_iconst (v := (-1)) hx hb dO_carry_28 (by decide) ?_
          exact W.iret hx hb hr (fun zT zh _ => ⟨_, rfl, (if_neg (by simp [c_25])).symm, zh⟩) t_nil dO_carry_29

set_option maxHeartbeats 4000000 in
set_option maxRecDepth 100000 in
theorem c_text (l : Launch) (dC : Nat → ClassId) (dI : Nat → Nat → Nat) (cA : ClassId) (a : Nat → Nat) (f : Nat → Int32) (g : Nat → Nat → Int32) (ka i : Int32) (kept : Nat) (hkept : kept ≤ 1000) (h2 : f 2 = nI kept) (bar : Bool) (h1 : f 1 = zB bar) (cnt : Nat) (hcnt : cnt ≤ 1000) (hc : f (cond bar 22 24) = nI cnt) (n : Nat) (hn : n ≤ 80) (h9 : f 9 = nI n) : Met l yO_text wsO_text ({ frames := 3, cells := 0, slots := 0, locals := 65 }) (va_Pc [.ref (a 20), .int ka, .int i] (zPW (dC, dI) vwCl [(cA, .int)] (WS cA a f g))) (vp_Si (fun r => r = (zTx (zKept kept ka) (zLet (zAt (-1) (g 1) n i)) (zAt (-1) (g 1) n i) (zDg (g 1) n (g 5) i (zAt (nI 0) (cond bar (g 12) (g 13)) cnt ka))))) 0 0 (fun _ => False) := by
  refine Met.ofW (cc := prog_1_method_11_code) (maxL := 4) (ret := (some .int)) (by decide) rfl ?_
  intro zp ze s zm args below meth zc s₁ zBL hml hv
  obtain ⟨rfl, hP, hK, hN⟩ := hv
  have hx := zBL.exec
  have hb := zBL.bytes
  have hr := zBL.returns
  have hts := atoms_spec (ws := wsO_text) zBL.pre
  have hz : ∀ w ∈ zBig, w.before _ s = true := fun w h => hts w (List.mem_cons_of_mem _ h)
  have hown : s.vm.findClass "LetterSums" = some zm.cls := findClass_of_methodNamed zBL.named
  have hlocks := zBL.notSynchronized
  have hl := lv_entry ([.ref (a 20), .int ka, .int i]) (n := 4) (Nat.le_of_ble_eq_true rfl)
  rw [lg_entry_eq]
  generalize (lg_sl ([.ref (a 20), .int ka, .int i]) ++ List.replicate (4 - (lg_sl ([.ref (a 20), .int ka, .int i])).length) Slot.unset).toArray = ls at hl ⊢
  have hl : lv_has ls 4 [(0, .ref (a 20)), (1, .int ka), (2, .int i)] := hl
  refine lv_aload_n hx hb dO_text_0 rfl (lv_at hl 0 rfl) ?_
  refine lv_iload_n hx hb dO_text_1 rfl (lv_at hl 1 rfl) ?_
  refine zq_e (zrV (rest := []) ⟨hx, hb, hml, hown, hz⟩ (c_isKept l dC dI cA a f g ka kept hkept h2) ⟨zcB 1 hz q_381 q_1 q_384 (by decide +kernel) rfl rfl ⟨Nat.le_of_ble_eq_true rfl, Nat.le_of_ble_eq_true rfl⟩, hz _ q_383, hz _ qs_17⟩ hK hN hP 20 0 rfl rfl rfl rfl hl.1 rfl (Nat.le_of_ble_eq_true rfl) dO_text_2 ⟨Nat.zero_le _, Nat.zero_le _⟩) ?_
  refine lv_if_ne (tgt := 10) hx hb dO_text_5 (by decide) (fun c_5 => ?_) (fun c_5 => ?_)
  · have c_5 : zKept kept ka = true := zB_n0 c_5
    refine lv_aload_n hx hb dO_text_10 rfl (lv_at hl 0 rfl) ?_
    refine ogr_20_sum hx hb hz hi_O hown hK hP (hz _ q_181) dO_text_11 ?_
    refine lv_iload_n hx hb dO_text_14 rfl (lv_at hl 2 rfl) ?_
    refine zq_e (zrV (rest := []) ⟨hx, hb, hml, hown, hz⟩ (c_byteAt l dC dI cA a f g i n hn h9) ⟨zcB 1 hz q_434 q_5 q_321 (by decide +kernel) rfl rfl ⟨Nat.le_of_ble_eq_true rfl, Nat.le_of_ble_eq_true rfl⟩, hz _ q_319, hz _ q_320⟩ hK hN (WS_WT hP) 2 4 rfl rfl rfl rfl hl.1 rfl (Nat.le_of_ble_eq_true rfl) dO_text_15 ⟨Nat.zero_le _, Nat.zero_le _⟩) ?_
    refine lv_istore_n (lv' := [(3, .int (zAt (-1) (g 1) n i)), (0, .ref (a 20)), (1, .int ka), (2, .int i)]) hx hb dO_text_18 rfl hl (by decide) rfl (fun ls hl => ?_)
    refine lv_iload_n hx hb dO_text_19 rfl (lv_at hl 0 rfl) ?_
    refine zq_e (zrS0 (rest := []) ⟨hx, hb, hml, hown, hz⟩ (c_isLetter l  (zAt (-1) (g 1) n i)) ⟨zcB 1 hz q_435 q_1 q_224 (by decide +kernel) rfl rfl ⟨Nat.le_of_ble_eq_true rfl, Nat.le_of_ble_eq_true rfl⟩, hz _ q_223⟩ rfl hl.1 rfl (Nat.le_of_ble_eq_true rfl) dO_text_20 ⟨Nat.zero_le _, Nat.zero_le _⟩) ?_
    refine lv_if_eq (tgt := 45) hx hb dO_text_23 (by decide) (fun c_23 => ?_) (fun c_23 => ?_)
    · have c_23 := zB_eq0.mp c_23
      refine lv_iload_n hx hb dO_text_45 rfl (lv_at hl 0 rfl) ?_
      exact W.iret hx hb hr (fun zT zh _ => ⟨_, rfl, (by unfold zTx; rw [c_5, c_23]; rfl), zh⟩) t_nil dO_text_46
    · have c_23 := zB_n0 c_23
      refine lv_bipush (v := nI 48) hx hb dO_text_26 (by decide) ?_
      refine lv_aload_n hx hb dO_text_28 rfl (lv_at hl 1 rfl) ?_
      refine ogr_20_sum hx hb hz hi_O hown hK hP (hz _ q_181) dO_text_29 ?_
      refine lv_iload_n hx hb dO_text_32 rfl (lv_at hl 3 rfl) ?_
      refine lv_aload_n hx hb dO_text_33 rfl (lv_at hl 1 rfl) ?_
      refine lv_iload_n hx hb dO_text_34 rfl (lv_at hl 2 rfl) ?_
      refine zq_e (zrV (rest := [.int i, .ref (a 2), .int (nI 48)]) ⟨hx, hb, hml, hown, hz⟩ (c_answer l dC dI cA a f g ka bar h1 cnt hcnt hc) ⟨zcB 1 hz q_385 q_1 q_388 (by decide +kernel) rfl rfl ⟨Nat.le_of_ble_eq_true rfl, Nat.le_of_ble_eq_true rfl⟩, hz _ q_387, hz _ qs_18⟩ hK hN hP 20 0 rfl rfl rfl rfl hl.1 rfl (Nat.le_of_ble_eq_true rfl) dO_text_35 ⟨Nat.zero_le _, Nat.zero_le _⟩) ?_
      refine zq_e (zrV (rest := [.int (nI 48)]) ⟨hx, hb, hml, hown, hz⟩ (c_digitAt l dC dI cA a f g i (zAt (nI 0) (cond bar (g 12) (g 13)) cnt ka) n hn h9) ⟨zcB 2 hz q_436 q_5 q_414 (by decide +kernel) rfl rfl ⟨Nat.le_of_ble_eq_true rfl, Nat.le_of_ble_eq_true rfl⟩, hz _ q_412, hz _ q_413⟩ hK hN (WS_WT hP) 2 4 rfl rfl rfl rfl hl.1 rfl (Nat.le_of_ble_eq_true rfl) dO_text_38 ⟨Nat.zero_le _, Nat.zero_le _⟩) ?_
      refine lv_iadd hx hb dO_text_41 ?_
      refine lv_goto (tgt := 46) hx hb dO_text_42 (by decide) ?_
      exact W.iret hx hb hr (fun zT zh _ => ⟨_, rfl, (by unfold zTx; rw [c_5, c_23]; rfl), zh⟩) t_nil dO_text_46
  · have c_5 : zKept kept ka = false := zB_eq0.mp c_5
    refine lv_iconst (v := (-1)) hx hb dO_text_8 (by decide) ?_
    exact W.iret hx hb hr (fun zT zh _ => ⟨_, rfl, (by unfold zTx; rw [c_5]; rfl), zh⟩) t_nil dO_text_9

set_option maxHeartbeats 4000000 in
set_option maxRecDepth 100000 in
theorem c_same (l : Launch) (dC : Nat → ClassId) (dI : Nat → Nat → Nat) (cA : ClassId) (a : Nat → Nat) (f : Nat → Int32) (g : Nat → Nat → Int32) (e0 : Nat) (kept : Nat) (hkept : kept ≤ 1000) (h2 : f 2 = nI kept) (bar : Bool) (h1 : f 1 = zB bar) (cnt : Nat) (hcnt : cnt ≤ 1000) (hc : f (cond bar 22 24) = nI cnt) (hk1 : 1 ≤ kept) : Met l yO_isAlwaysSame wsO_isAlwaysSame ({ frames := 2, cells := 0, slots := 0, locals := 42 }) (va_Pc [.ref (a 20), .int (nI e0)] (zPW (dC, dI) vwCl [(cA, .int)] (WS cA a f g))) (vp_Si (fun r => r = (zB (zSm (fun k => zDo (zAt (nI 0) (cond bar (g 12) (g 13)) cnt (nI k)) (nI e0)) (kept - 1) 1)))) 0 0 (fun _ => False) := by
  refine Met.ofW (cc := prog_1_method_14_code) (maxL := 4) (ret := (some .boolean)) (by decide) rfl ?_
  intro zp ze s zm args below meth zc s₁ zBL hml hv
  obtain ⟨rfl, hP, hK, hN⟩ := hv
  have hx := zBL.exec
  have hb := zBL.bytes
  have hr := zBL.returns
  have hts := atoms_spec (ws := wsO_isAlwaysSame) zBL.pre
  have hz : ∀ w ∈ zBig, w.before _ s = true := fun w h => hts w (List.mem_cons_of_mem _ h)
  have hown : s.vm.findClass "LetterSums" = some zm.cls := findClass_of_methodNamed zBL.named
  have hlocks := zBL.notSynchronized
  have hl := lv_entry ([.ref (a 20), .int (nI e0)]) (n := 4) (Nat.le_of_ble_eq_true rfl)
  rw [lg_entry_eq]
  generalize (lg_sl ([.ref (a 20), .int (nI e0)]) ++ List.replicate (4 - (lg_sl ([.ref (a 20), .int (nI e0)])).length) Slot.unset).toArray = ls at hl ⊢
  have hl : lv_has ls 4 [(0, .ref (a 20)), (1, .int (nI e0))] := hl
  have loop : ∀ (k0 : Nat) (k : Nat) (ls : Array Slot), kept + 1 ≤ k + k0 → k ≤ kept → zSm (fun k => zDo (zAt (nI 0) (cond bar (g 12) (g 13)) cnt (nI k)) (nI e0)) (kept - k) k = zSm (fun k => zDo (zAt (nI 0) (cond bar (g 12) (g 13)) cnt (nI k)) (nI e0)) (kept - 1) 1 → lv_has ls 4 [(0, .ref (a 20)), (1, .int (nI e0)), (2, .int (zDo (zAt (nI 0) (cond bar (g 12) (g 13)) cnt (nI 0)) (nI e0))), (3, .int (nI k))] → W zp l ze (headSpec wsO_isAlwaysSame ({ frames := 2, cells := 0, slots := 0, locals := 42 })).room s zm ([.ref (a 20), .int (nI e0)] : List Value).toArray below meth zc s.heap [] 0 0 (MQ below (vp_Si (fun r => r = (zB (zSm (fun k => zDo (zAt (nI 0) (cond bar (g 12) (g 13)) cnt (nI k)) (nI e0)) (kept - 1) 1)))) ([.ref (a 20), .int (nI e0)] : List Value).toArray s 0 0 (fun _ => False)) (F0 zm 12 ls []) := by
    intro k0
    induction k0 with
    | zero => intro k ls q1 q2; omega
    | succ k0 ih =>
      intro k ls hk0 hk hR hl
      refine lv_iload_n hx hb dO_isAlwaysSame_12 rfl (lv_at hl 3 rfl) ?_
      refine lv_aload_n hx hb dO_isAlwaysSame_13 rfl (lv_at hl 0 rfl) ?_
      refine ogf_2 (v := nI kept) hx hb hz hi_O hown hK hP (hz _ q_186) h2 dO_isAlwaysSame_14 ?_
      refine lv_icmp_ge (tgt := 41) hx hb dO_isAlwaysSame_17 (by decide) (fun c_17 => ?_) (fun c_17 => ?_)
      · have c_17 := (nI_leI (a := kept) (b := k) (by omega) (by omega)).mp c_17
        refine lv_iconst (v := nI 1) hx hb dO_isAlwaysSame_41 (by decide) ?_
        exact W.zret hx hb hr rfl (fun zT zh _ => ⟨_, rfl, (by rw [← hR, show kept - k = 0 by omega]; rfl), zh⟩) t_nil dO_isAlwaysSame_42
      · have c_17 := mt (nI_leI (a := kept) (b := k) (by omega) (by omega)).mpr c_17
        refine lv_aload_n hx hb dO_isAlwaysSame_20 rfl (lv_at hl 0 rfl) ?_
        refine lv_iload_n hx hb dO_isAlwaysSame_21 rfl (lv_at hl 3 rfl) ?_
        refine zq_e (zrV (rest := []) ⟨hx, hb, hml, hown, hz⟩ (c_answer l dC dI cA a f g (nI k) bar h1 cnt hcnt hc) ⟨zcB 1 hz q_385 q_1 q_388 (by decide +kernel) rfl rfl ⟨Nat.le_of_ble_eq_true rfl, Nat.le_of_ble_eq_true rfl⟩, hz _ q_387, hz _ qs_18⟩ hK hN hP 20 0 rfl rfl rfl rfl hl.1 rfl (Nat.le_of_ble_eq_true rfl) dO_isAlwaysSame_22 ⟨Nat.zero_le _, Nat.zero_le _⟩) ?_
        refine lv_iload_n hx hb dO_isAlwaysSame_25 rfl (lv_at hl 1 rfl) ?_
        refine zq_e (zrS0 (rest := []) ⟨hx, hb, hml, hown, hz⟩ (c_digitOf l  (zAt (nI 0) (cond bar (g 12) (g 13)) cnt (nI k)) (nI e0)) ⟨zcB 2 hz q_393 q_1 q_395 (by decide +kernel) rfl rfl ⟨Nat.le_of_ble_eq_true rfl, Nat.le_of_ble_eq_true rfl⟩, hz _ q_394⟩ rfl hl.1 rfl (Nat.le_of_ble_eq_true rfl) dO_isAlwaysSame_26 ⟨Nat.zero_le _, Nat.zero_le _⟩) ?_
        refine lv_iload_n hx hb dO_isAlwaysSame_29 rfl (lv_at hl 2 rfl) ?_
        refine lv_icmp_eq (tgt := 35) hx hb dO_isAlwaysSame_30 (by decide) (fun c_30 => ?_) (fun c_30 => ?_)
        · refine lv_iinc (v := nI (k + 1)) (lv' := [(3, .int (nI (k + 1))), (0, .ref (a 20)), (1, .int (nI e0)), (2, .int (zDo (zAt (nI 0) (cond bar (g 12) (g 13)) cnt (nI 0)) (nI e0)))]) hx hb dO_isAlwaysSame_35 hl (k := 3) rfl (nI_1 _) (by decide) rfl (fun ls hl => ?_)
          refine lv_goto (tgt := 12) hx hb dO_isAlwaysSame_38 (by decide) ?_
          exact ih (k + 1) ls (by omega) (by omega) (by rw [← hR, show kept - k = (kept - (k + 1)) + 1 by omega]; simp only [zSm]; rw [if_pos c_30]) (lv_sub hl [1, 2, 3, 0] rfl)
        · refine lv_iconst (v := nI 0) hx hb dO_isAlwaysSame_33 (by decide) ?_
          exact W.zret hx hb hr rfl (fun zT zh _ => ⟨_, rfl, (by rw [← hR, show kept - k = (kept - (k + 1)) + 1 by omega]; simp only [zSm]; rw [if_neg c_30]; rfl), zh⟩) t_nil dO_isAlwaysSame_34
  refine lv_aload_n hx hb dO_isAlwaysSame_0 rfl (lv_at hl 0 rfl) ?_
  refine lv_iconst (v := nI 0) hx hb dO_isAlwaysSame_1 (by decide) ?_
  refine zq_e (zrV (rest := []) ⟨hx, hb, hml, hown, hz⟩ (c_answer l dC dI cA a f g (nI 0) bar h1 cnt hcnt hc) ⟨zcB 1 hz q_385 q_1 q_388 (by decide +kernel) rfl rfl ⟨Nat.le_of_ble_eq_true rfl, Nat.le_of_ble_eq_true rfl⟩, hz _ q_387, hz _ qs_18⟩ hK hN hP 20 0 rfl rfl rfl rfl hl.1 rfl (Nat.le_of_ble_eq_true rfl) dO_isAlwaysSame_2 ⟨Nat.zero_le _, Nat.zero_le _⟩) ?_
  refine lv_iload_n hx hb dO_isAlwaysSame_5 rfl (lv_at hl 1 rfl) ?_
  refine zq_e (zrS0 (rest := []) ⟨hx, hb, hml, hown, hz⟩ (c_digitOf l  (zAt (nI 0) (cond bar (g 12) (g 13)) cnt (nI 0)) (nI e0)) ⟨zcB 2 hz q_393 q_1 q_395 (by decide +kernel) rfl rfl ⟨Nat.le_of_ble_eq_true rfl, Nat.le_of_ble_eq_true rfl⟩, hz _ q_394⟩ rfl hl.1 rfl (Nat.le_of_ble_eq_true rfl) dO_isAlwaysSame_6 ⟨Nat.zero_le _, Nat.zero_le _⟩) ?_
  refine lv_istore_n (lv' := [(2, .int (zDo (zAt (nI 0) (cond bar (g 12) (g 13)) cnt (nI 0)) (nI e0))), (0, .ref (a 20)), (1, .int (nI e0))]) hx hb dO_isAlwaysSame_9 rfl hl (by decide) rfl (fun ls hl => ?_)
  refine lv_iconst (v := nI 1) hx hb dO_isAlwaysSame_10 (by decide) ?_
  refine lv_istore_n (lv' := [(3, .int (nI 1)), (2, .int (zDo (zAt (nI 0) (cond bar (g 12) (g 13)) cnt (nI 0)) (nI e0))), (0, .ref (a 20)), (1, .int (nI e0))]) hx hb dO_isAlwaysSame_11 rfl hl (by decide) rfl (fun ls hl => ?_)
  exact loop (kept + 1) 1 ls (by omega) (by omega) rfl (lv_sub hl [2, 3, 1, 0] rfl)

set_option maxHeartbeats 4000000 in
set_option maxRecDepth 100000 in
theorem c_fixed (l : Launch) (dC : Nat → ClassId) (dI : Nat → Nat → Nat) (cA : ClassId) (a : Nat → Nat) (f : Nat → Int32) (g : Nat → Nat → Int32) (kept : Nat) (hkept : kept ≤ 1000) (h2 : f 2 = nI kept) (bar : Bool) (h1 : f 1 = zB bar) (cnt : Nat) (hcnt : cnt ≤ 1000) (hc : f (cond bar 22 24) = nI cnt) (lc : Nat) (hlc : lc ≤ 8) (h12 : f 12 = nI lc) : Met l yO_fixed wsO_fixed ({ frames := 3, cells := 0, slots := 0, locals := 65 }) (va_Pc [.ref (a 20)] (zPW (dC, dI) vwCl [(cA, .int)] (WS cA a f g))) (vp_Si (fun r => r = (if kept = 0 then nI 0 else nI (zFx (fun e0 => zSm (fun k => zDo (zAt (nI 0) (cond bar (g 12) (g 13)) cnt (nI k)) (nI e0)) (kept - 1) 1) lc 0 0)))) 0 0 (fun _ => False) := by
  refine Met.ofW (cc := prog_1_method_13_code) (maxL := 3) (ret := (some .int)) (by decide) rfl ?_
  intro zp ze s zm args below meth zc s₁ zBL hml hv
  obtain ⟨rfl, hP, hK, hN⟩ := hv
  have hx := zBL.exec
  have hb := zBL.bytes
  have hr := zBL.returns
  have hts := atoms_spec (ws := wsO_fixed) zBL.pre
  have hz : ∀ w ∈ zBig, w.before _ s = true := fun w h => hts w (List.mem_cons_of_mem _ h)
  have hown : s.vm.findClass "LetterSums" = some zm.cls := findClass_of_methodNamed zBL.named
  have hlocks := zBL.notSynchronized
  have hl := lv_entry ([.ref (a 20)]) (n := 3) (Nat.le_of_ble_eq_true rfl)
  rw [lg_entry_eq]
  generalize (lg_sl ([.ref (a 20)]) ++ List.replicate (3 - (lg_sl ([.ref (a 20)])).length) Slot.unset).toArray = ls at hl ⊢
  have hl : lv_has ls 3 [(0, .ref (a 20))] := hl
  have loop : ∀ (k0 : Nat) (i c : Nat) (ls : Array Slot), lc + 1 ≤ i + k0 → i ≤ lc → 1 ≤ kept → c ≤ i → zFx (fun e0 => zSm (fun k => zDo (zAt (nI 0) (cond bar (g 12) (g 13)) cnt (nI k)) (nI e0)) (kept - 1) 1) (lc - i) i c = zFx (fun e0 => zSm (fun k => zDo (zAt (nI 0) (cond bar (g 12) (g 13)) cnt (nI k)) (nI e0)) (kept - 1) 1) lc 0 0 → lv_has ls 3 [(0, .ref (a 20)), (1, .int (nI c)), (2, .int (nI i))] → W zp l ze (headSpec wsO_fixed ({ frames := 3, cells := 0, slots := 0, locals := 65 })).room s zm ([.ref (a 20)] : List Value).toArray below meth zc s.heap [] 0 0 (MQ below (vp_Si (fun r => r = (if kept = 0 then nI 0 else nI (zFx (fun e0 => zSm (fun k => zDo (zAt (nI 0) (cond bar (g 12) (g 13)) cnt (nI k)) (nI e0)) (kept - 1) 1) lc 0 0)))) ([.ref (a 20)] : List Value).toArray s 0 0 (fun _ => False)) (F0 zm 13 ls []) := by
    intro k0
    induction k0 with
    | zero => intro i c ls q1 q2; omega
    | succ k0 ih =>
      intro i c ls hk0 hi hk1 hci hR hl
      refine lv_iload_n hx hb dO_fixed_13 rfl (lv_at hl 2 rfl) ?_
      refine lv_aload_n hx hb dO_fixed_14 rfl (lv_at hl 0 rfl) ?_
      refine ogr_20_sum hx hb hz hi_O hown hK hP (hz _ q_181) dO_fixed_15 ?_
      refine ogf_12N (v := nI lc) hx hb hz hi_S hown hK hP (va_Nw.use rfl (hN _ qn_91)) h12 dO_fixed_18 ?_
      refine lv_icmp_ge (tgt := 41) hx hb dO_fixed_21 (by decide) (fun c_21 => ?_) (fun c_21 => ?_)
      · have c_21 := (nI_leI (a := lc) (b := i) (by omega) (by omega)).mp c_21
        refine lv_iload_n hx hb dO_fixed_41 rfl (lv_at hl 1 rfl) ?_
        exact W.iret hx hb hr (fun zT zh _ => ⟨_, rfl, (by rw [if_neg (by omega), ← hR, show lc - i = 0 by omega]; rfl), zh⟩) t_nil dO_fixed_42
      · have c_21 := mt (nI_leI (a := lc) (b := i) (by omega) (by omega)).mpr c_21
        refine lv_aload_n hx hb dO_fixed_24 rfl (lv_at hl 0 rfl) ?_
        refine lv_iload_n hx hb dO_fixed_25 rfl (lv_at hl 2 rfl) ?_
        refine zq_e (zrV (rest := []) ⟨hx, hb, hml, hown, hz⟩ (c_same l dC dI cA a f g i kept hkept h2 bar h1 cnt hcnt hc hk1) ⟨zcB 1 hz q_445 q_1 q_448 (by decide +kernel) rfl rfl ⟨Nat.le_of_ble_eq_true rfl, Nat.le_of_ble_eq_true rfl⟩, hz _ q_447, hz _ qs_20⟩ hK hN hP 20 0 rfl rfl rfl rfl hl.1 rfl (Nat.le_of_ble_eq_true rfl) dO_fixed_26 ⟨Nat.zero_le _, Nat.zero_le _⟩) ?_
        refine lv_if_eq (tgt := 35) hx hb dO_fixed_29 (by decide) (fun c_29 => ?_) (fun c_29 => ?_)
        · have c_29 : (zSm (fun k => zDo (zAt (nI 0) (cond bar (g 12) (g 13)) cnt (nI k)) (nI i)) (kept - 1) 1) = false := zB_eq0.mp c_29
          refine lv_iinc (v := nI (i + 1)) (lv' := [(2, .int (nI (i + 1))), (0, .ref (a 20)), (1, .int (nI c))]) hx hb dO_fixed_35 hl (k := 2) rfl (nI_1 _) (by decide) rfl (fun ls hl => ?_)
          refine lv_goto (tgt := 13) hx hb dO_fixed_38 (by decide) ?_
          exact ih (i + 1) c ls (by omega) (by omega) hk1 (by omega) (by rw [← hR, show lc - i = (lc - (i + 1)) + 1 by omega]; simp only [zFx]; rw [if_neg (by rw [c_29]; decide)]) (lv_sub hl [1, 2, 0] rfl)
        · have c_29 : (zSm (fun k => zDo (zAt (nI 0) (cond bar (g 12) (g 13)) cnt (nI k)) (nI i)) (kept - 1) 1) = true := zB_n0 c_29
          refine lv_iinc (v := nI (c + 1)) (lv' := [(1, .int (nI (c + 1))), (0, .ref (a 20)), (2, .int (nI i))]) hx hb dO_fixed_32 hl (k := 1) rfl (nI_1 _) (by decide) rfl (fun ls hl => ?_)
          refine lv_iinc (v := nI (i + 1)) (lv' := [(2, .int (nI (i + 1))), (1, .int (nI (c + 1))), (0, .ref (a 20))]) hx hb dO_fixed_35 hl (k := 2) rfl (nI_1 _) (by decide) rfl (fun ls hl => ?_)
          refine lv_goto (tgt := 13) hx hb dO_fixed_38 (by decide) ?_
          exact ih (i + 1) (c + 1) ls (by omega) (by omega) hk1 (by omega) (by rw [← hR, show lc - i = (lc - (i + 1)) + 1 by omega]; simp only [zFx]; rw [if_pos c_29]) (lv_sub hl [2, 1, 0] rfl)
  refine lv_aload_n hx hb dO_fixed_0 rfl (lv_at hl 0 rfl) ?_
  refine ogf_2 (v := nI kept) hx hb hz hi_O hown hK hP (hz _ q_186) h2 dO_fixed_1 ?_
  refine lv_if_ne (tgt := 9) hx hb dO_fixed_4 (by decide) (fun c_4 => ?_) (fun c_4 => ?_)
  · have c_4 := mt (nI_eq (a := kept) (b := 0) (by omega) (by omega)).mpr c_4
    refine lv_iconst (v := nI 0) hx hb dO_fixed_9 (by decide) ?_
    refine lv_istore_n (lv' := [(1, .int (nI 0)), (0, .ref (a 20))]) hx hb dO_fixed_10 rfl hl (by decide) rfl (fun ls hl => ?_)
    refine lv_iconst (v := nI 0) hx hb dO_fixed_11 (by decide) ?_
    refine lv_istore_n (lv' := [(2, .int (nI 0)), (1, .int (nI 0)), (0, .ref (a 20))]) hx hb dO_fixed_12 rfl hl (by decide) rfl (fun ls hl => ?_)
    exact loop (lc + 1) 0 0 ls (by omega) (by omega) (by omega) (by omega) rfl (lv_sub hl [2, 1, 0] rfl)
  · have c_4 := (nI_eq (a := kept) (b := 0) (by omega) (by omega)).mp c_4
    refine lv_iconst (v := nI 0) hx hb dO_fixed_7 (by decide) ?_
    exact W.iret hx hb hr (fun zT zh _ => ⟨_, rfl, (if_pos c_4).symm, zh⟩) t_nil dO_fixed_8
