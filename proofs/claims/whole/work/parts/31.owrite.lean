set_option maxHeartbeats 4000000 in
set_option maxRecDepth 100000 in
theorem c_unit (l : Launch) (dC : Nat → ClassId) (dI : Nat → Nat → Nat) (cA : ClassId) (a : Nat → Nat) (f : Nat → Int32) (g : Nat → Nat → Int32) (hWD : WDist a) (u : Int32) (tn : Nat) (htn : tn ≤ 80) (h0 : f 0 = nI tn) : Met l yO_unit wsO_unit ({ frames := 0, cells := 0, slots := 0, locals := 0 }) (va_Pc [.ref (a 20), .int u] (zPW (dC, dI) vwCl [(cA, .int)] (WS cA a f g))) (va_Qi (fun (r : Int32) (s : zSt) => if zUn u tn then r = nI 1 ∧ s = (upd f 0 (nI (tn + 1)), updA g 0 tn u) else r = nI 0 ∧ s = (f, g)) (zBW (dC, dI) vwCl (fun u : zSt => WS cA a u.1 u.2)) (AW a)) 0 0 (AW a) := by
  refine Met.ofW (cc := prog_1_method_2_code) (maxL := 2) (ret := (some .boolean)) (by decide) rfl ?_
  intro zp ze s zm args below meth zc s₁ zBL hml hv
  obtain ⟨rfl, hP, hK, hN⟩ := hv
  have hx := zBL.exec
  have hb := zBL.bytes
  have hr := zBL.returns
  have hts := atoms_spec (ws := wsO_unit) zBL.pre
  have hz : ∀ w ∈ zBig, w.before _ s = true := fun w h => hts w (List.mem_cons_of_mem _ h)
  have hown : s.vm.findClass "LetterSums" = some zm.cls := findClass_of_methodNamed zBL.named
  have hlocks := zBL.notSynchronized
  have hD : ∀ f g, va_D (AW a) (WS cA a f g) := fun f g => WS_D hWD f g
  have hS : va_S (AW a) s.heap s.heap [] := va_S.rf
  have hl := lv_entry ([.ref (a 20), .int u]) (n := 2) (Nat.le_of_ble_eq_true rfl)
  rw [lg_entry_eq]
  generalize (lg_sl ([.ref (a 20), .int u]) ++ List.replicate (2 - (lg_sl ([.ref (a 20), .int u])).length) Slot.unset).toArray = ls at hl ⊢
  have hl : lv_has ls 2 [(0, .ref (a 20)), (1, .int u)] := hl
  refine lv_iload_n hx hb dO_unit_0 rfl (lv_at hl 1 rfl) ?_
  refine lv_if_lt (tgt := 23) hx hb dO_unit_1 (by decide) (fun c_1 => ?_) (fun c_1 => ?_)
  · refine lv_iconst (v := nI 0) hx hb dO_unit_23 (by decide) ?_
    exact W.zret hx hb hr rfl (fun zT zh _ => ⟨⟨_, (f, g), rfl, (by dsimp only; rw [if_neg (zUnF1 c_1)]; exact ⟨rfl, rfl⟩), zbw zh hP⟩, hS.F zh⟩) hS.2.2 dO_unit_24
  · refine lv_iload_n hx hb dO_unit_4 rfl (lv_at hl 1 rfl) ?_
    refine lv_sipush (v := nI 255) hx hb dO_unit_5 (by decide) ?_
    refine lv_icmp_gt (tgt := 23) hx hb dO_unit_8 (by decide) (fun c_8 => ?_) (fun c_8 => ?_)
    · refine lv_iconst (v := nI 0) hx hb dO_unit_23 (by decide) ?_
      exact W.zret hx hb hr rfl (fun zT zh _ => ⟨⟨_, (f, g), rfl, (by dsimp only; rw [if_neg (zUnF2 c_8)]; exact ⟨rfl, rfl⟩), zbw zh hP⟩, hS.F zh⟩) hS.2.2 dO_unit_24
    · refine lv_aload_n hx hb dO_unit_11 rfl (lv_at hl 0 rfl) ?_
      refine ogf_0 (v := nI tn) hx hb hz hi_O hown hK hP (hz _ q_179) h0 dO_unit_12 ?_
      refine lv_aload_n hx hb dO_unit_15 rfl (lv_at hl 0 rfl) ?_
      refine ogr_20_typed hx hb hz hi_O hown hK hP (hz _ q_178) dO_unit_16 ?_
      refine zalen hx hb hK hP 0 0 rfl rfl dO_unit_19 ?_
      refine lv_icmp_lt (tgt := 25) hx hb dO_unit_20 (by decide) (fun c_20 => ?_) (fun c_20 => ?_)
      · have c_20 := (nI_ltI (a := tn) (b := 80) (by omega) (by omega)).mp c_20
        refine lv_aload_n hx hb dO_unit_25 rfl (lv_at hl 0 rfl) ?_
        refine ogr_20_typed hx hb hz hi_O hown hK hP (hz _ q_178) dO_unit_26 ?_
        refine lv_aload_n hx hb dO_unit_29 rfl (lv_at hl 0 rfl) ?_
        refine ogf_0 (v := nI tn) hx hb hz hi_O hown hK hP (hz _ q_179) h0 dO_unit_30 ?_
        refine lv_iload_n hx hb dO_unit_33 rfl (lv_at hl 1 rfl) ?_
        refine zast (wd' := WS cA a f (updA g 0 tn u)) hx hb hK hP (hD _ _) hS 0 0 rfl rfl tn rfl (by omega) (by decide) rfl dO_unit_34 (fun H locs hP hS => ?_)
        refine lv_aload_n hx hb dO_unit_35 rfl (lv_at hl 0 rfl) ?_
        refine lv_dup hx hb dO_unit_36 rfl ?_
        refine ogf_0 (v := nI tn) hx hb hz hi_O hown hK hP (hz _ q_179) h0 dO_unit_37 ?_
        refine lv_iconst (v := nI 1) hx hb dO_unit_40 (by decide) ?_
        refine lv_iadd hx hb dO_unit_41 ?_
        refine zt (nI_add _ _) ?_
        refine opf_0 hx hb hz hi_O hown hK hP (hD _ _) hS (hz _ q_179) dO_unit_42 (fun H locs hP hS => ?_)
        refine lv_iconst (v := nI 1) hx hb dO_unit_45 (by decide) ?_
        exact W.zret hx hb hr rfl (fun zT zh _ => ⟨⟨_, (upd f 0 (nI (tn + 1)), updA g 0 tn u), rfl, (by dsimp only; rw [if_pos (zUnT c_1 c_8 c_20)]; exact ⟨rfl, rfl⟩), zbw zh hP⟩, hS.F zh⟩) hS.2.2 dO_unit_46
      · have c_20 := mt (nI_ltI (a := tn) (b := 80) (by omega) (by omega)).mpr c_20
        refine lv_iconst (v := nI 0) hx hb dO_unit_23 (by decide) ?_
        exact W.zret hx hb hr rfl (fun zT zh _ => ⟨⟨_, (f, g), rfl, (by dsimp only; rw [if_neg (fun q => c_20 q.2.2)]; exact ⟨rfl, rfl⟩), zbw zh hP⟩, hS.F zh⟩) hS.2.2 dO_unit_24

set_option maxHeartbeats 4000000 in
set_option maxRecDepth 100000 in
theorem c_bar (l : Launch) (dC : Nat → ClassId) (dI : Nat → Nat → Nat) (cA : ClassId) (a : Nat → Nat) (f : Nat → Int32) (g : Nat → Nat → Int32) (hWD : WDist a) (b : Bool) : Met l yO_bar wsO_bar ({ frames := 0, cells := 0, slots := 0, locals := 0 }) (va_Pc [.ref (a 20), .int (zB b)] (zPW (dC, dI) vwCl [(cA, .int)] (WS cA a f g))) (va_Qv (fun s : zSt => s = (upd (upd f 1 (zB b)) 2 (nI 0), g)) (zBW (dC, dI) vwCl (fun u : zSt => WS cA a u.1 u.2)) (AW a)) 0 0 (AW a) := by
  refine Met.ofW (cc := prog_1_method_4_code) (maxL := 2) (ret := none) (by decide) rfl ?_
  intro zp ze s zm args below meth zc s₁ zBL hml hv
  obtain ⟨rfl, hP, hK, hN⟩ := hv
  have hx := zBL.exec
  have hb := zBL.bytes
  have hr := zBL.returns
  have hts := atoms_spec (ws := wsO_bar) zBL.pre
  have hz : ∀ w ∈ zBig, w.before _ s = true := fun w h => hts w (List.mem_cons_of_mem _ h)
  have hown : s.vm.findClass "LetterSums" = some zm.cls := findClass_of_methodNamed zBL.named
  have hlocks := zBL.notSynchronized
  have hD : ∀ f g, va_D (AW a) (WS cA a f g) := fun f g => WS_D hWD f g
  have hS : va_S (AW a) s.heap s.heap [] := va_S.rf
  have hl := lv_entry ([.ref (a 20), .int (zB b)]) (n := 2) (Nat.le_of_ble_eq_true rfl)
  rw [lg_entry_eq]
  generalize (lg_sl ([.ref (a 20), .int (zB b)]) ++ List.replicate (2 - (lg_sl ([.ref (a 20), .int (zB b)])).length) Slot.unset).toArray = ls at hl ⊢
  have hl : lv_has ls 2 [(0, .ref (a 20)), (1, .int (zB b))] := hl
  refine lv_aload_n hx hb dO_bar_0 rfl (lv_at hl 0 rfl) ?_
  refine lv_iload_n hx hb dO_bar_1 rfl (lv_at hl 1 rfl) ?_
  refine opf_1 hx hb hz hi_O hown hK hP (hD _ _) hS (hz _ q_185) (zB_nar _) (zB_fit _) dO_bar_2 (fun H locs hP hS => ?_)
  refine lv_aload_n hx hb dO_bar_5 rfl (lv_at hl 0 rfl) ?_
  refine lv_iconst (v := nI 0) hx hb dO_bar_6 (by decide) ?_
  refine opf_2 hx hb hz hi_O hown hK hP (hD _ _) hS (hz _ q_186) dO_bar_7 (fun H locs hP hS => ?_)
  exact W.vret hx hb hr (fun zT zh _ => ⟨⟨(upd (upd f 1 (zB b)) 2 (nI 0), g), rfl, rfl, zbw zh hP⟩, hS.F zh⟩) hS.2.2 dO_bar_10

set_option maxHeartbeats 4000000 in
set_option maxRecDepth 100000 in
theorem c_allAnswers (l : Launch) (dC : Nat → ClassId) (dI : Nat → Nat → Nat) (cA : ClassId) (a : Nat → Nat) (f : Nat → Int32) (g : Nat → Nat → Int32) (hWD : WDist a) (bar : Bool) (h1 : f 1 = zB bar) (n : Nat) (hn : n ≤ 80) (h9 : f 9 = nI n) (B : Nat) (h18 : f 18 = nI B) (t : Nat → Nat) (sl : Nat → Option Nat) (nw : Nat) (hnw : nw ≤ 8) (h11 : f 11 = nI nw) (at0 ln : Nat → Nat) (hst : ∀ k, k < nw → g 2 k = nI (at0 k)) (hen : ∀ k, k < nw → g 3 k = nI (at0 k + ln k)) (hle : ∀ k, k < nw → 1 ≤ ln k ∧ at0 k + ln k ≤ n) (hsl : ∀ k, k < nw → ∀ p, at0 k ≤ p → p < at0 k + ln k → zSlOk (g 1) (g 5) t sl p) (hB : B ≤ 10) (h13 : f 13 = nI B) (lc : Nat) (hlc : lc ≤ 8) (h12 : f 12 = nI lc) (sg : Nat → Int) (hsg : ∀ k, k < nw → (if zBh f g k = zTk g n k then (1 : Int) else -1) = sg k) (r : Int) (c : Nat → Int) (fr : Nat) (z0 : Bool) (hrc : zWs B sl (fun p => (t p : Int) - 48) sg at0 ln nw = (r, c)) (hfr0 : zFm sl at0 ln nw = fr) (hfr : fr < 256) (hz0 : zZf sl t at0 ln nw = z0) (kn : Bool) (hkn : f (cond bar 23 25) = zB kn) (hinv : kn = true → f (cond bar 22 24) = nI (zPP (decide (nw = 0) || (bar && z0)) (((zAnsL B (zOk bar fr) c r lc).map (zPk 0 0)).take 1000)).length ∧ zIs (cond bar (g 12) (g 13)) (zPP (decide (nw = 0) || (bar && z0)) (((zAnsL B (zOk bar fr) c r lc).map (zPk 0 0)).take 1000))) : Met l yO_allAnswers wsO_allAnswers ({ frames := 9, cells := 0, slots := 0, locals := 230 }) (va_Pc [.ref (a 20)] (zPW (dC, dI) vwCl [(cA, .int)] (WS cA a f g))) (va_Qr (fun s : zSt => ∃ f2 g2, s = (f2, g2) ∧ zAA bar (zPP (decide (nw = 0) || (bar && z0)) (((zAnsL B (zOk bar fr) c r lc).map (zPk 0 0)).take 1000)) f g f2 g2) (fun u r t => zBW (dC, dI) vwCl (fun u : zSt => WS cA a u.1 u.2) u t ∧ r = cond bar (a 16) (a 18)) (AW a)) 0 0 (AW a) := by
  refine Met.ofW (cc := prog_1_method_18_code) (maxL := 2) (ret := (some (.object "LetterSums$Answers"))) (by decide) rfl ?_
  intro zp ze s zm args below meth zc s₁ zBL hml hv
  obtain ⟨rfl, hP, hK, hN⟩ := hv
  have hx := zBL.exec
  have hb := zBL.bytes
  have hr := zBL.returns
  have hts := atoms_spec (ws := wsO_allAnswers) zBL.pre
  have hz : ∀ w ∈ zBig, w.before _ s = true := fun w h => hts w (List.mem_cons_of_mem _ h)
  have hown : s.vm.findClass "LetterSums" = some zm.cls := findClass_of_methodNamed zBL.named
  have hlocks := zBL.notSynchronized
  have hD : ∀ f g, va_D (AW a) (WS cA a f g) := fun f g => WS_D hWD f g
  have hS : va_S (AW a) s.heap s.heap [] := va_S.rf
  have hl := lv_entry ([.ref (a 20)]) (n := 2) (Nat.le_of_ble_eq_true rfl)
  rw [lg_entry_eq]
  generalize (lg_sl ([.ref (a 20)]) ++ List.replicate (2 - (lg_sl ([.ref (a 20)])).length) Slot.unset).toArray = ls at hl ⊢
  have hl : lv_has ls 2 [(0, .ref (a 20))] := hl
  cases bar with
  | true =>
    refine lv_aload_n hx hb dO_allAnswers_0 rfl (lv_at hl 0 rfl) ?_
    refine zq_r (zrV (rest := []) ⟨hx, hb, hml, hown, hz⟩ (c_current l dC dI cA a f g true h1) ⟨zcB 0 hz q_292 q_1 q_295 (by decide +kernel) rfl rfl ⟨Nat.le_of_ble_eq_true rfl, Nat.le_of_ble_eq_true rfl⟩, hz _ q_294, hz _ qs_8⟩ hK hN hP 20 0 rfl rfl rfl rfl hl.1 rfl (Nat.le_of_ble_eq_true rfl) dO_allAnswers_1 ⟨Nat.zero_le _, Nat.zero_le _⟩) ?_
    refine lv_astore_n (lv' := [(1, .ref (a 16)), (0, .ref (a 20))]) hx hb dO_allAnswers_4 rfl hl (by decide) rfl (fun ls hl => ?_)
    refine lv_aload_n hx hb dO_allAnswers_5 rfl (lv_at hl 0 rfl) ?_
    refine ogf_23N (v := zB kn) hx hb hz hi_A hown hK hP (va_Nw.use rfl (hN _ qn_29)) hkn dO_allAnswers_6 ?_
    refine lv_if_ne (tgt := 33) hx hb dO_allAnswers_9 (by decide) (fun c_9 => ?_) (fun c_9 => ?_)
    · have c_9 : kn = true := zB_n0 c_9
      refine lv_aload_n hx hb dO_allAnswers_33 rfl (lv_at hl 0 rfl) ?_
      exact W.aret hx hb hr (Or.inl ⟨_, rfl⟩) (Or.inr ⟨_, rfl⟩) (fun zT zh _ => ⟨⟨(f, g), _, rfl, ⟨f, g, rfl, fun _ _ => rfl, fun _ _ => rfl, (hinv c_9).1, by rw [hkn, c_9]; rfl, (hinv c_9).2⟩, zbw zh hP, rfl⟩, hS.F zh⟩) hS.2.2 dO_allAnswers_34
    · have c_9 : kn = false := zB_eq0.mp c_9
      refine lv_aload_n hx hb dO_allAnswers_12 rfl (lv_at hl 1 rfl) ?_
      refine ogr_20_search hx hb hz hi_O hown hK hP (hz _ q_182) dO_allAnswers_13 ?_
      refine lv_aload_n hx hb dO_allAnswers_16 rfl (lv_at hl 0 rfl) ?_
      refine lv_aload_n hx hb dO_allAnswers_17 rfl (lv_at hl 1 rfl) ?_
      refine ogr_20_sum hx hb hz hi_O hown hK hP (hz _ q_181) dO_allAnswers_18 ?_
      refine lv_aload_n hx hb dO_allAnswers_21 rfl (lv_at hl 1 rfl) ?_
      refine ogf_1 (v := zB true) hx hb hz hi_O hown hK hP (hz _ q_185) h1 dO_allAnswers_22 ?_
      refine zk_v (zrV (rest := []) ⟨hx, hb, hml, hown, hz⟩ (c_sfill l dC dI cA a f g hWD true n hn h9 B h18 t sl nw hnw h11 at0 ln hst hen hle hsl hB h13 lc hlc h12 sg hsg r c fr z0 hrc hfr0 hfr hz0) ⟨zcB 3 hz q_296 q_7 q_299 (by decide +kernel) rfl rfl ⟨Nat.le_of_ble_eq_true rfl, Nat.le_of_ble_eq_true rfl⟩, hz _ q_297, hz _ q_298⟩ hK hN (WS_WT hP) 8 3 rfl rfl rfl rfl hl.1 rfl (Nat.le_of_ble_eq_true rfl) dO_allAnswers_25 ⟨Nat.zero_le _, Nat.zero_le _⟩) hS AT_AW (fun zu H1 locs zhu hP1 hS hk => ?_)
      obtain ⟨f2, g2, rfl, hkp, hkg, q22, q23, hI⟩ := zhu
      have hP := WS_back hWD hP hP1 (WO_kp hkp) hk
      generalize H1 = H at hP hS ⊢
      refine lv_aload_n hx hb dO_allAnswers_28 rfl (lv_at hl 0 rfl) ?_
      refine lv_iconst (v := nI 1) hx hb dO_allAnswers_29 (by decide) ?_
      refine opf_23N hx hb hz hi_A hown hK hP (hD _ _) hS (va_Nw.use rfl (hN _ qn_29)) (by decide) (by decide) dO_allAnswers_30 (fun H locs hP hS => ?_)
      refine lv_aload_n hx hb dO_allAnswers_33 rfl (lv_at hl 0 rfl) ?_
      exact W.aret hx hb hr (Or.inl ⟨_, rfl⟩) (Or.inr ⟨_, rfl⟩) (fun zT zh _ => ⟨⟨(upd f2 23 (nI 1), g2), _, rfl, ⟨_, _, rfl, zAA_t hkp hkg q22 hI⟩, zbw zh hP, rfl⟩, hS.F zh⟩) hS.2.2 dO_allAnswers_34
  | false =>
    refine lv_aload_n hx hb dO_allAnswers_0 rfl (lv_at hl 0 rfl) ?_
    refine zq_r (zrV (rest := []) ⟨hx, hb, hml, hown, hz⟩ (c_current l dC dI cA a f g false h1) ⟨zcB 0 hz q_292 q_1 q_295 (by decide +kernel) rfl rfl ⟨Nat.le_of_ble_eq_true rfl, Nat.le_of_ble_eq_true rfl⟩, hz _ q_294, hz _ qs_8⟩ hK hN hP 20 0 rfl rfl rfl rfl hl.1 rfl (Nat.le_of_ble_eq_true rfl) dO_allAnswers_1 ⟨Nat.zero_le _, Nat.zero_le _⟩) ?_
    refine lv_astore_n (lv' := [(1, .ref (a 18)), (0, .ref (a 20))]) hx hb dO_allAnswers_4 rfl hl (by decide) rfl (fun ls hl => ?_)
    refine lv_aload_n hx hb dO_allAnswers_5 rfl (lv_at hl 0 rfl) ?_
    refine ogf_25N (v := zB kn) hx hb hz hi_A hown hK hP (va_Nw.use rfl (hN _ qn_29)) hkn dO_allAnswers_6 ?_
    refine lv_if_ne (tgt := 33) hx hb dO_allAnswers_9 (by decide) (fun c_9 => ?_) (fun c_9 => ?_)
    · have c_9 : kn = true := zB_n0 c_9
      refine lv_aload_n hx hb dO_allAnswers_33 rfl (lv_at hl 0 rfl) ?_
      exact W.aret hx hb hr (Or.inl ⟨_, rfl⟩) (Or.inr ⟨_, rfl⟩) (fun zT zh _ => ⟨⟨(f, g), _, rfl, ⟨f, g, rfl, fun _ _ => rfl, fun _ _ => rfl, (hinv c_9).1, by rw [hkn, c_9]; rfl, (hinv c_9).2⟩, zbw zh hP, rfl⟩, hS.F zh⟩) hS.2.2 dO_allAnswers_34
    · have c_9 : kn = false := zB_eq0.mp c_9
      refine lv_aload_n hx hb dO_allAnswers_12 rfl (lv_at hl 1 rfl) ?_
      refine ogr_20_search hx hb hz hi_O hown hK hP (hz _ q_182) dO_allAnswers_13 ?_
      refine lv_aload_n hx hb dO_allAnswers_16 rfl (lv_at hl 0 rfl) ?_
      refine lv_aload_n hx hb dO_allAnswers_17 rfl (lv_at hl 1 rfl) ?_
      refine ogr_20_sum hx hb hz hi_O hown hK hP (hz _ q_181) dO_allAnswers_18 ?_
      refine lv_aload_n hx hb dO_allAnswers_21 rfl (lv_at hl 1 rfl) ?_
      refine ogf_1 (v := zB false) hx hb hz hi_O hown hK hP (hz _ q_185) h1 dO_allAnswers_22 ?_
      refine zk_v (zrV (rest := []) ⟨hx, hb, hml, hown, hz⟩ (c_sfill l dC dI cA (swA a) (swF f) (swG g) (swD hWD) false n hn h9 B h18 t sl nw hnw h11 at0 ln hst hen hle hsl hB h13 lc hlc h12 sg hsg r c fr z0 hrc hfr0 hfr hz0) ⟨zcB 3 hz q_296 q_7 q_299 (by decide +kernel) rfl rfl ⟨Nat.le_of_ble_eq_true rfl, Nat.le_of_ble_eq_true rfl⟩, hz _ q_297, hz _ q_298⟩ hK hN (WT_sw (WS_WT hP)) 8 3 rfl rfl rfl rfl hl.1 rfl (Nat.le_of_ble_eq_true rfl) dO_allAnswers_25 ⟨Nat.zero_le _, Nat.zero_le _⟩) hS (fun q h => AT_AW q (AT_sw.mp h)) (fun zu H1 locs zhu hP1 hS hk => ?_)
      obtain ⟨f3, g3, rfl, hkp, hkg, q22, q23, hI⟩ := zhu
      have hP := WS_back hWD hP (WT_sw2 hP1) (WO_kp2 hkp) (fun q h1 h2 => hk q h1 (fun h => h2 (AT_sw.mp h)))
      generalize H1 = H at hP hS ⊢
      refine lv_aload_n hx hb dO_allAnswers_28 rfl (lv_at hl 0 rfl) ?_
      refine lv_iconst (v := nI 1) hx hb dO_allAnswers_29 (by decide) ?_
      refine opf_25N hx hb hz hi_A hown hK hP (hD _ _) hS (va_Nw.use rfl (hN _ qn_29)) (by decide) (by decide) dO_allAnswers_30 (fun H locs hP hS => ?_)
      refine lv_aload_n hx hb dO_allAnswers_33 rfl (lv_at hl 0 rfl) ?_
      exact W.aret hx hb hr (Or.inl ⟨_, rfl⟩) (Or.inr ⟨_, rfl⟩) (fun zT zh _ => ⟨⟨(upd (swF f3) 25 (nI 1), swG g3), _, rfl, ⟨_, _, rfl, zAA_f hkp hkg q22 hI⟩, zbw zh hP, rfl⟩, hS.F zh⟩) hS.2.2 dO_allAnswers_34

set_option maxHeartbeats 4000000 in
set_option maxRecDepth 100000 in
theorem c_run (l : Launch) (dC : Nat → ClassId) (dI : Nat → Nat → Nat) (cA : ClassId) (a : Nat → Nat) (f : Nat → Int32) (g : Nat → Nat → Int32) (hWD : WDist a) (x : Int32) (bar : Bool) (h1 : f 1 = zB bar) (n : Nat) (hn : n ≤ 80) (h9 : f 9 = nI n) (B : Nat) (h18 : f 18 = nI B) (t : Nat → Nat) (sl : Nat → Option Nat) (nw : Nat) (hnw : nw ≤ 8) (h11 : f 11 = nI nw) (at0 ln : Nat → Nat) (hst : ∀ k, k < nw → g 2 k = nI (at0 k)) (hen : ∀ k, k < nw → g 3 k = nI (at0 k + ln k)) (hle : ∀ k, k < nw → 1 ≤ ln k ∧ at0 k + ln k ≤ n) (hsl : ∀ k, k < nw → ∀ p, at0 k ≤ p → p < at0 k + ln k → zSlOk (g 1) (g 5) t sl p) (hB : B ≤ 10) (h13 : f 13 = nI B) (lc : Nat) (hlc : lc ≤ 8) (h12 : f 12 = nI lc) (sg : Nat → Int) (hsg : ∀ k, k < nw → (if zBh f g k = zTk g n k then (1 : Int) else -1) = sg k) (r : Int) (c : Nat → Int) (fr : Nat) (z0 : Bool) (hrc : zWs B sl (fun p => (t p : Int) - 48) sg at0 ln nw = (r, c)) (hfr0 : zFm sl at0 ln nw = fr) (hfr : fr < 256) (hz0 : zZf sl t at0 ln nw = z0) (kn : Bool) (hkn : f (cond bar 23 25) = zB kn) (hinv : kn = true → f (cond bar 22 24) = nI (zPP (decide (nw = 0) || (bar && z0)) (((zAnsL B (zOk bar fr) c r lc).map (zPk 0 0)).take 1000)).length ∧ zIs (cond bar (g 12) (g 13)) (zPP (decide (nw = 0) || (bar && z0)) (((zAnsL B (zOk bar fr) c r lc).map (zPk 0 0)).take 1000))) : Met l yO_run wsO_run ({ frames := 10, cells := 0, slots := 0, locals := 251 }) (va_Pc [.ref (a 20), .int x] (zPW (dC, dI) vwCl [(cA, .int)] (WS cA a f g))) (va_Qi (fun (q : Int32) (s : zSt) => if 0 ≤ x.toInt ∧ x.toInt ≤ 1000 then q = nI (min x.toInt.toNat (zPP (decide (nw = 0) || (bar && z0)) (((zAnsL B (zOk bar fr) c r lc).map (zPk 0 0)).take 1000)).length) ∧ ∃ f2 g2, zAA bar (zPP (decide (nw = 0) || (bar && z0)) (((zAnsL B (zOk bar fr) c r lc).map (zPk 0 0)).take 1000)) f g f2 g2 ∧ s = (upd f2 2 (nI (min x.toInt.toNat (zPP (decide (nw = 0) || (bar && z0)) (((zAnsL B (zOk bar fr) c r lc).map (zPk 0 0)).take 1000)).length)), g2) else q = -1 ∧ s = (f, g)) (zBW (dC, dI) vwCl (fun u : zSt => WS cA a u.1 u.2)) (AW a)) 0 0 (AW a) := by
  refine Met.ofW (cc := prog_1_method_7_code) (maxL := 2) (ret := (some .int)) (by decide) rfl ?_
  intro zp ze s zm args below meth zc s₁ zBL hml hv
  obtain ⟨rfl, hP, hK, hN⟩ := hv
  have hx := zBL.exec
  have hb := zBL.bytes
  have hr := zBL.returns
  have hts := atoms_spec (ws := wsO_run) zBL.pre
  have hz : ∀ w ∈ zBig, w.before _ s = true := fun w h => hts w (List.mem_cons_of_mem _ h)
  have hown : s.vm.findClass "LetterSums" = some zm.cls := findClass_of_methodNamed zBL.named
  have hlocks := zBL.notSynchronized
  have hD : ∀ f g, va_D (AW a) (WS cA a f g) := fun f g => WS_D hWD f g
  have hS : va_S (AW a) s.heap s.heap [] := va_S.rf
  have hl := lv_entry ([.ref (a 20), .int x]) (n := 2) (Nat.le_of_ble_eq_true rfl)
  rw [lg_entry_eq]
  generalize (lg_sl ([.ref (a 20), .int x]) ++ List.replicate (2 - (lg_sl ([.ref (a 20), .int x])).length) Slot.unset).toArray = ls at hl ⊢
  have hl : lv_has ls 2 [(0, .ref (a 20)), (1, .int x)] := hl
  cases bar with
  | true =>
    refine lv_iload_n hx hb dO_run_0 rfl (lv_at hl 1 rfl) ?_
    refine lv_if_lt (tgt := 11) hx hb dO_run_1 (by decide) (fun c_1 => ?_) (fun c_1 => ?_)
    · refine lv_iconst (v := (-1)) hx hb dO_run_11 (by decide) ?_
      exact W.iret hx hb hr (fun zT zh _ => ⟨⟨_, (f, g), rfl, (by dsimp only; rw [if_neg (zMostF (Or.inl c_1))]; exact ⟨rfl, rfl⟩), zbw zh hP⟩, hS.F zh⟩) hS.2.2 dO_run_12
    · refine lv_iload_n hx hb dO_run_4 rfl (lv_at hl 1 rfl) ?_
      refine lv_sipush (v := nI 1000) hx hb dO_run_5 (by decide) ?_
      refine lv_icmp_le (tgt := 13) hx hb dO_run_8 (by decide) (fun c_8 => ?_) (fun c_8 => ?_)
      · obtain ⟨m, hm, hxm⟩ := zMost c_1 c_8
        rw [hxm] at hl
        refine lv_aload_n hx hb dO_run_13 rfl (lv_at hl 0 rfl) ?_
        refine lv_iload_n hx hb dO_run_14 rfl (lv_at hl 1 rfl) ?_
        refine lv_aload_n hx hb dO_run_15 rfl (lv_at hl 0 rfl) ?_
        refine zk_r (zrV (rest := [.int (nI m), .ref (a 20)]) ⟨hx, hb, hml, hown, hz⟩ (c_allAnswers l dC dI cA a f g hWD true h1 n hn h9 B h18 t sl nw hnw h11 at0 ln hst hen hle hsl hB h13 lc hlc h12 sg hsg r c fr z0 hrc hfr0 hfr hz0 kn hkn hinv) ⟨zcB 0 hz q_288 q_1 q_291 (by decide +kernel) rfl rfl ⟨Nat.le_of_ble_eq_true rfl, Nat.le_of_ble_eq_true rfl⟩, hz _ q_290, hz _ qs_7⟩ hK hN hP 20 0 rfl rfl rfl rfl hl.1 rfl (Nat.le_of_ble_eq_true rfl) dO_run_16 ⟨Nat.zero_le _, Nat.zero_le _⟩) hS (fun _ h => h) (fun zu H1 locs zhu hP1 hS hk => ?_)
        obtain ⟨f2, g2, rfl, hAA⟩ := zhu
        have hpl : (zPP (decide (nw = 0) || (true && z0)) (((zAnsL B (zOk true fr) c r lc).map (zPk 0 0)).take 1000)).length ≤ 1000 := zPP_le _ _
        have hP := hP1
        generalize H1 = H at hP hS ⊢
        refine ogf_22N (v := nI (zPP (decide (nw = 0) || (true && z0)) (((zAnsL B (zOk true fr) c r lc).map (zPk 0 0)).take 1000)).length) hx hb hz hi_A hown hK hP (va_Nw.use rfl (hN _ qn_27)) hAA.2.2.1 dO_run_19 ?_
        refine zq_e (zrS0 (rest := [.ref (a 20)]) ⟨hx, hb, hml, hown, hz⟩ (c_mmin l  (nI m) (nI (zPP (decide (nw = 0) || (true && z0)) (((zAnsL B (zOk true fr) c r lc).map (zPk 0 0)).take 1000)).length)) ⟨zcB 2 hz q_38 q_3 q_40 (by decide +kernel) rfl rfl ⟨Nat.le_of_ble_eq_true rfl, Nat.le_of_ble_eq_true rfl⟩, hz _ q_39⟩ rfl hl.1 rfl (Nat.le_of_ble_eq_true rfl) dO_run_22 ⟨Nat.zero_le _, Nat.zero_le _⟩) ?_
        refine zt (y := nI (min m (zPP (decide (nw = 0) || (true && z0)) (((zAnsL B (zOk true fr) c r lc).map (zPk 0 0)).take 1000)).length)) (zMinI hm hpl) ?_
        refine opf_2 hx hb hz hi_O hown hK hP (hD _ _) hS (hz _ q_186) dO_run_25 (fun H locs hP hS => ?_)
        refine lv_aload_n hx hb dO_run_28 rfl (lv_at hl 0 rfl) ?_
        refine ogf_2 (v := nI (min m (zPP (decide (nw = 0) || (true && z0)) (((zAnsL B (zOk true fr) c r lc).map (zPk 0 0)).take 1000)).length)) hx hb hz hi_O hown hK hP (hz _ q_186) rfl dO_run_29 ?_
        exact W.iret hx hb hr (fun zT zh _ => ⟨⟨_, (upd f2 2 (nI (min m (zPP (decide (nw = 0) || (true && z0)) (((zAnsL B (zOk true fr) c r lc).map (zPk 0 0)).take 1000)).length)), g2), rfl, (by dsimp only; rw [hxm, if_pos (zMostT hm), show (nI m).toInt.toNat = m by rw [nI_toInt (by omega)]; rfl]; exact ⟨rfl, f2, g2, hAA, rfl⟩), zbw zh hP⟩, hS.F zh⟩) hS.2.2 dO_run_32
      · refine lv_iconst (v := (-1)) hx hb dO_run_11 (by decide) ?_
        exact W.iret hx hb hr (fun zT zh _ => ⟨⟨_, (f, g), rfl, (by dsimp only; rw [if_neg (zMostF (Or.inr c_8))]; exact ⟨rfl, rfl⟩), zbw zh hP⟩, hS.F zh⟩) hS.2.2 dO_run_12
  | false =>
    refine lv_iload_n hx hb dO_run_0 rfl (lv_at hl 1 rfl) ?_
    refine lv_if_lt (tgt := 11) hx hb dO_run_1 (by decide) (fun c_1 => ?_) (fun c_1 => ?_)
    · refine lv_iconst (v := (-1)) hx hb dO_run_11 (by decide) ?_
      exact W.iret hx hb hr (fun zT zh _ => ⟨⟨_, (f, g), rfl, (by dsimp only; rw [if_neg (zMostF (Or.inl c_1))]; exact ⟨rfl, rfl⟩), zbw zh hP⟩, hS.F zh⟩) hS.2.2 dO_run_12
    · refine lv_iload_n hx hb dO_run_4 rfl (lv_at hl 1 rfl) ?_
      refine lv_sipush (v := nI 1000) hx hb dO_run_5 (by decide) ?_
      refine lv_icmp_le (tgt := 13) hx hb dO_run_8 (by decide) (fun c_8 => ?_) (fun c_8 => ?_)
      · obtain ⟨m, hm, hxm⟩ := zMost c_1 c_8
        rw [hxm] at hl
        refine lv_aload_n hx hb dO_run_13 rfl (lv_at hl 0 rfl) ?_
        refine lv_iload_n hx hb dO_run_14 rfl (lv_at hl 1 rfl) ?_
        refine lv_aload_n hx hb dO_run_15 rfl (lv_at hl 0 rfl) ?_
        refine zk_r (zrV (rest := [.int (nI m), .ref (a 20)]) ⟨hx, hb, hml, hown, hz⟩ (c_allAnswers l dC dI cA a f g hWD false h1 n hn h9 B h18 t sl nw hnw h11 at0 ln hst hen hle hsl hB h13 lc hlc h12 sg hsg r c fr z0 hrc hfr0 hfr hz0 kn hkn hinv) ⟨zcB 0 hz q_288 q_1 q_291 (by decide +kernel) rfl rfl ⟨Nat.le_of_ble_eq_true rfl, Nat.le_of_ble_eq_true rfl⟩, hz _ q_290, hz _ qs_7⟩ hK hN hP 20 0 rfl rfl rfl rfl hl.1 rfl (Nat.le_of_ble_eq_true rfl) dO_run_16 ⟨Nat.zero_le _, Nat.zero_le _⟩) hS (fun _ h => h) (fun zu H1 locs zhu hP1 hS hk => ?_)
        obtain ⟨f2, g2, rfl, hAA⟩ := zhu
        have hpl : (zPP (decide (nw = 0) || (false && z0)) (((zAnsL B (zOk false fr) c r lc).map (zPk 0 0)).take 1000)).length ≤ 1000 := zPP_le _ _
        have hP := hP1
        generalize H1 = H at hP hS ⊢
        refine ogf_24N (v := nI (zPP (decide (nw = 0) || (false && z0)) (((zAnsL B (zOk false fr) c r lc).map (zPk 0 0)).take 1000)).length) hx hb hz hi_A hown hK hP (va_Nw.use rfl (hN _ qn_27)) hAA.2.2.1 dO_run_19 ?_
        refine zq_e (zrS0 (rest := [.ref (a 20)]) ⟨hx, hb, hml, hown, hz⟩ (c_mmin l  (nI m) (nI (zPP (decide (nw = 0) || (false && z0)) (((zAnsL B (zOk false fr) c r lc).map (zPk 0 0)).take 1000)).length)) ⟨zcB 2 hz q_38 q_3 q_40 (by decide +kernel) rfl rfl ⟨Nat.le_of_ble_eq_true rfl, Nat.le_of_ble_eq_true rfl⟩, hz _ q_39⟩ rfl hl.1 rfl (Nat.le_of_ble_eq_true rfl) dO_run_22 ⟨Nat.zero_le _, Nat.zero_le _⟩) ?_
        refine zt (y := nI (min m (zPP (decide (nw = 0) || (false && z0)) (((zAnsL B (zOk false fr) c r lc).map (zPk 0 0)).take 1000)).length)) (zMinI hm hpl) ?_
        refine opf_2 hx hb hz hi_O hown hK hP (hD _ _) hS (hz _ q_186) dO_run_25 (fun H locs hP hS => ?_)
        refine lv_aload_n hx hb dO_run_28 rfl (lv_at hl 0 rfl) ?_
        refine ogf_2 (v := nI (min m (zPP (decide (nw = 0) || (false && z0)) (((zAnsL B (zOk false fr) c r lc).map (zPk 0 0)).take 1000)).length)) hx hb hz hi_O hown hK hP (hz _ q_186) rfl dO_run_29 ?_
        exact W.iret hx hb hr (fun zT zh _ => ⟨⟨_, (upd f2 2 (nI (min m (zPP (decide (nw = 0) || (false && z0)) (((zAnsL B (zOk false fr) c r lc).map (zPk 0 0)).take 1000)).length)), g2), rfl, (by dsimp only; rw [hxm, if_pos (zMostT hm), show (nI m).toInt.toNat = m by rw [nI_toInt (by omega)]; rfl]; exact ⟨rfl, f2, g2, hAA, rfl⟩), zbw zh hP⟩, hS.F zh⟩) hS.2.2 dO_run_32
      · refine lv_iconst (v := (-1)) hx hb dO_run_11 (by decide) ?_
        exact W.iret hx hb hr (fun zT zh _ => ⟨⟨_, (f, g), rfl, (by dsimp only; rw [if_neg (zMostF (Or.inr c_8))]; exact ⟨rfl, rfl⟩), zbw zh hP⟩, hS.F zh⟩) hS.2.2 dO_run_12

set_option maxHeartbeats 4000000 in
set_option maxRecDepth 100000 in
theorem c_one (l : Launch) (dC : Nat → ClassId) (dI : Nat → Nat → Nat) (cA : ClassId) (a : Nat → Nat) (f : Nat → Int32) (g : Nat → Nat → Int32) (hWD : WDist a) (bar : Bool) (h1 : f 1 = zB bar) (n : Nat) (hn : n ≤ 80) (h9 : f 9 = nI n) (B : Nat) (h18 : f 18 = nI B) (t : Nat → Nat) (sl : Nat → Option Nat) (nw : Nat) (hnw : nw ≤ 8) (h11 : f 11 = nI nw) (at0 ln : Nat → Nat) (hst : ∀ k, k < nw → g 2 k = nI (at0 k)) (hen : ∀ k, k < nw → g 3 k = nI (at0 k + ln k)) (hle : ∀ k, k < nw → 1 ≤ ln k ∧ at0 k + ln k ≤ n) (hsl : ∀ k, k < nw → ∀ p, at0 k ≤ p → p < at0 k + ln k → zSlOk (g 1) (g 5) t sl p) (hB : B ≤ 10) (h13 : f 13 = nI B) (lc : Nat) (hlc : lc ≤ 8) (h12 : f 12 = nI lc) (sg : Nat → Int) (hsg : ∀ k, k < nw → (if zBh f g k = zTk g n k then (1 : Int) else -1) = sg k) (r : Int) (c : Nat → Int) (fr : Nat) (z0 : Bool) (hrc : zWs B sl (fun p => (t p : Int) - 48) sg at0 ln nw = (r, c)) (hfr0 : zFm sl at0 ln nw = fr) (hfr : fr < 256) (hz0 : zZf sl t at0 ln nw = z0) (kn : Bool) (hkn : f (cond bar 23 25) = zB kn) (hinv : kn = true → f (cond bar 22 24) = nI (zPP (decide (nw = 0) || (bar && z0)) (((zAnsL B (zOk bar fr) c r lc).map (zPk 0 0)).take 1000)).length ∧ zIs (cond bar (g 12) (g 13)) (zPP (decide (nw = 0) || (bar && z0)) (((zAnsL B (zOk bar fr) c r lc).map (zPk 0 0)).take 1000))) : Met l yO_one wsO_one ({ frames := 10, cells := 0, slots := 0, locals := 251 }) (va_Pc [.ref (a 20)] (zPW (dC, dI) vwCl [(cA, .int)] (WS cA a f g))) (va_Qi (fun (q : Int32) (s : zSt) => q = zB (decide ((zPP (decide (nw = 0) || (bar && z0)) (((zAnsL B (zOk bar fr) c r lc).map (zPk 0 0)).take 1000)).length = 1)) ∧ ∃ f2 g2, zAA bar (zPP (decide (nw = 0) || (bar && z0)) (((zAnsL B (zOk bar fr) c r lc).map (zPk 0 0)).take 1000)) f g f2 g2 ∧ s = (f2, g2)) (zBW (dC, dI) vwCl (fun u : zSt => WS cA a u.1 u.2)) (AW a)) 0 0 (AW a) := by
  refine Met.ofW (cc := prog_1_method_12_code) (maxL := 1) (ret := (some .boolean)) (by decide) rfl ?_
  intro zp ze s zm args below meth zc s₁ zBL hml hv
  obtain ⟨rfl, hP, hK, hN⟩ := hv
  have hx := zBL.exec
  have hb := zBL.bytes
  have hr := zBL.returns
  have hts := atoms_spec (ws := wsO_one) zBL.pre
  have hz : ∀ w ∈ zBig, w.before _ s = true := fun w h => hts w (List.mem_cons_of_mem _ h)
  have hown : s.vm.findClass "LetterSums" = some zm.cls := findClass_of_methodNamed zBL.named
  have hlocks := zBL.notSynchronized
  have hD : ∀ f g, va_D (AW a) (WS cA a f g) := fun f g => WS_D hWD f g
  have hS : va_S (AW a) s.heap s.heap [] := va_S.rf
  have hl := lv_entry ([.ref (a 20)]) (n := 1) (Nat.le_of_ble_eq_true rfl)
  rw [lg_entry_eq]
  generalize (lg_sl ([.ref (a 20)]) ++ List.replicate (1 - (lg_sl ([.ref (a 20)])).length) Slot.unset).toArray = ls at hl ⊢
  have hl : lv_has ls 1 [(0, .ref (a 20))] := hl
  cases bar with
  | true =>
    refine lv_aload_n hx hb dO_one_0 rfl (lv_at hl 0 rfl) ?_
    refine zk_r (zrV (rest := []) ⟨hx, hb, hml, hown, hz⟩ (c_allAnswers l dC dI cA a f g hWD true h1 n hn h9 B h18 t sl nw hnw h11 at0 ln hst hen hle hsl hB h13 lc hlc h12 sg hsg r c fr z0 hrc hfr0 hfr hz0 kn hkn hinv) ⟨zcB 0 hz q_288 q_1 q_291 (by decide +kernel) rfl rfl ⟨Nat.le_of_ble_eq_true rfl, Nat.le_of_ble_eq_true rfl⟩, hz _ q_290, hz _ qs_7⟩ hK hN hP 20 0 rfl rfl rfl rfl hl.1 rfl (Nat.le_of_ble_eq_true rfl) dO_one_1 ⟨Nat.zero_le _, Nat.zero_le _⟩) hS (fun _ h => h) (fun zu H1 locs zhu hP1 hS hk => ?_)
    obtain ⟨f2, g2, rfl, hAA⟩ := zhu
    have hpl : (zPP (decide (nw = 0) || (true && z0)) (((zAnsL B (zOk true fr) c r lc).map (zPk 0 0)).take 1000)).length ≤ 1000 := zPP_le _ _
    have hP := hP1
    generalize H1 = H at hP hS ⊢
    refine ogf_22N (v := nI (zPP (decide (nw = 0) || (true && z0)) (((zAnsL B (zOk true fr) c r lc).map (zPk 0 0)).take 1000)).length) hx hb hz hi_A hown hK hP (va_Nw.use rfl (hN _ qn_27)) hAA.2.2.1 dO_one_4 ?_
    refine lv_iconst (v := nI 1) hx hb dO_one_7 (by decide) ?_
    refine lv_icmp_ne (tgt := 15) hx hb dO_one_8 (by decide) (fun c_8 => ?_) (fun c_8 => ?_)
    · have c_8 := mt (nI_eq (b := 1) (by omega) (by omega)).mpr c_8
      refine lv_iconst (v := nI 0) hx hb dO_one_15 (by decide) ?_
      exact W.zret hx hb hr rfl (fun zT zh _ => ⟨⟨_, (f2, g2), rfl, ⟨by rw [decide_eq_false c_8]; rfl, f2, g2, hAA, rfl⟩, zbw zh hP⟩, hS.F zh⟩) hS.2.2 dO_one_16
    · have c_8 := (nI_eq (b := 1) (by omega) (by omega)).mp c_8
      refine lv_iconst (v := nI 1) hx hb dO_one_11 (by decide) ?_
      refine lv_goto (tgt := 16) hx hb dO_one_12 (by decide) ?_
      exact W.zret hx hb hr rfl (fun zT zh _ => ⟨⟨_, (f2, g2), rfl, ⟨by rw [decide_eq_true c_8]; rfl, f2, g2, hAA, rfl⟩, zbw zh hP⟩, hS.F zh⟩) hS.2.2 dO_one_16
  | false =>
    refine lv_aload_n hx hb dO_one_0 rfl (lv_at hl 0 rfl) ?_
    refine zk_r (zrV (rest := []) ⟨hx, hb, hml, hown, hz⟩ (c_allAnswers l dC dI cA a f g hWD false h1 n hn h9 B h18 t sl nw hnw h11 at0 ln hst hen hle hsl hB h13 lc hlc h12 sg hsg r c fr z0 hrc hfr0 hfr hz0 kn hkn hinv) ⟨zcB 0 hz q_288 q_1 q_291 (by decide +kernel) rfl rfl ⟨Nat.le_of_ble_eq_true rfl, Nat.le_of_ble_eq_true rfl⟩, hz _ q_290, hz _ qs_7⟩ hK hN hP 20 0 rfl rfl rfl rfl hl.1 rfl (Nat.le_of_ble_eq_true rfl) dO_one_1 ⟨Nat.zero_le _, Nat.zero_le _⟩) hS (fun _ h => h) (fun zu H1 locs zhu hP1 hS hk => ?_)
    obtain ⟨f2, g2, rfl, hAA⟩ := zhu
    have hpl : (zPP (decide (nw = 0) || (false && z0)) (((zAnsL B (zOk false fr) c r lc).map (zPk 0 0)).take 1000)).length ≤ 1000 := zPP_le _ _
    have hP := hP1
    generalize H1 = H at hP hS ⊢
    refine ogf_24N (v := nI (zPP (decide (nw = 0) || (false && z0)) (((zAnsL B (zOk false fr) c r lc).map (zPk 0 0)).take 1000)).length) hx hb hz hi_A hown hK hP (va_Nw.use rfl (hN _ qn_27)) hAA.2.2.1 dO_one_4 ?_
    refine lv_iconst (v := nI 1) hx hb dO_one_7 (by decide) ?_
    refine lv_icmp_ne (tgt := 15) hx hb dO_one_8 (by decide) (fun c_8 => ?_) (fun c_8 => ?_)
    · have c_8 := mt (nI_eq (b := 1) (by omega) (by omega)).mpr c_8
      refine lv_iconst (v := nI 0) hx hb dO_one_15 (by decide) ?_
      exact W.zret hx hb hr rfl (fun zT zh _ => ⟨⟨_, (f2, g2), rfl, ⟨by rw [decide_eq_false c_8]; rfl, f2, g2, hAA, rfl⟩, zbw zh hP⟩, hS.F zh⟩) hS.2.2 dO_one_16
    · have c_8 := (nI_eq (b := 1) (by omega) (by omega)).mp c_8
      refine lv_iconst (v := nI 1) hx hb dO_one_11 (by decide) ?_
      refine lv_goto (tgt := 16) hx hb dO_one_12 (by decide) ?_
      exact W.zret hx hb hr rfl (fun zT zh _ => ⟨⟨_, (f2, g2), rfl, ⟨by rw [decide_eq_true c_8]; rfl, f2, g2, hAA, rfl⟩, zbw zh hP⟩, hS.F zh⟩) hS.2.2 dO_one_16

set_option maxHeartbeats 4000000 in
set_option maxRecDepth 100000 in
theorem c_read (l : Launch) (dC : Nat → ClassId) (dI : Nat → Nat → Nat) (cA : ClassId) (a : Nat → Nat) (f : Nat → Int32) (g : Nat → Nat → Int32) (hWD : WDist a) (tn : Nat) (htn : tn ≤ 80) (h0 : f 0 = nI tn) (B : Nat) (h3 : f 3 = nI B) (hB : B ≤ 10) (t : Nat → Nat) (ht : ∀ j, j < tn → g 0 j = nI (t j) ∧ t j < 256) : Met l yO_read wsO_read ({ frames := 4, cells := 0, slots := 0, locals := 85 }) (va_Pc [.ref (a 20)] (zPW (dC, dI) vwCl [(cA, .int)] (WS cA a f g))) (va_Qi (fun (z : Int32) (s : zSt) => if gRun B t tn 0 0 0 0 false = -1 then ∃ w1 sg1 sn1 bh1 F1 w SA SE q lc B4 S5, (∀ j, j < tn → F1 j = nI (t j)) ∧ zLw t tn 0 0 (g 2) (g 3) (f 10) false = (w, SA, SE, q) ∧ zLl (zSn t tn 0 0) 26 0 0 (g 4) (g 5) = (lc, B4, S5) ∧ z = nI w ∧ s = (upd (upd (upd (upd (upd (upd (upd (upd (upd (gF (upd f 0 (nI 0)) w1 sg1 sn1 bh1) 9 (nI tn)) 11 (nI w)) 10 q) 12 (nI lc)) 22 (nI 0)) 23 (nI 0)) 24 (nI 0)) 25 (nI 0)) 2 (nI 0), sA (sA (sA (sA (sA g 1 F1) 2 SA) 3 SE) 4 B4) 5 S5) else z = -1 - gRun B t tn 0 0 0 0 false ∧ ∃ w1 sg1 sn1 bh1, s = (gF (upd f 0 (nI 0)) w1 sg1 sn1 bh1, g)) (zBW (dC, dI) vwCl (fun u : zSt => WS cA a u.1 u.2)) (AW a)) 0 0 (AW a) := by
  refine Met.ofW (cc := prog_1_method_3_code) (maxL := 3) (ret := (some .int)) (by decide) rfl ?_
  intro zp ze s zm args below meth zc s₁ zBL hml hv
  obtain ⟨rfl, hP, hK, hN⟩ := hv
  have hx := zBL.exec
  have hb := zBL.bytes
  have hr := zBL.returns
  have hts := atoms_spec (ws := wsO_read) zBL.pre
  have hz : ∀ w ∈ zBig, w.before _ s = true := fun w h => hts w (List.mem_cons_of_mem _ h)
  have hown : s.vm.findClass "LetterSums" = some zm.cls := findClass_of_methodNamed zBL.named
  have hlocks := zBL.notSynchronized
  have hD : ∀ f g, va_D (AW a) (WS cA a f g) := fun f g => WS_D hWD f g
  have hS : va_S (AW a) s.heap s.heap [] := va_S.rf
  have hl := lv_entry ([.ref (a 20)]) (n := 3) (Nat.le_of_ble_eq_true rfl)
  rw [lg_entry_eq]
  generalize (lg_sl ([.ref (a 20)]) ++ List.replicate (3 - (lg_sl ([.ref (a 20)])).length) Slot.unset).toArray = ls at hl ⊢
  have hl : lv_has ls 3 [(0, .ref (a 20))] := hl
  refine lv_aload_n hx hb dO_read_0 rfl (lv_at hl 0 rfl) ?_
  refine ogf_0 (v := nI tn) hx hb hz hi_O hown hK hP (hz _ q_179) h0 dO_read_1 ?_
  refine lv_istore_n (lv' := [(1, .int (nI tn)), (0, .ref (a 20))]) hx hb dO_read_4 rfl hl (by decide) rfl (fun ls hl => ?_)
  refine lv_aload_n hx hb dO_read_5 rfl (lv_at hl 1 rfl) ?_
  refine lv_iconst (v := nI 0) hx hb dO_read_6 (by decide) ?_
  refine opf_0 hx hb hz hi_O hown hK hP (hD _ _) hS (hz _ q_179) dO_read_7 (fun H locs hP hS => ?_)
  refine lv_aload_n hx hb dO_read_10 rfl (lv_at hl 1 rfl) ?_
  refine ogr_20_grammar hx hb hz hi_O hown hK hP (hz _ q_180) dO_read_11 ?_
  refine lv_aload_n hx hb dO_read_14 rfl (lv_at hl 1 rfl) ?_
  refine ogr_20_typed hx hb hz hi_O hown hK hP (hz _ q_178) dO_read_15 ?_
  refine lv_iload_n hx hb dO_read_18 rfl (lv_at hl 0 rfl) ?_
  refine zk_i (zrV (rest := []) ⟨hx, hb, hml, hown, hz⟩ (c_firstWrong l dC dI cA a (upd f 0 (nI 0)) g hWD B tn t h3 hB htn ht) ⟨zcB 2 hz q_214 q_4 q_217 (by decide +kernel) rfl rfl ⟨Nat.le_of_ble_eq_true rfl, Nat.le_of_ble_eq_true rfl⟩, hz _ q_215, hz _ q_216⟩ hK hN (WS_WT hP) 1 2 rfl rfl rfl rfl hl.1 rfl (Nat.le_of_ble_eq_true rfl) dO_read_19 ⟨Nat.zero_le _, Nat.zero_le _⟩) hS AT_AW (fun zr zu H1 locs zhu hP1 hS hk => ?_)
  obtain ⟨rfl, w1, sg1, sn1, bh1, rfl⟩ := zhu
  have hP := WS_back hWD hP hP1 rfl hk
  generalize H1 = H at hP hS ⊢
  refine lv_istore_n (lv' := [(2, .int (gRun B t tn 0 0 0 0 false)), (1, .int (nI tn)), (0, .ref (a 20))]) hx hb dO_read_22 rfl hl (by decide) rfl (fun ls hl => ?_)
  refine lv_iload_n hx hb dO_read_23 rfl (lv_at hl 0 rfl) ?_
  refine lv_iconst (v := (-1)) hx hb dO_read_24 (by decide) ?_
  refine lv_icmp_eq (tgt := 32) hx hb dO_read_25 (by decide) (fun c_25 => ?_) (fun c_25 => ?_)
  · refine lv_aload_n hx hb dO_read_32 rfl (lv_at hl 2 rfl) ?_
    refine ogr_20_sum hx hb hz hi_O hown hK hP (hz _ q_181) dO_read_33 ?_
    refine lv_aload_n hx hb dO_read_36 rfl (lv_at hl 2 rfl) ?_
    refine ogr_20_typed hx hb hz hi_O hown hK hP (hz _ q_178) dO_read_37 ?_
    refine lv_iload_n hx hb dO_read_40 rfl (lv_at hl 1 rfl) ?_
    refine zk_v (zrV (rest := []) ⟨hx, hb, hml, hown, hz⟩ (c_take l dC dI cA a (gF (upd f 0 (nI 0)) w1 sg1 sn1 bh1) g hWD tn htn t ht) ⟨zcB 2 hz q_250 q_5 q_253 (by decide +kernel) rfl rfl ⟨Nat.le_of_ble_eq_true rfl, Nat.le_of_ble_eq_true rfl⟩, hz _ q_251, hz _ q_252⟩ hK hN (WS_WT hP) 2 4 rfl rfl rfl rfl hl.1 rfl (Nat.le_of_ble_eq_true rfl) dO_read_41 ⟨Nat.zero_le _, Nat.zero_le _⟩) hS AT_AW (fun zu H1 locs zhu hP1 hS hk => ?_)
    obtain ⟨F1, w, SA, SE, q, lc, B4, S5, hF1, hlw, hll, rfl⟩ := zhu
    have hlw : zLw t tn 0 0 (g 2) (g 3) (f 10) false = (w, SA, SE, q) := hlw
    have hll : zLl (zSn t tn 0 0) 26 0 0 (g 4) (g 5) = (lc, B4, S5) := hll
    have hP1 : va_P (dC, dI) vwCl (WT cA a (upd (upd (upd (upd (gF (upd f 0 (nI 0)) w1 sg1 sn1 bh1) 9 (nI tn)) 11 (nI w)) 10 q) 12 (nI lc)) (sA (sA (sA (sA (sA g 1 F1) 2 SA) 3 SE) 4 B4) 5 S5)) H1 := hP1
    have hP := WS_back hWD hP hP1 rfl hk
    generalize H1 = H at hP hS ⊢
    refine lv_aload_n hx hb dO_read_44 rfl (lv_at hl 2 rfl) ?_
    refine ogr_20_barredAnswers hx hb hz hi_O hown hK hP (hz _ q_183) dO_read_45 ?_
    refine zk_v (zrV (rest := []) ⟨hx, hb, hml, hown, hz⟩ (c_forget l dC dI cA a (upd (upd (upd (upd (gF (upd f 0 (nI 0)) w1 sg1 sn1 bh1) 9 (nI tn)) 11 (nI w)) 10 q) 12 (nI lc)) (sA (sA (sA (sA (sA g 1 F1) 2 SA) 3 SE) 4 B4) 5 S5) hWD ) ⟨zcB 0 hz q_264 q_2 q_267 (by decide +kernel) rfl rfl ⟨Nat.le_of_ble_eq_true rfl, Nat.le_of_ble_eq_true rfl⟩, hz _ q_265, hz _ q_266⟩ hK hN (WS_WT hP) 16 1 rfl rfl rfl rfl hl.1 rfl (Nat.le_of_ble_eq_true rfl) dO_read_48 ⟨Nat.zero_le _, Nat.zero_le _⟩) hS AT_AW (fun zu H1 locs zhu hP1 hS hk => ?_)
    subst zhu
    have hP := WS_back hWD hP hP1 rfl hk
    generalize H1 = H at hP hS ⊢
    refine lv_aload_n hx hb dO_read_51 rfl (lv_at hl 2 rfl) ?_
    refine ogr_20_freeAnswers hx hb hz hi_O hown hK hP (hz _ q_184) dO_read_52 ?_
    refine zk_v (zrV (rest := []) ⟨hx, hb, hml, hown, hz⟩ (c_forget l dC dI cA (swA a) (swF (upd (upd (upd (upd (upd (upd (gF (upd f 0 (nI 0)) w1 sg1 sn1 bh1) 9 (nI tn)) 11 (nI w)) 10 q) 12 (nI lc)) 22 (nI 0)) 23 (nI 0))) (swG (sA (sA (sA (sA (sA g 1 F1) 2 SA) 3 SE) 4 B4) 5 S5)) (swD hWD)) ⟨zcB 0 hz q_264 q_2 q_267 (by decide +kernel) rfl rfl ⟨Nat.le_of_ble_eq_true rfl, Nat.le_of_ble_eq_true rfl⟩, hz _ q_265, hz _ q_266⟩ hK hN (WT_sw (WS_WT hP)) 16 1 rfl rfl rfl rfl hl.1 rfl (Nat.le_of_ble_eq_true rfl) dO_read_55 ⟨Nat.zero_le _, Nat.zero_le _⟩) hS (fun q h => AT_AW q (AT_sw.mp h)) (fun zu H1 locs zhu hP1 hS hk => ?_)
    subst zhu
    have hP2 : va_P (dC, dI) vwCl (WT cA a (upd (upd (upd (upd (upd (upd (upd (upd (gF (upd f 0 (nI 0)) w1 sg1 sn1 bh1) 9 (nI tn)) 11 (nI w)) 10 q) 12 (nI lc)) 22 (nI 0)) 23 (nI 0)) 24 (nI 0)) 25 (nI 0)) (sA (sA (sA (sA (sA g 1 F1) 2 SA) 3 SE) 4 B4) 5 S5)) H1 := by
      have h : va_P (dC, dI) vwCl (WT cA a (swF (upd (upd (swF (upd (upd (upd (upd (upd (upd (gF (upd f 0 (nI 0)) w1 sg1 sn1 bh1) 9 (nI tn)) 11 (nI w)) 10 q) 12 (nI lc)) 22 (nI 0)) 23 (nI 0))) 22 (nI 0)) 23 (nI 0))) (swG (swG (sA (sA (sA (sA (sA g 1 F1) 2 SA) 3 SE) 4 B4) 5 S5)))) H1 := WT_sw2 hP1
      rw [zSwF, zSwG] at h
      exact h
    have hP := WS_back hWD hP hP2 rfl (fun q h1 h2 => hk q h1 (fun h => h2 (AT_sw.mp h)))
    generalize H1 = H at hP hS ⊢
    refine lv_aload_n hx hb dO_read_58 rfl (lv_at hl 2 rfl) ?_
    refine lv_iconst (v := nI 0) hx hb dO_read_59 (by decide) ?_
    refine opf_2 hx hb hz hi_O hown hK hP (hD _ _) hS (hz _ q_186) dO_read_60 (fun H locs hP hS => ?_)
    refine lv_aload_n hx hb dO_read_63 rfl (lv_at hl 2 rfl) ?_
    refine ogr_20_sum hx hb hz hi_O hown hK hP (hz _ q_181) dO_read_64 ?_
    refine ogf_11N (v := nI w) hx hb hz hi_S hown hK hP (va_Nw.use rfl (hN _ qn_86)) rfl dO_read_67 ?_
    exact W.iret hx hb hr (fun zT zh _ => ⟨⟨_, (upd (upd (upd (upd (upd (upd (upd (upd (upd (gF (upd f 0 (nI 0)) w1 sg1 sn1 bh1) 9 (nI tn)) 11 (nI w)) 10 q) 12 (nI lc)) 22 (nI 0)) 23 (nI 0)) 24 (nI 0)) 25 (nI 0)) 2 (nI 0), sA (sA (sA (sA (sA g 1 F1) 2 SA) 3 SE) 4 B4) 5 S5), rfl, (by dsimp only; rw [if_pos c_25]; exact ⟨w1, sg1, sn1, bh1, F1, w, SA, SE, q, lc, B4, S5, hF1, hlw, hll, rfl, rfl⟩), zbw zh hP⟩, hS.F zh⟩) hS.2.2 dO_read_70
  · refine lv_iconst (v := (-1)) hx hb dO_read_28 (by decide) ?_
    refine lv_iload_n hx hb dO_read_29 rfl (lv_at hl 0 rfl) ?_
    refine lv_isub hx hb dO_read_30 ?_
    exact W.iret hx hb hr (fun zT zh _ => ⟨⟨_, (gF (upd f 0 (nI 0)) w1 sg1 sn1 bh1, g), rfl, (by dsimp only; rw [if_neg c_25]; exact ⟨rfl, w1, sg1, sn1, bh1, rfl⟩), zbw zh hP⟩, hS.F zh⟩) hS.2.2 dO_read_31
