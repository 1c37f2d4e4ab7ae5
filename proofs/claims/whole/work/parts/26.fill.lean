set_option maxHeartbeats 4000000 in
set_option maxRecDepth 100000 in
theorem c_sfill (l : Launch) (dC : Nat → ClassId) (dI : Nat → Nat → Nat) (cA : ClassId) (a : Nat → Nat) (f : Nat → Int32) (g : Nat → Nat → Int32) (hWD : WDist a) (bar : Bool) (n : Nat) (hn : n ≤ 80) (h9 : f 9 = nI n) (B : Nat) (h18 : f 18 = nI B) (t : Nat → Nat) (sl : Nat → Option Nat) (nw : Nat) (hnw : nw ≤ 8) (h11 : f 11 = nI nw) (at0 ln : Nat → Nat) (hst : ∀ k, k < nw → g 2 k = nI (at0 k)) (hen : ∀ k, k < nw → g 3 k = nI (at0 k + ln k)) (hle : ∀ k, k < nw → 1 ≤ ln k ∧ at0 k + ln k ≤ n) (hsl : ∀ k, k < nw → ∀ p, at0 k ≤ p → p < at0 k + ln k → zSlOk (g 1) (g 5) t sl p) (hB : B ≤ 10) (h13 : f 13 = nI B) (lc : Nat) (hlc : lc ≤ 8) (h12 : f 12 = nI lc) (sg : Nat → Int) (hsg : ∀ k, k < nw → (if zBh f g k = zTk g n k then (1 : Int) else -1) = sg k) (r : Int) (c : Nat → Int) (fr : Nat) (z0 : Bool) (hrc : zWs B sl (fun p => (t p : Int) - 48) sg at0 ln nw = (r, c)) (hfr0 : zFm sl at0 ln nw = fr) (hfr : fr < 256) (hz0 : zZf sl t at0 ln nw = z0) : Met l yF_fill wsF_fill ({ frames := 8, cells := 0, slots := 0, locals := 200 }) (va_Pc [.ref (a 8), .ref (a 16), .ref (a 2), .int (zB bar)] (zPW (dC, dI) vwCl [(cA, .int)] (WT cA a f g))) (va_Qv (fun s : zSt => ∃ f2 g2, s = (f2, g2) ∧ zKp f f2 ∧ zKg g g2 ∧ f2 22 = nI (zPP (decide (nw = 0) || (bar && z0)) (((zAnsL B (zOk bar fr) c r lc).map (zPk 0 0)).take 1000)).length ∧ f2 23 = nI 0 ∧ zIs (g2 12) (zPP (decide (nw = 0) || (bar && z0)) (((zAnsL B (zOk bar fr) c r lc).map (zPk 0 0)).take 1000))) (zBW (dC, dI) vwCl (fun u : zSt => WT cA a u.1 u.2)) (AT a)) 0 0 (AT a) := by
  refine Met.ofW (cc := prog_4_method_2_code) (maxL := 4) (ret := none) (by decide) rfl ?_
  intro zp ze s zm args below meth zc s₁ zBL hml hv
  obtain ⟨rfl, hP, hK, hN⟩ := hv
  have hx := zBL.exec
  have hb := zBL.bytes
  have hr := zBL.returns
  have hts := atoms_spec (ws := wsF_fill) zBL.pre
  have hz : ∀ w ∈ zBig, w.before _ s = true := fun w h => hts w (List.mem_cons_of_mem _ h)
  have hown : s.vm.findClass "LetterSums$Search" = some zm.cls := findClass_of_methodNamed zBL.named
  have hlocks := zBL.notSynchronized
  have hD : ∀ f g, va_D (AT a) (WT cA a f g) := fun f g => WT_D hWD f g
  have hS : va_S (AT a) s.heap s.heap [] := va_S.rf
  have hl := lv_entry ([.ref (a 8), .ref (a 16), .ref (a 2), .int (zB bar)]) (n := 4) (Nat.le_of_ble_eq_true rfl)
  rw [lg_entry_eq]
  generalize (lg_sl ([.ref (a 8), .ref (a 16), .ref (a 2), .int (zB bar)]) ++ List.replicate (4 - (lg_sl ([.ref (a 8), .ref (a 16), .ref (a 2), .int (zB bar)])).length) Slot.unset).toArray = ls at hl ⊢
  have hl : lv_has ls 4 [(0, .ref (a 8)), (1, .ref (a 16)), (2, .ref (a 2)), (3, .int (zB bar))] := hl
  refine lv_aload_n hx hb dF_fill_0 rfl (lv_at hl 1 rfl) ?_
  refine zk_v (zrV (rest := []) ⟨hx, hb, hml, hown, hz⟩ (c_forget l dC dI cA a f g hWD ) ⟨zcB 0 hz q_300 q_2 q_267 (by decide +kernel) rfl rfl ⟨Nat.le_of_ble_eq_true rfl, Nat.le_of_ble_eq_true rfl⟩, hz _ q_265, hz _ q_266⟩ hK hN hP 16 1 rfl rfl rfl rfl hl.1 rfl (Nat.le_of_ble_eq_true rfl) dF_fill_1 ⟨Nat.zero_le _, Nat.zero_le _⟩) hS (fun _ h => h) (fun zu H1 locs zhu hP1 hS hk => ?_)
  subst zhu
  have hP := hP1
  generalize H1 = H at hP hS ⊢
  refine lv_aload_n hx hb dF_fill_4 rfl (lv_at hl 0 rfl) ?_
  refine gr_8_weights hx hb hz hi_F hown hK hP (hz _ q_145) dF_fill_5 ?_
  refine lv_aload_n hx hb dF_fill_8 rfl (lv_at hl 2 rfl) ?_
  refine zk_v (zrV (rest := []) ⟨hx, hb, hml, hown, hz⟩ (c_weigh l dC dI cA a (upd (upd f 22 (nI 0)) 23 (nI 0)) g hWD n hn h9 B h18 t sl nw hnw h11 at0 ln hst hen hle hsl) ⟨zcB 1 hz q_301 q_8 q_304 (by decide +kernel) rfl rfl ⟨Nat.le_of_ble_eq_true rfl, Nat.le_of_ble_eq_true rfl⟩, hz _ q_302, hz _ q_303⟩ hK hN hP 9 5 rfl rfl rfl rfl hl.1 rfl (Nat.le_of_ble_eq_true rfl) dF_fill_9 ⟨Nat.zero_le _, Nat.zero_le _⟩) hS (fun _ h => h) (fun zu H1 locs zhu hP1 hS hk => ?_)
  obtain ⟨F6, rfl, hRel⟩ := zhu
  have hws : zWs B sl (fun p => (t p : Int) - 48) (fun k => if zBh (upd (upd f 22 (nI 0)) 23 (nI 0)) g k = zTk g n k then 1 else -1) at0 ln nw = (r, c) := by rw [← hrc]; exact zWs_congr hsg
  have hRel : zRel F6 c := by have h := hRel; rw [hws] at h; exact h
  have hP1 : va_P (dC, dI) vwCl (WT cA a (upd (upd (upd (upd (upd f 22 (nI 0)) 23 (nI 0)) 19 (Int32.ofInt r)) 20 (nI fr)) 21 (zB z0)) (sA g 6 F6)) H1 := by have h := hP1; rw [hws, hfr0, hz0] at h; exact h
  have hP := hP1
  generalize H1 = H at hP hS ⊢
  refine lv_aload_n hx hb dF_fill_12 rfl (lv_at hl 2 rfl) ?_
  refine gf_11N (v := nI nw) hx hb hz hi_S hown hK hP (va_Nw.use rfl (hN _ qn_84)) h11 dF_fill_13 ?_
  refine lv_if_eq (tgt := 33) hx hb dF_fill_16 (by decide) (fun c_16 => ?_) (fun c_16 => ?_)
  · have c_16 := (nI_eq (a := nw) (b := 0) (by omega) (by omega)).mp c_16
    exact W.vret hx hb hr (fun zT zh _ => ⟨⟨(upd (upd (upd (upd (upd f 22 (nI 0)) 23 (nI 0)) 19 (Int32.ofInt r)) 20 (nI fr)) 21 (zB z0), sA g 6 F6), rfl, (by
          rw [zPP_t (by simp [c_16])]
          exact ⟨_, _, rfl, (fun j hj => by simp only [upd]; repeat rw [if_neg (by omega)]), (fun j hj => by simp only [sA]; repeat rw [if_neg (by omega)]), rfl, rfl, fun j h => absurd h (Nat.not_lt_zero j)⟩), zbw zh hP⟩, hS.F zh⟩) hS.2.2 dF_fill_33
  · have c_16 := mt (nI_eq (a := nw) (b := 0) (by omega) (by omega)).mpr c_16
    refine lv_iload_n hx hb dF_fill_19 rfl (lv_at hl 3 rfl) ?_
    refine lv_if_eq (tgt := 34) hx hb dF_fill_20 (by decide) (fun c_20 => ?_) (fun c_20 => ?_)
    · have c_20 : bar = false := zB_eq0.mp c_20
      refine lv_aload_n hx hb dF_fill_34 rfl (lv_at hl 0 rfl) ?_
      refine lv_iload_n hx hb dF_fill_35 rfl (lv_at hl 3 rfl) ?_
      refine pf_17 hx hb hz hi_F hown hK hP (hD _ _) hS (hz _ q_154) (zB_nar _) (zB_fit _) dF_fill_36 (fun H locs hP hS => ?_)
      refine lv_aload_n hx hb dF_fill_39 rfl (lv_at hl 0 rfl) ?_
      refine lv_aload_n hx hb dF_fill_40 rfl (lv_at hl 2 rfl) ?_
      refine gf_12N (v := nI lc) hx hb hz hi_S hown hK hP (va_Nw.use rfl (hN _ qn_90)) h12 dF_fill_41 ?_
      refine lv_bipush (v := nI 8) hx hb dF_fill_44 (by decide) ?_
      refine zq_e (zrS0 (rest := [.ref (a 8)]) ⟨hx, hb, hml, hown, hz⟩ (c_mmin l  (nI lc) (nI 8)) ⟨zcB 2 hz q_331 q_3 q_40 (by decide +kernel) rfl rfl ⟨Nat.le_of_ble_eq_true rfl, Nat.le_of_ble_eq_true rfl⟩, hz _ q_39⟩ rfl hl.1 rfl (Nat.le_of_ble_eq_true rfl) dF_fill_46 ⟨Nat.zero_le _, Nat.zero_le _⟩) ?_
      refine zt (y := nI lc) (if_neg (nI_nlt hlc (by decide))) ?_
      refine pf_15 hx hb hz hi_F hown hK hP (hD _ _) hS (hz _ q_152) dF_fill_49 (fun H locs hP hS => ?_)
      refine lv_aload_n hx hb dF_fill_52 rfl (lv_at hl 0 rfl) ?_
      refine lv_aload_n hx hb dF_fill_53 rfl (lv_at hl 0 rfl) ?_
      refine gf_15 (v := nI lc) hx hb hz hi_F hown hK hP (hz _ q_152) rfl dF_fill_54 ?_
      refine lv_aload_n hx hb dF_fill_57 rfl (lv_at hl 0 rfl) ?_
      refine gf_15 (v := nI lc) hx hb hz hi_F hown hK hP (hz _ q_152) rfl dF_fill_58 ?_
      refine lv_iconst (v := nI 2) hx hb dF_fill_61 (by decide) ?_
      refine lv_idiv hx hb dF_fill_62 (by decide) ?_
      refine zt (y := nI (lc / 2)) (pk_div (by omega) (by decide) (by decide)) ?_
      refine lv_isub hx hb dF_fill_63 ?_
      refine zt (y := nI (lc - lc / 2)) (pk_sub (by omega)) ?_
      refine pf_16 hx hb hz hi_F hown hK hP (hD _ _) hS (hz _ q_153) dF_fill_64 (fun H locs hP hS => ?_)
      refine lv_aload_n hx hb dF_fill_67 rfl (lv_at hl 0 rfl) ?_
      refine lv_iconst (v := nI 0) hx hb dF_fill_68 (by decide) ?_
      refine pf_14 hx hb hz hi_F hown hK hP (hD _ _) hS (hz _ q_151) dF_fill_69 (fun H locs hP hS => ?_)
      refine lv_aload_n hx hb dF_fill_72 rfl (lv_at hl 0 rfl) ?_
      refine lv_aload_n hx hb dF_fill_73 rfl (lv_at hl 0 rfl) ?_
      refine gf_16 (v := nI (lc - lc / 2)) hx hb hz hi_F hown hK hP (hz _ q_153) rfl dF_fill_74 ?_
      refine lv_iconst (v := nI 0) hx hb dF_fill_77 (by decide) ?_
      refine lv_iconst (v := nI 0) hx hb dF_fill_78 (by decide) ?_
      refine lv_iconst (v := nI 0) hx hb dF_fill_79 (by decide) ?_
      refine zk_v (zrV (rest := []) ⟨hx, hb, hml, hown, hz⟩ (c_listLater l dC dI cA a hWD (lc / 2) (upd (upd (upd (upd (upd (upd (upd (upd (upd f 22 (nI 0)) 23 (nI 0)) 19 (Int32.ofInt r)) 20 (nI fr)) 21 (zB z0)) 17 (zB bar)) 15 (nI lc)) 16 (nI (lc - lc / 2))) 14 (nI 0)) (sA g 6 F6) bar fr rfl rfl hfr B (lc - lc / 2) 0 (nI 0) (nI 0) [] hB h13 rfl (by show nI lc = _; congr 1; omega) (by omega) (fun j h => absurd h (Nat.not_lt_zero j)) (Nat.two_pow_pos B) (by rw [List.nil_append]; exact zLs_len B _ _ (lc / 2) (lc - lc / 2) hB (by omega))) ⟨zcB 4 hz q_332 q_7 q_335 (by decide +kernel) rfl rfl ⟨by show 2 + lc / 2 + 1 ≤ 8; omega, by show 8 + (6 + 11) + (45 + 25 * (lc / 2)) ≤ 200; omega⟩, hz _ q_334, hz _ qs_11⟩ hK hN hP 8 3 rfl rfl rfl rfl hl.1 rfl (Nat.le_of_ble_eq_true rfl) dF_fill_80 ⟨Nat.zero_le _, Nat.zero_le _⟩) hS (fun _ h => h) (fun zu H1 locs zhu hP1 hS hk => ?_)
      obtain ⟨F7, F8, F9, rfl, hw⟩ := zhu
      have hw : zWay F7 F8 F9 (zLs B (zOk bar fr) F6 (lc / 2) (lc - lc / 2) 0 (nI 0) (nI 0)) := hw
      have hP1 : va_P (dC, dI) vwCl (WT cA a (upd (upd (upd (upd (upd (upd (upd (upd (upd (upd f 22 (nI 0)) 23 (nI 0)) 19 (Int32.ofInt r)) 20 (nI fr)) 21 (zB z0)) 17 (zB bar)) 15 (nI lc)) 16 (nI (lc - lc / 2))) 14 (nI 0)) 14 (nI (zLs B (zOk bar fr) F6 (lc / 2) (lc - lc / 2) 0 (nI 0) (nI 0)).length)) (sA (sA (sA (sA g 6 F6) 7 F7) 8 F8) 9 F9)) H1 := hP1
      have hP := hP1
      generalize H1 = H at hP hS ⊢
      refine lv_aload_n hx hb dF_fill_83 rfl (lv_at hl 0 rfl) ?_
      refine zk_v (zrV (rest := []) ⟨hx, hb, hml, hown, hz⟩ (c_chainWays l dC dI cA a (upd (upd (upd (upd (upd (upd (upd (upd (upd (upd f 22 (nI 0)) 23 (nI 0)) 19 (Int32.ofInt r)) 20 (nI fr)) 21 (zB z0)) 17 (zB bar)) 15 (nI lc)) 16 (nI (lc - lc / 2))) 14 (nI 0)) 14 (nI (zLs B (zOk bar fr) F6 (lc / 2) (lc - lc / 2) 0 (nI 0) (nI 0)).length)) (sA (sA (sA (sA g 6 F6) 7 F7) 8 F8) 9 F9) hWD (zLs B (zOk bar fr) F6 (lc / 2) (lc - lc / 2) 0 (nI 0) (nI 0)).length (zLs_len B _ _ (lc / 2) (lc - lc / 2) hB (by omega)) rfl) ⟨zcB 0 hz q_351 q_7 q_354 (by decide +kernel) rfl rfl ⟨Nat.le_of_ble_eq_true rfl, Nat.le_of_ble_eq_true rfl⟩, hz _ q_353, hz _ qs_14⟩ hK hN hP 8 3 rfl rfl rfl rfl hl.1 rfl (Nat.le_of_ble_eq_true rfl) dF_fill_84 ⟨Nat.zero_le _, Nat.zero_le _⟩) hS (fun _ h => h) (fun zu H1 locs zhu hP1 hS hk => ?_)
      obtain ⟨F10, F11, rfl, hch⟩ := zhu
      have hch : zChain F7 F10 F11 (zLs B (zOk bar fr) F6 (lc / 2) (lc - lc / 2) 0 (nI 0) (nI 0)).length := hch
      have hP1 : va_P (dC, dI) vwCl (WT cA a (upd (upd (upd (upd (upd (upd (upd (upd (upd (upd f 22 (nI 0)) 23 (nI 0)) 19 (Int32.ofInt r)) 20 (nI fr)) 21 (zB z0)) 17 (zB bar)) 15 (nI lc)) 16 (nI (lc - lc / 2))) 14 (nI 0)) 14 (nI (zLs B (zOk bar fr) F6 (lc / 2) (lc - lc / 2) 0 (nI 0) (nI 0)).length)) (sA (sA (sA (sA (sA (sA g 6 F6) 7 F7) 8 F8) 9 F9) 10 F10) 11 F11)) H1 := hP1
      have hP := hP1
      generalize H1 = H at hP hS ⊢
      refine lv_aload_n hx hb dF_fill_87 rfl (lv_at hl 0 rfl) ?_
      refine lv_iconst (v := nI 0) hx hb dF_fill_88 (by decide) ?_
      refine lv_iconst (v := nI 0) hx hb dF_fill_89 (by decide) ?_
      refine lv_iconst (v := nI 0) hx hb dF_fill_90 (by decide) ?_
      refine lv_aload_n hx hb dF_fill_91 rfl (lv_at hl 0 rfl) ?_
      refine gr_8_weights hx hb hz hi_F hown hK hP (hz _ q_145) dF_fill_92 ?_
      refine gf_19N (v := Int32.ofInt r) hx hb hz hi_W hown hK hP (va_Nw.use rfl (hN _ qn_129)) rfl dF_fill_95 ?_
      refine lv_aload_n hx hb dF_fill_98 rfl (lv_at hl 1 rfl) ?_
      refine zk_v (zrV (rest := []) ⟨hx, hb, hml, hown, hz⟩ (c_tryEarlier l dC dI cA a hWD (lc - lc / 2) (upd (upd (upd (upd (upd (upd (upd (upd (upd (upd f 22 (nI 0)) 23 (nI 0)) 19 (Int32.ofInt r)) 20 (nI fr)) 21 (zB z0)) 17 (zB bar)) 15 (nI lc)) 16 (nI (lc - lc / 2))) 14 (nI 0)) 14 (nI (zLs B (zOk bar fr) F6 (lc / 2) (lc - lc / 2) 0 (nI 0) (nI 0)).length)) (sA (sA (sA (sA (sA (sA g 6 F6) 7 F7) 8 F8) 9 F9) 10 F10) 11 F11) bar fr rfl rfl hfr B 0 0 (nI 0) (Int32.ofInt r) hB h13 (by show nI _ = nI _; congr 1; omega) (by omega) (Nat.two_pow_pos B) (zLs B (zOk bar fr) F6 (lc / 2) (lc - lc / 2) 0 (nI 0) (nI 0)) (zLs_len B _ _ (lc / 2) (lc - lc / 2) hB (by omega)) rfl hw hch [] rfl (by decide) (fun j h => absurd h (Nat.not_lt_zero j))) ⟨zcB 5 hz q_359 q_7 q_362 (by decide +kernel) rfl rfl ⟨by show 3 + (lc - lc / 2) + 1 ≤ 8; omega, by show 8 + (7 + 11) + (67 + 26 * (lc - lc / 2)) ≤ 200; omega⟩, hz _ q_361, hz _ qs_15⟩ hK hN hP 8 3 rfl rfl rfl rfl hl.1 rfl (Nat.le_of_ble_eq_true rfl) dF_fill_99 ⟨Nat.zero_le _, Nat.zero_le _⟩) hS (fun _ h => h) (fun zu H1 locs zhu hP1 hS hk => ?_)
      obtain ⟨F12, rfl, hI⟩ := zhu
      have hI : zIs F12 (([] ++ zTE B (zOk bar fr) F6 (zLs B (zOk bar fr) F6 (lc / 2) (lc - lc / 2) 0 (nI 0) (nI 0)) (lc - lc / 2) 0 0 (nI 0) (Int32.ofInt r)).take 1000) := hI
      have hP1 : va_P (dC, dI) vwCl (WT cA a (upd (upd (upd (upd (upd (upd (upd (upd (upd (upd (upd f 22 (nI 0)) 23 (nI 0)) 19 (Int32.ofInt r)) 20 (nI fr)) 21 (zB z0)) 17 (zB bar)) 15 (nI lc)) 16 (nI (lc - lc / 2))) 14 (nI 0)) 14 (nI (zLs B (zOk bar fr) F6 (lc / 2) (lc - lc / 2) 0 (nI 0) (nI 0)).length)) 22 (nI (([] ++ zTE B (zOk bar fr) F6 (zLs B (zOk bar fr) F6 (lc / 2) (lc - lc / 2) 0 (nI 0) (nI 0)) (lc - lc / 2) 0 0 (nI 0) (Int32.ofInt r)).take 1000).length)) (sA (sA (sA (sA (sA (sA (sA g 6 F6) 7 F7) 8 F8) 9 F9) 10 F10) 11 F11) 12 F12)) H1 := hP1
      have hP := hP1
      generalize H1 = H at hP hS ⊢
      exact W.vret hx hb hr (fun zT zh _ => ⟨⟨(upd (upd (upd (upd (upd (upd (upd (upd (upd (upd (upd f 22 (nI 0)) 23 (nI 0)) 19 (Int32.ofInt r)) 20 (nI fr)) 21 (zB z0)) 17 (zB bar)) 15 (nI lc)) 16 (nI (lc - lc / 2))) 14 (nI 0)) 14 (nI (zLs B (zOk bar fr) F6 (lc / 2) (lc - lc / 2) 0 (nI 0) (nI 0)).length)) 22 (nI (([] ++ zTE B (zOk bar fr) F6 (zLs B (zOk bar fr) F6 (lc / 2) (lc - lc / 2) 0 (nI 0) (nI 0)) (lc - lc / 2) 0 0 (nI 0) (Int32.ofInt r)).take 1000).length), sA (sA (sA (sA (sA (sA (sA g 6 F6) 7 F7) 8 F8) 9 F9) 10 F10) 11 F11) 12 F12), rfl, (by
            rw [zPP_f (by simp [c_16, c_20]), ← zFin hRel hlc]
            exact ⟨_, _, rfl, (fun j hj => by simp only [upd]; repeat rw [if_neg (by omega)]), (fun j hj => by simp only [sA]; repeat rw [if_neg (by omega)]), rfl, rfl, hI⟩), zbw zh hP⟩, hS.F zh⟩) hS.2.2 dF_fill_102
    · have c_20 : bar = true := zB_n0 c_20
      refine lv_aload_n hx hb dF_fill_23 rfl (lv_at hl 0 rfl) ?_
      refine gr_8_weights hx hb hz hi_F hown hK hP (hz _ q_145) dF_fill_24 ?_
      refine gf_21N (v := zB z0) hx hb hz hi_W hown hK hP (va_Nw.use rfl (hN _ qn_132)) rfl dF_fill_27 ?_
      refine lv_if_eq (tgt := 34) hx hb dF_fill_30 (by decide) (fun c_30 => ?_) (fun c_30 => ?_)
      · have c_30 : z0 = false := zB_eq0.mp c_30
        refine lv_aload_n hx hb dF_fill_34 rfl (lv_at hl 0 rfl) ?_
        refine lv_iload_n hx hb dF_fill_35 rfl (lv_at hl 3 rfl) ?_
        refine pf_17 hx hb hz hi_F hown hK hP (hD _ _) hS (hz _ q_154) (zB_nar _) (zB_fit _) dF_fill_36 (fun H locs hP hS => ?_)
        refine lv_aload_n hx hb dF_fill_39 rfl (lv_at hl 0 rfl) ?_
        refine lv_aload_n hx hb dF_fill_40 rfl (lv_at hl 2 rfl) ?_
        refine gf_12N (v := nI lc) hx hb hz hi_S hown hK hP (va_Nw.use rfl (hN _ qn_90)) h12 dF_fill_41 ?_
        refine lv_bipush (v := nI 8) hx hb dF_fill_44 (by decide) ?_
        refine zq_e (zrS0 (rest := [.ref (a 8)]) ⟨hx, hb, hml, hown, hz⟩ (c_mmin l  (nI lc) (nI 8)) ⟨zcB 2 hz q_331 q_3 q_40 (by decide +kernel) rfl rfl ⟨Nat.le_of_ble_eq_true rfl, Nat.le_of_ble_eq_true rfl⟩, hz _ q_39⟩ rfl hl.1 rfl (Nat.le_of_ble_eq_true rfl) dF_fill_46 ⟨Nat.zero_le _, Nat.zero_le _⟩) ?_
        refine zt (y := nI lc) (if_neg (nI_nlt hlc (by decide))) ?_
        refine pf_15 hx hb hz hi_F hown hK hP (hD _ _) hS (hz _ q_152) dF_fill_49 (fun H locs hP hS => ?_)
        refine lv_aload_n hx hb dF_fill_52 rfl (lv_at hl 0 rfl) ?_
        refine lv_aload_n hx hb dF_fill_53 rfl (lv_at hl 0 rfl) ?_
        refine gf_15 (v := nI lc) hx hb hz hi_F hown hK hP (hz _ q_152) rfl dF_fill_54 ?_
        refine lv_aload_n hx hb dF_fill_57 rfl (lv_at hl 0 rfl) ?_
        refine gf_15 (v := nI lc) hx hb hz hi_F hown hK hP (hz _ q_152) rfl dF_fill_58 ?_
        refine lv_iconst (v := nI 2) hx hb dF_fill_61 (by decide) ?_
        refine lv_idiv hx hb dF_fill_62 (by decide) ?_
        refine zt (y := nI (lc / 2)) (pk_div (by omega) (by decide) (by decide)) ?_
        refine lv_isub hx hb dF_fill_63 ?_
        refine zt (y := nI (lc - lc / 2)) (pk_sub (by omega)) ?_
        refine pf_16 hx hb hz hi_F hown hK hP (hD _ _) hS (hz _ q_153) dF_fill_64 (fun H locs hP hS => ?_)
        refine lv_aload_n hx hb dF_fill_67 rfl (lv_at hl 0 rfl) ?_
        refine lv_iconst (v := nI 0) hx hb dF_fill_68 (by decide) ?_
        refine pf_14 hx hb hz hi_F hown hK hP (hD _ _) hS (hz _ q_151) dF_fill_69 (fun H locs hP hS => ?_)
        refine lv_aload_n hx hb dF_fill_72 rfl (lv_at hl 0 rfl) ?_
        refine lv_aload_n hx hb dF_fill_73 rfl (lv_at hl 0 rfl) ?_
        refine gf_16 (v := nI (lc - lc / 2)) hx hb hz hi_F hown hK hP (hz _ q_153) rfl dF_fill_74 ?_
        refine lv_iconst (v := nI 0) hx hb dF_fill_77 (by decide) ?_
        refine lv_iconst (v := nI 0) hx hb dF_fill_78 (by decide) ?_
        refine lv_iconst (v := nI 0) hx hb dF_fill_79 (by decide) ?_
        refine zk_v (zrV (rest := []) ⟨hx, hb, hml, hown, hz⟩ (c_listLater l dC dI cA a hWD (lc / 2) (upd (upd (upd (upd (upd (upd (upd (upd (upd f 22 (nI 0)) 23 (nI 0)) 19 (Int32.ofInt r)) 20 (nI fr)) 21 (zB z0)) 17 (zB bar)) 15 (nI lc)) 16 (nI (lc - lc / 2))) 14 (nI 0)) (sA g 6 F6) bar fr rfl rfl hfr B (lc - lc / 2) 0 (nI 0) (nI 0) [] hB h13 rfl (by show nI lc = _; congr 1; omega) (by omega) (fun j h => absurd h (Nat.not_lt_zero j)) (Nat.two_pow_pos B) (by rw [List.nil_append]; exact zLs_len B _ _ (lc / 2) (lc - lc / 2) hB (by omega))) ⟨zcB 4 hz q_332 q_7 q_335 (by decide +kernel) rfl rfl ⟨by show 2 + lc / 2 + 1 ≤ 8; omega, by show 8 + (6 + 11) + (45 + 25 * (lc / 2)) ≤ 200; omega⟩, hz _ q_334, hz _ qs_11⟩ hK hN hP 8 3 rfl rfl rfl rfl hl.1 rfl (Nat.le_of_ble_eq_true rfl) dF_fill_80 ⟨Nat.zero_le _, Nat.zero_le _⟩) hS (fun _ h => h) (fun zu H1 locs zhu hP1 hS hk => ?_)
        obtain ⟨F7, F8, F9, rfl, hw⟩ := zhu
        have hw : zWay F7 F8 F9 (zLs B (zOk bar fr) F6 (lc / 2) (lc - lc / 2) 0 (nI 0) (nI 0)) := hw
        have hP1 : va_P (dC, dI) vwCl (WT cA a (upd (upd (upd (upd (upd (upd (upd (upd (upd (upd f 22 (nI 0)) 23 (nI 0)) 19 (Int32.ofInt r)) 20 (nI fr)) 21 (zB z0)) 17 (zB bar)) 15 (nI lc)) 16 (nI (lc - lc / 2))) 14 (nI 0)) 14 (nI (zLs B (zOk bar fr) F6 (lc / 2) (lc - lc / 2) 0 (nI 0) (nI 0)).length)) (sA (sA (sA (sA g 6 F6) 7 F7) 8 F8) 9 F9)) H1 := hP1
        have hP := hP1
        generalize H1 = H at hP hS ⊢
        refine lv_aload_n hx hb dF_fill_83 rfl (lv_at hl 0 rfl) ?_
        refine zk_v (zrV (rest := []) ⟨hx, hb, hml, hown, hz⟩ (c_chainWays l dC dI cA a (upd (upd (upd (upd (upd (upd (upd (upd (upd (upd f 22 (nI 0)) 23 (nI 0)) 19 (Int32.ofInt r)) 20 (nI fr)) 21 (zB z0)) 17 (zB bar)) 15 (nI lc)) 16 (nI (lc - lc / 2))) 14 (nI 0)) 14 (nI (zLs B (zOk bar fr) F6 (lc / 2) (lc - lc / 2) 0 (nI 0) (nI 0)).length)) (sA (sA (sA (sA g 6 F6) 7 F7) 8 F8) 9 F9) hWD (zLs B (zOk bar fr) F6 (lc / 2) (lc - lc / 2) 0 (nI 0) (nI 0)).length (zLs_len B _ _ (lc / 2) (lc - lc / 2) hB (by omega)) rfl) ⟨zcB 0 hz q_351 q_7 q_354 (by decide +kernel) rfl rfl ⟨Nat.le_of_ble_eq_true rfl, Nat.le_of_ble_eq_true rfl⟩, hz _ q_353, hz _ qs_14⟩ hK hN hP 8 3 rfl rfl rfl rfl hl.1 rfl (Nat.le_of_ble_eq_true rfl) dF_fill_84 ⟨Nat.zero_le _, Nat.zero_le _⟩) hS (fun _ h => h) (fun zu H1 locs zhu hP1 hS hk => ?_)
        obtain ⟨F10, F11, rfl, hch⟩ := zhu
        have hch : zChain F7 F10 F11 (zLs B (zOk bar fr) F6 (lc / 2) (lc - lc / 2) 0 (nI 0) (nI 0)).length := hch
        have hP1 : va_P (dC, dI) vwCl (WT cA a (upd (upd (upd (upd (upd (upd (upd (upd (upd (upd f 22 (nI 0)) 23 (nI 0)) 19 (Int32.ofInt r)) 20 (nI fr)) 21 (zB z0)) 17 (zB bar)) 15 (nI lc)) 16 (nI (lc - lc / 2))) 14 (nI 0)) 14 (nI (zLs B (zOk bar fr) F6 (lc / 2) (lc - lc / 2) 0 (nI 0) (nI 0)).length)) (sA (sA (sA (sA (sA (sA g 6 F6) 7 F7) 8 F8) 9 F9) 10 F10) 11 F11)) H1 := hP1
        have hP := hP1
        generalize H1 = H at hP hS ⊢
        refine lv_aload_n hx hb dF_fill_87 rfl (lv_at hl 0 rfl) ?_
        refine lv_iconst (v := nI 0) hx hb dF_fill_88 (by decide) ?_
        refine lv_iconst (v := nI 0) hx hb dF_fill_89 (by decide) ?_
        refine lv_iconst (v := nI 0) hx hb dF_fill_90 (by decide) ?_
        refine lv_aload_n hx hb dF_fill_91 rfl (lv_at hl 0 rfl) ?_
        refine gr_8_weights hx hb hz hi_F hown hK hP (hz _ q_145) dF_fill_92 ?_
        refine gf_19N (v := Int32.ofInt r) hx hb hz hi_W hown hK hP (va_Nw.use rfl (hN _ qn_129)) rfl dF_fill_95 ?_
        refine lv_aload_n hx hb dF_fill_98 rfl (lv_at hl 1 rfl) ?_
        refine zk_v (zrV (rest := []) ⟨hx, hb, hml, hown, hz⟩ (c_tryEarlier l dC dI cA a hWD (lc - lc / 2) (upd (upd (upd (upd (upd (upd (upd (upd (upd (upd f 22 (nI 0)) 23 (nI 0)) 19 (Int32.ofInt r)) 20 (nI fr)) 21 (zB z0)) 17 (zB bar)) 15 (nI lc)) 16 (nI (lc - lc / 2))) 14 (nI 0)) 14 (nI (zLs B (zOk bar fr) F6 (lc / 2) (lc - lc / 2) 0 (nI 0) (nI 0)).length)) (sA (sA (sA (sA (sA (sA g 6 F6) 7 F7) 8 F8) 9 F9) 10 F10) 11 F11) bar fr rfl rfl hfr B 0 0 (nI 0) (Int32.ofInt r) hB h13 (by show nI _ = nI _; congr 1; omega) (by omega) (Nat.two_pow_pos B) (zLs B (zOk bar fr) F6 (lc / 2) (lc - lc / 2) 0 (nI 0) (nI 0)) (zLs_len B _ _ (lc / 2) (lc - lc / 2) hB (by omega)) rfl hw hch [] rfl (by decide) (fun j h => absurd h (Nat.not_lt_zero j))) ⟨zcB 5 hz q_359 q_7 q_362 (by decide +kernel) rfl rfl ⟨by show 3 + (lc - lc / 2) + 1 ≤ 8; omega, by show 8 + (7 + 11) + (67 + 26 * (lc - lc / 2)) ≤ 200; omega⟩, hz _ q_361, hz _ qs_15⟩ hK hN hP 8 3 rfl rfl rfl rfl hl.1 rfl (Nat.le_of_ble_eq_true rfl) dF_fill_99 ⟨Nat.zero_le _, Nat.zero_le _⟩) hS (fun _ h => h) (fun zu H1 locs zhu hP1 hS hk => ?_)
        obtain ⟨F12, rfl, hI⟩ := zhu
        have hI : zIs F12 (([] ++ zTE B (zOk bar fr) F6 (zLs B (zOk bar fr) F6 (lc / 2) (lc - lc / 2) 0 (nI 0) (nI 0)) (lc - lc / 2) 0 0 (nI 0) (Int32.ofInt r)).take 1000) := hI
        have hP1 : va_P (dC, dI) vwCl (WT cA a (upd (upd (upd (upd (upd (upd (upd (upd (upd (upd (upd f 22 (nI 0)) 23 (nI 0)) 19 (Int32.ofInt r)) 20 (nI fr)) 21 (zB z0)) 17 (zB bar)) 15 (nI lc)) 16 (nI (lc - lc / 2))) 14 (nI 0)) 14 (nI (zLs B (zOk bar fr) F6 (lc / 2) (lc - lc / 2) 0 (nI 0) (nI 0)).length)) 22 (nI (([] ++ zTE B (zOk bar fr) F6 (zLs B (zOk bar fr) F6 (lc / 2) (lc - lc / 2) 0 (nI 0) (nI 0)) (lc - lc / 2) 0 0 (nI 0) (Int32.ofInt r)).take 1000).length)) (sA (sA (sA (sA (sA (sA (sA g 6 F6) 7 F7) 8 F8) 9 F9) 10 F10) 11 F11) 12 F12)) H1 := hP1
        have hP := hP1
        generalize H1 = H at hP hS ⊢
        exact W.vret hx hb hr (fun zT zh _ => ⟨⟨(upd (upd (upd (upd (upd (upd (upd (upd (upd (upd (upd f 22 (nI 0)) 23 (nI 0)) 19 (Int32.ofInt r)) 20 (nI fr)) 21 (zB z0)) 17 (zB bar)) 15 (nI lc)) 16 (nI (lc - lc / 2))) 14 (nI 0)) 14 (nI (zLs B (zOk bar fr) F6 (lc / 2) (lc - lc / 2) 0 (nI 0) (nI 0)).length)) 22 (nI (([] ++ zTE B (zOk bar fr) F6 (zLs B (zOk bar fr) F6 (lc / 2) (lc - lc / 2) 0 (nI 0) (nI 0)) (lc - lc / 2) 0 0 (nI 0) (Int32.ofInt r)).take 1000).length), sA (sA (sA (sA (sA (sA (sA g 6 F6) 7 F7) 8 F8) 9 F9) 10 F10) 11 F11) 12 F12), rfl, (by
              rw [zPP_f (by simp [c_16, c_30]), ← zFin hRel hlc]
              exact ⟨_, _, rfl, (fun j hj => by simp only [upd]; repeat rw [if_neg (by omega)]), (fun j hj => by simp only [sA]; repeat rw [if_neg (by omega)]), rfl, rfl, hI⟩), zbw zh hP⟩, hS.F zh⟩) hS.2.2 dF_fill_102
      · have c_30 : z0 = true := zB_n0 c_30
        exact W.vret hx hb hr (fun zT zh _ => ⟨⟨(upd (upd (upd (upd (upd f 22 (nI 0)) 23 (nI 0)) 19 (Int32.ofInt r)) 20 (nI fr)) 21 (zB z0), sA g 6 F6), rfl, (by
              rw [zPP_t (by simp [c_20, c_30])]
              exact ⟨_, _, rfl, (fun j hj => by simp only [upd]; repeat rw [if_neg (by omega)]), (fun j hj => by simp only [sA]; repeat rw [if_neg (by omega)]), rfl, rfl, fun j h => absurd h (Nat.not_lt_zero j)⟩), zbw zh hP⟩, hS.F zh⟩) hS.2.2 dF_fill_33
