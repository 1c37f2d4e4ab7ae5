set_option maxHeartbeats 4000000 in
set_option maxRecDepth 100000 in
theorem c_M_go (l : Launch) (dC : Nat → ClassId) (dI : Nat → Nat → Nat) (cA cZ cJ : ClassId) (a : Nat → Nat) (f : Nat → Int32) (g : Nat → Nat → Int32) (h : Nat → Int64) (r : Int64) (hWD : MDist a) (B : Nat) (hB : B ≤ 10) (h0 : f 0 = nI B) (nw : Nat) (hnw : nw ≤ 8) (h4 : f 4 = nI nw) (lc : Nat) (hlc : lc ≤ 8) (h5 : f 5 = nI lc) (bar : Bool) (h7 : f 7 = zB bar) (at0 ln : Nat → Nat) (mi sd : Nat → Bool) (hat : ∀ w, w < nw → g 2 w = nI (at0 w)) (hln : ∀ w, w < nw → g 3 w = nI (ln w)) (hle : ∀ w, w < nw → 1 ≤ ln w ∧ at0 w + ln w ≤ 80) (hln8 : ∀ w, w < nw → ln w ≤ 8) (hmi : ∀ w, w < nw → g 4 w = zB (mi w)) (hsd : ∀ w, w < nw → g 5 w = zB (sd w)) (t : Nat → Nat) (sl : Nat → Option Nat) (hsl : ∀ w, w < nw → ∀ p, at0 w ≤ p → p < at0 w + ln w → zMlOk (g 1) (g 6) lc t sl p) (sg : Nat → Int) (hsg : ∀ w, w < nw → (if sd w = mi w then (1 : Int) else -1) = sg w) (r0 : Int) (c : Nat → Int) (fr : Nat) (z0 : Bool) (hrc : zWs B sl (fun p => (t p : Int) - 48) sg at0 ln nw = (r0, c)) (hfr0 : zFm sl at0 ln nw = fr) (hz0 : zZf sl t at0 ln nw = z0) (mo : Nat) (hmo : mo ≤ 1000) (kp : Bool) : Met l yM_goThrough wsM_goThrough ({ frames := 2, cells := 0, slots := 0, locals := 47 }) (va_Pc [.ref (a 17), .int (nI mo), .int (zB kp)] (zPW (dC, dI) vwCl [(cA, .int), (cZ, .boolean), (cJ, .long)] (WM cA cZ cJ a f g h r))) (va_Qi (fun (z : Int32) (s : zMt) => ∃ f2 g2 h2 r2, s = (f2, g2, h2, r2) ∧ (∀ j, j ≠ 8 → f2 j = f j) ∧ (∀ j, j ≠ 13 → j ≠ 14 → j ≠ 15 → (j ≠ 16 ∨ kp = false) → g2 j = g j) ∧ ∃ A R, zPM ((decide (nw = 0) || decide (B < lc)) || (bar && z0)) (zAnsM B (zOk bar fr) c r0 lc) = A ++ R ∧ z = nI A.length ∧ A.length ≤ mo ∧ (A.length = mo ∨ R = []) ∧ (kp = true → zAr (g2 16) A lc)) (zBW (dC, dI) vwCl (fun u : zMt => WM cA cZ cJ a u.1 u.2.1 u.2.2.1 u.2.2.2)) (AM a)) 0 0 (AM a) := by
  refine Met.ofW (cc := prog_8_method_13_code) (maxL := 9) (ret := (some .int)) (by decide) rfl ?_
  intro zp ze s zm args below meth zc s₁ zBL hml hv
  obtain ⟨rfl, hP, hK, hN⟩ := hv
  have hx := zBL.exec
  have hb := zBL.bytes
  have hr := zBL.returns
  have hts := atoms_spec (ws := wsM_goThrough) zBL.pre
  have hz : ∀ w ∈ zBig, w.before _ s = true := fun w h => hts w (List.mem_cons_of_mem _ h)
  have hown : s.vm.findClass "LetterSumsModel" = some zm.cls := findClass_of_methodNamed zBL.named
  have hlocks := zBL.notSynchronized
  have hD : ∀ f g h r, va_D (AM a) (WM cA cZ cJ a f g h r) := fun f g h r => WM_D hWD f g h r
  have hS : va_S (AM a) s.heap s.heap [] := va_S.rf
  have hl := lv_entry ([.ref (a 17), .int (nI mo), .int (zB kp)]) (n := 9) (Nat.le_of_ble_eq_true rfl)
  rw [lg_entry_eq]
  generalize (lg_sl ([.ref (a 17), .int (nI mo), .int (zB kp)]) ++ List.replicate (9 - (lg_sl ([.ref (a 17), .int (nI mo), .int (zB kp)])).length) Slot.unset).toArray = ls at hl ⊢
  have hl : lv_has ls 9 [(0, .ref (a 17)), (1, .int (nI mo)), (2, .int (zB kp))] := hl
  refine lv_aload_n hx hb dM_goThrough_0 rfl (lv_at hl 0 rfl) ?_
  refine zk_v (zrV (rest := []) ⟨hx, hb, hml, hown, hz⟩ (c_M_weigh l dC dI cA cZ cJ a f g h r hWD B hB h0 nw hnw h4 lc hlc h5 bar h7 at0 ln mi sd hat hln hle hln8 hmi hsd t sl hsl sg hsg) ⟨zcB 0 hz q_584 q_9 q_587 (by decide +kernel) rfl rfl ⟨Nat.le_of_ble_eq_true rfl, Nat.le_of_ble_eq_true rfl⟩, hz _ q_586, hz _ qs_24⟩ hK hN hP 17 6 rfl rfl rfl rfl hl.1 rfl (Nat.le_of_ble_eq_true rfl) dM_goThrough_1 ⟨Nat.zero_le _, Nat.zero_le _⟩) hS (fun _ h => h) (fun zu H1 locs zhu hP1 hS hk => ?_)
  obtain ⟨F13, h1, rfl, hRel, hNz⟩ := zhu
  rw [hrc] at hRel hP1
  rw [hz0] at hP1
  rw [hfr0] at hNz
  have hRel : zRelL h1 c lc := hRel
  have hP1 : va_P (dC, dI) vwCl (WM cA cZ cJ a (upd f 8 (zB ((decide (nw = 0) || decide (B < lc)) || (bar && z0)))) (sA g 13 F13) h1 (Int64.ofInt r0)) H1 := hP1
  have hP := hP1
  generalize H1 = H at hP hS ⊢
  refine lv_aload_n hx hb dM_goThrough_4 rfl (lv_at hl 0 rfl) ?_
  refine mgf_8 (v := zB ((decide (nw = 0) || decide (B < lc)) || (bar && z0))) hx hb hz hi_M hown hK hP (hz _ q_481) rfl dM_goThrough_5 ?_
  refine lv_if_ne (tgt := 15) hx hb dM_goThrough_8 (by decide) (fun c_8 => ?_) (fun c_8 => ?_)
  · have c_8 : ((decide (nw = 0) || decide (B < lc)) || (bar && z0)) = true := zB_n0 c_8
    refine lv_iconst (v := nI 0) hx hb dM_goThrough_15 (by decide) ?_
    exact W.iret hx hb hr (fun zT zh _ => ⟨⟨_, (upd f 8 (zB ((decide (nw = 0) || decide (B < lc)) || (bar && z0))), sA g 13 F13, h1, Int64.ofInt r0), rfl, ⟨_, _, _, _, rfl, fun j hj => pk_un hj, fun j q1 q2 q3 q4 => sA_o _ _ _ q1, [], [], (by rw [zPM, if_pos c_8]; rfl), rfl, Nat.zero_le _, Or.inr rfl, fun _ i k hi => absurd hi (Nat.not_lt_zero i)⟩, zbw zh hP⟩, hS.F zh⟩) hS.2.2 dM_goThrough_16
  · have c_8 : ((decide (nw = 0) || decide (B < lc)) || (bar && z0)) = false := zB_eq0.mp c_8
    refine lv_iload_n hx hb dM_goThrough_11 rfl (lv_at hl 1 rfl) ?_
    refine lv_if_ne (tgt := 17) hx hb dM_goThrough_12 (by decide) (fun c_12 => ?_) (fun c_12 => ?_)
    · have c_12 := mt (nI_eq (a := mo) (b := 0) (by omega) (by omega)).mpr c_12
      refine lv_aload_n hx hb dM_goThrough_17 rfl (lv_at hl 0 rfl) ?_
      refine mgf_5 (v := nI lc) hx hb hz hi_M hown hK hP (hz _ q_465) h5 dM_goThrough_18 ?_
      refine lv_if_ne (tgt := 39) hx hb dM_goThrough_21 (by decide) (fun c_21 => ?_) (fun c_21 => ?_)
      · have c_21 := mt (nI_eq (a := lc) (b := 0) (by omega) (by omega)).mpr c_21
        have hImp : ((decide (nw = 0) || decide (B < lc)) || (bar && z0)) = false := c_8
        have loop : ∀ (k0 k : Nat) (p : List Nat) (s2 : Nat) (A : List (List Nat)) (g1 : Nat → Nat → Int32) (H : Heap) (locs : List Loc) (ls : Array Slot), zMu B k p s2 ≤ k0 → k + p.length + 1 = lc → s2 ≤ B → A.length < mo → A ++ (zRm B (zOk bar fr) k p s2).filter (fun ds => Int64.ofInt (zTotI c 0 r0 ds) == 0) = zAnsM B (zOk bar fr) c r0 lc → zGI (sA g 13 F13) g1 B lc kp A p → g1 14 p.length = nI s2 - nI 1 → va_P (dC, dI) vwCl (WM cA cZ cJ a (upd f 8 (zB ((decide (nw = 0) || decide (B < lc)) || (bar && z0)))) g1 h1 (Int64.ofInt r0)) H → va_S (AM a) s.heap H locs → lv_has ls 9 [(0, .ref (a 17)), (1, .int (nI mo)), (2, .int (zB kp)), (3, .int (nI A.length)), (4, .int (nI p.length)), (5, .long (Int64.ofInt (zTr c r0 p)))] → W zp l ze (headSpec wsM_goThrough ({ frames := 2, cells := 0, slots := 0, locals := 47 })).room s zm ([.ref (a 17), .int (nI mo), .int (zB kp)] : List Value).toArray below meth zc H locs 0 0 (MQ below (va_Qi (fun (z : Int32) (s : zMt) => ∃ f2 g2 h2 r2, s = (f2, g2, h2, r2) ∧ (∀ j, j ≠ 8 → f2 j = f j) ∧ (∀ j, j ≠ 13 → j ≠ 14 → j ≠ 15 → (j ≠ 16 ∨ kp = false) → g2 j = g j) ∧ ∃ A R, zPM ((decide (nw = 0) || decide (B < lc)) || (bar && z0)) (zAnsM B (zOk bar fr) c r0 lc) = A ++ R ∧ z = nI A.length ∧ A.length ≤ mo ∧ (A.length = mo ∨ R = []) ∧ (kp = true → zAr (g2 16) A lc)) (zBW (dC, dI) vwCl (fun u : zMt => WM cA cZ cJ a u.1 u.2.1 u.2.2.1 u.2.2.2)) (AM a)) ([.ref (a 17), .int (nI mo), .int (zB kp)] : List Value).toArray s 0 0 (AM a)) (F0 zm 135 ls []) := by
          intro k0
          induction k0 with
          | zero => intro k p s2 A g1 H locs ls q1; exact absurd (zMu_pos B k p s2) (by omega)
          | succ k0 ih =>
            intro k p s2 A g1 H locs ls hk0 hk hs2 hAm hEq hGI h14 hP hS hl
            have empty80 : ∀ (k : Nat) (p : List Nat) (A : List (List Nat)) (g1 : Nat → Nat → Int32) (H : Heap) (locs : List Loc) (ls : Array Slot), zMu B k p 0 ≤ k0 → k + p.length + 1 = lc → A.length ≤ mo → A ++ (zRm B (zOk bar fr) k p 0).filter (fun ds => Int64.ofInt (zTotI c 0 r0 ds) == 0) = zAnsM B (zOk bar fr) c r0 lc → zGI (sA g 13 F13) g1 B lc kp A p → g1 14 p.length = -1 → va_P (dC, dI) vwCl (WM cA cZ cJ a (upd f 8 (zB ((decide (nw = 0) || decide (B < lc)) || (bar && z0)))) g1 h1 (Int64.ofInt r0)) H → va_S (AM a) s.heap H locs → lv_has ls 9 [(0, .ref (a 17)), (1, .int (nI mo)), (2, .int (zB kp)), (3, .int (nI A.length)), (4, .int (nI p.length)), (5, .long (Int64.ofInt (zTr c r0 p)))] → W zp l ze (headSpec wsM_goThrough ({ frames := 2, cells := 0, slots := 0, locals := 47 })).room s zm ([.ref (a 17), .int (nI mo), .int (zB kp)] : List Value).toArray below meth zc H locs 0 0 (MQ below (va_Qi (fun (z : Int32) (s : zMt) => ∃ f2 g2 h2 r2, s = (f2, g2, h2, r2) ∧ (∀ j, j ≠ 8 → f2 j = f j) ∧ (∀ j, j ≠ 13 → j ≠ 14 → j ≠ 15 → (j ≠ 16 ∨ kp = false) → g2 j = g j) ∧ ∃ A R, zPM ((decide (nw = 0) || decide (B < lc)) || (bar && z0)) (zAnsM B (zOk bar fr) c r0 lc) = A ++ R ∧ z = nI A.length ∧ A.length ≤ mo ∧ (A.length = mo ∨ R = []) ∧ (kp = true → zAr (g2 16) A lc)) (zBW (dC, dI) vwCl (fun u : zMt => WM cA cZ cJ a u.1 u.2.1 u.2.2.1 u.2.2.2)) (AM a)) ([.ref (a 17), .int (nI mo), .int (zB kp)] : List Value).toArray s 0 0 (AM a)) (F0 zm 80 ls []) := by
              intro k p A g1 H locs ls hm0 hk hAm hEq hGI h14 hP hS hl
              refine lv_iload hx hb dM_goThrough_80 (lv_at hl 4 rfl) ?_
              refine lv_if_lt (tgt := 321) hx hb dM_goThrough_82 (by decide) (fun c_82 => ?_) (fun c_82 => ?_)
              · exact absurd c_82 (nI_pos (by omega))
              · refine lv_iload_n hx hb dM_goThrough_85 rfl (lv_at hl 3 rfl) ?_
                refine lv_iload_n hx hb dM_goThrough_86 rfl (lv_at hl 1 rfl) ?_
                refine lv_icmp_ge (tgt := 321) hx hb dM_goThrough_87 (by decide) (fun c_87 => ?_) (fun c_87 => ?_)
                · have c_87 := (nI_leI (a := mo) (b := A.length) (by omega) (by omega)).mp c_87
                  refine lv_iload_n hx hb dM_goThrough_321 rfl (lv_at hl 3 rfl) ?_
                  exact W.iret hx hb hr (fun zT zh _ => ⟨⟨_, (upd f 8 (zB ((decide (nw = 0) || decide (B < lc)) || (bar && z0))), g1, h1, Int64.ofInt r0), rfl, ⟨_, _, _, _, rfl, fun j hj => pk_un hj, fun j q1 q2 q3 q4 => by rw [hGI.1 j q2 q3 q4, sA_o _ _ _ q1], A, _, (by rw [zPM, if_neg (by rw [hImp]; decide)]; exact hEq.symm), rfl, hAm, Or.inl (by omega), hGI.2.2.2.1⟩, zbw zh hP⟩, hS.F zh⟩) hS.2.2 dM_goThrough_322
                · have c_87 := mt (nI_leI (a := mo) (b := A.length) (by omega) (by omega)).mpr c_87
                  refine lv_aload_n hx hb dM_goThrough_90 rfl (lv_at hl 0 rfl) ?_
                  refine mgr_digit hx hb hz hi_M hown hK hP (hz _ q_482) dM_goThrough_91 ?_
                  refine lv_iload hx hb dM_goThrough_94 (lv_at hl 4 rfl) ?_
                  refine zald (v := (-1)) hx hb hK hP 14 0 rfl rfl p.length rfl (by omega) (by decide) (h14) dM_goThrough_96 ?_
                  refine lv_iconst (v := (-1)) hx hb dM_goThrough_97 (by decide) ?_
                  refine lv_icmp_eq (tgt := 135) hx hb dM_goThrough_98 (by decide) (fun c_98 => ?_) (fun c_98 => ?_)
                  · exact ih k p 0 A g1 H locs ls hm0 hk (by omega) (by omega) hEq hGI (by rw [h14]; rfl) hP hS (lv_sub hl [0, 1, 2, 3, 4, 5] rfl)
                  · exact absurd rfl c_98
            have full80 : ∀ (k : Nat) (p : List Nat) (d : Nat) (A : List (List Nat)) (g1 : Nat → Nat → Int32) (H : Heap) (locs : List Loc) (ls : Array Slot), zMu B k p (d + 1) ≤ k0 → k + p.length + 1 = lc → A.length ≤ mo → A ++ (zRm B (zOk bar fr) k p (d + 1)).filter (fun ds => Int64.ofInt (zTotI c 0 r0 ds) == 0) = zAnsM B (zOk bar fr) c r0 lc → zGI (sA g 13 F13) g1 B lc kp A (d :: p) → va_P (dC, dI) vwCl (WM cA cZ cJ a (upd f 8 (zB ((decide (nw = 0) || decide (B < lc)) || (bar && z0)))) g1 h1 (Int64.ofInt r0)) H → va_S (AM a) s.heap H locs → lv_has ls 9 [(0, .ref (a 17)), (1, .int (nI mo)), (2, .int (zB kp)), (3, .int (nI A.length)), (4, .int (nI p.length)), (5, .long (Int64.ofInt (zTr c r0 (d :: p))))] → W zp l ze (headSpec wsM_goThrough ({ frames := 2, cells := 0, slots := 0, locals := 47 })).room s zm ([.ref (a 17), .int (nI mo), .int (zB kp)] : List Value).toArray below meth zc H locs 0 0 (MQ below (va_Qi (fun (z : Int32) (s : zMt) => ∃ f2 g2 h2 r2, s = (f2, g2, h2, r2) ∧ (∀ j, j ≠ 8 → f2 j = f j) ∧ (∀ j, j ≠ 13 → j ≠ 14 → j ≠ 15 → (j ≠ 16 ∨ kp = false) → g2 j = g j) ∧ ∃ A R, zPM ((decide (nw = 0) || decide (B < lc)) || (bar && z0)) (zAnsM B (zOk bar fr) c r0 lc) = A ++ R ∧ z = nI A.length ∧ A.length ≤ mo ∧ (A.length = mo ∨ R = []) ∧ (kp = true → zAr (g2 16) A lc)) (zBW (dC, dI) vwCl (fun u : zMt => WM cA cZ cJ a u.1 u.2.1 u.2.2.1 u.2.2.2)) (AM a)) ([.ref (a 17), .int (nI mo), .int (zB kp)] : List Value).toArray s 0 0 (AM a)) (F0 zm 80 ls []) := by
              intro k p d A g1 H locs ls hm0 hk hAm hEq hGI hP hS hl
              have hdB : d < B := hGI.2.2.2.2.1
              have h14 : g1 14 p.length = nI d := (zDr_pop hGI.2.1).2
              refine lv_iload hx hb dM_goThrough_80 (lv_at hl 4 rfl) ?_
              refine lv_if_lt (tgt := 321) hx hb dM_goThrough_82 (by decide) (fun c_82 => ?_) (fun c_82 => ?_)
              · exact absurd c_82 (nI_pos (by omega))
              · refine lv_iload_n hx hb dM_goThrough_85 rfl (lv_at hl 3 rfl) ?_
                refine lv_iload_n hx hb dM_goThrough_86 rfl (lv_at hl 1 rfl) ?_
                refine lv_icmp_ge (tgt := 321) hx hb dM_goThrough_87 (by decide) (fun c_87 => ?_) (fun c_87 => ?_)
                · have c_87 := (nI_leI (a := mo) (b := A.length) (by omega) (by omega)).mp c_87
                  refine lv_iload_n hx hb dM_goThrough_321 rfl (lv_at hl 3 rfl) ?_
                  exact W.iret hx hb hr (fun zT zh _ => ⟨⟨_, (upd f 8 (zB ((decide (nw = 0) || decide (B < lc)) || (bar && z0))), g1, h1, Int64.ofInt r0), rfl, ⟨_, _, _, _, rfl, fun j hj => pk_un hj, fun j q1 q2 q3 q4 => by rw [hGI.1 j q2 q3 q4, sA_o _ _ _ q1], A, _, (by rw [zPM, if_neg (by rw [hImp]; decide)]; exact hEq.symm), rfl, hAm, Or.inl (by omega), hGI.2.2.2.1⟩, zbw zh hP⟩, hS.F zh⟩) hS.2.2 dM_goThrough_322
                · have c_87 := mt (nI_leI (a := mo) (b := A.length) (by omega) (by omega)).mpr c_87
                  refine lv_aload_n hx hb dM_goThrough_90 rfl (lv_at hl 0 rfl) ?_
                  refine mgr_digit hx hb hz hi_M hown hK hP (hz _ q_482) dM_goThrough_91 ?_
                  refine lv_iload hx hb dM_goThrough_94 (lv_at hl 4 rfl) ?_
                  refine zald (v := nI d) hx hb hK hP 14 0 rfl rfl p.length rfl (by omega) (by decide) (h14) dM_goThrough_96 ?_
                  refine lv_iconst (v := (-1)) hx hb dM_goThrough_97 (by decide) ?_
                  refine lv_icmp_eq (tgt := 135) hx hb dM_goThrough_98 (by decide) (fun c_98 => ?_) (fun c_98 => ?_)
                  · exact absurd c_98 (nI_nem1 (by omega))
                  · refine lv_aload_n hx hb dM_goThrough_101 rfl (lv_at hl 0 rfl) ?_
                    refine mgr_taken hx hb hz hi_M hown hK hP (hz _ q_483) dM_goThrough_102 ?_
                    refine lv_aload_n hx hb dM_goThrough_105 rfl (lv_at hl 0 rfl) ?_
                    refine mgr_digit hx hb hz hi_M hown hK hP (hz _ q_482) dM_goThrough_106 ?_
                    refine lv_iload hx hb dM_goThrough_109 (lv_at hl 4 rfl) ?_
                    refine zald (v := nI d) hx hb hK hP 14 0 rfl rfl p.length rfl (by omega) (by decide) (h14) dM_goThrough_111 ?_
                    refine lv_iconst (v := nI 0) hx hb dM_goThrough_112 (by decide) ?_
                    refine zbst (wd' := WM cA cZ cJ a (upd f 8 (zB ((decide (nw = 0) || decide (B < lc)) || (bar && z0)))) (updA g1 15 d (nI 0)) h1 (Int64.ofInt r0)) hx hb hK hP (hD _ _ _ _) hS 15 1 rfl rfl d rfl (by omega) (by decide) (by decide) rfl dM_goThrough_113 (fun H locs hP hS => ?_)
                    refine lv_lload hx hb dM_goThrough_114 (lv_at hl 5 rfl) ?_
                    refine lv_aload_n hx hb dM_goThrough_116 rfl (lv_at hl 0 rfl) ?_
                    refine mgr_counts hx hb hz hi_M hown hK hP (hz _ q_478) dM_goThrough_117 ?_
                    refine lv_iload hx hb dM_goThrough_120 (lv_at hl 4 rfl) ?_
                    refine zlld (v := Int64.ofInt (c p.length)) hx hb hK hP 12 2 rfl rfl p.length rfl (by omega) (by decide) (hRel p.length (by omega)) dM_goThrough_122 ?_
                    refine lv_aload_n hx hb dM_goThrough_123 rfl (lv_at hl 0 rfl) ?_
                    refine mgr_digit hx hb hz hi_M hown hK hP (hz _ q_482) dM_goThrough_124 ?_
                    refine lv_iload hx hb dM_goThrough_127 (lv_at hl 4 rfl) ?_
                    refine zald (v := nI d) hx hb hK hP 14 0 rfl rfl p.length rfl (by omega) (by decide) (h14) dM_goThrough_129 ?_
                    refine lv_i2l (v := (nI d).toInt64) hx hb dM_goThrough_130 rfl ?_
                    refine lv_lmul hx hb dM_goThrough_131 ?_
                    refine lv_lsub hx hb dM_goThrough_132 ?_
                    refine ztl (y := Int64.ofInt (zTr c r0 p)) (zSumSub (by omega)) ?_
                    refine lv_lstore (lv' := [(5, .long (Int64.ofInt (zTr c r0 p))), (0, .ref (a 17)), (1, .int (nI mo)), (2, .int (zB kp)), (3, .int (nI A.length)), (4, .int (nI p.length))]) hx hb dM_goThrough_133 hl (by decide) rfl (fun ls hl => ?_)
                    exact ih k p (d + 1) A (updA g1 15 d (nI 0)) H locs ls hm0 hk (by omega) (by omega) hEq (zGI_pop hGI) (by show g1 14 p.length = _; rw [h14, zPr]) hP hS (lv_sub hl [1, 2, 3, 4, 5, 0] rfl)
            have chosen : ∀ (d : Nat) (H : Heap) (locs : List Loc) (ls : Array Slot), s2 ≤ d → d < B → ¬ ((zMk p).testBit d || !(zOk bar fr) p.length d) = true → zTl B (zOk bar fr) k p d = zTl B (zOk bar fr) k p s2 → va_P (dC, dI) vwCl (WM cA cZ cJ a (upd f 8 (zB ((decide (nw = 0) || decide (B < lc)) || (bar && z0)))) g1 h1 (Int64.ofInt r0)) H → va_S (AM a) s.heap H locs → lv_has ls 9 [(0, .ref (a 17)), (1, .int (nI mo)), (2, .int (zB kp)), (3, .int (nI A.length)), (4, .int (nI p.length)), (5, .long (Int64.ofInt (zTr c r0 p))), (7, .int (nI d))] → W zp l ze (headSpec wsM_goThrough ({ frames := 2, cells := 0, slots := 0, locals := 47 })).room s zm ([.ref (a 17), .int (nI mo), .int (zB kp)] : List Value).toArray below meth zc H locs 0 0 (MQ below (va_Qi (fun (z : Int32) (s : zMt) => ∃ f2 g2 h2 r2, s = (f2, g2, h2, r2) ∧ (∀ j, j ≠ 8 → f2 j = f j) ∧ (∀ j, j ≠ 13 → j ≠ 14 → j ≠ 15 → (j ≠ 16 ∨ kp = false) → g2 j = g j) ∧ ∃ A R, zPM ((decide (nw = 0) || decide (B < lc)) || (bar && z0)) (zAnsM B (zOk bar fr) c r0 lc) = A ++ R ∧ z = nI A.length ∧ A.length ≤ mo ∧ (A.length = mo ∨ R = []) ∧ (kp = true → zAr (g2 16) A lc)) (zBW (dC, dI) vwCl (fun u : zMt => WM cA cZ cJ a u.1 u.2.1 u.2.2.1 u.2.2.2)) (AM a)) ([.ref (a 17), .int (nI mo), .int (zB kp)] : List Value).toArray s 0 0 (AM a)) (F0 zm 186 ls []) := by
              intro d H locs ls hd0 hdB hmay hTl hP hS hl
              have hbit : (zMk p).testBit d = false := by cases q : (zMk p).testBit d with | false => rfl | true => rw [q] at hmay; exact absurd rfl hmay
              have hGI2 := zGI_push hGI hdB hbit
              have copy : ∀ (k1 j : Nat) (F16 : Nat → Int32) (H : Heap) (locs : List Loc) (ls : Array Slot), lc + 1 ≤ j + k1 → j ≤ lc → k = 0 → kp = true → (Int64.ofInt (zTr c r0 (d :: p)) = lN 0) → zArk F16 A (d :: p) lc j → va_P (dC, dI) vwCl (WM cA cZ cJ a (upd f 8 (zB ((decide (nw = 0) || decide (B < lc)) || (bar && z0)))) (sA (updA (updA g1 14 p.length (nI d)) 15 d (nI 1)) 16 F16) h1 (Int64.ofInt r0)) H → va_S (AM a) s.heap H locs → lv_has ls 9 [(0, .ref (a 17)), (1, .int (nI mo)), (2, .int (zB kp)), (3, .int (nI A.length)), (4, .int (nI p.length)), (5, .long (Int64.ofInt (zTr c r0 (d :: p)))), (8, .int (nI j))] → W zp l ze (headSpec wsM_goThrough ({ frames := 2, cells := 0, slots := 0, locals := 47 })).room s zm ([.ref (a 17), .int (nI mo), .int (zB kp)] : List Value).toArray below meth zc H locs 0 0 (MQ below (va_Qi (fun (z : Int32) (s : zMt) => ∃ f2 g2 h2 r2, s = (f2, g2, h2, r2) ∧ (∀ j, j ≠ 8 → f2 j = f j) ∧ (∀ j, j ≠ 13 → j ≠ 14 → j ≠ 15 → (j ≠ 16 ∨ kp = false) → g2 j = g j) ∧ ∃ A R, zPM ((decide (nw = 0) || decide (B < lc)) || (bar && z0)) (zAnsM B (zOk bar fr) c r0 lc) = A ++ R ∧ z = nI A.length ∧ A.length ≤ mo ∧ (A.length = mo ∨ R = []) ∧ (kp = true → zAr (g2 16) A lc)) (zBW (dC, dI) vwCl (fun u : zMt => WM cA cZ cJ a u.1 u.2.1 u.2.2.1 u.2.2.2)) (AM a)) ([.ref (a 17), .int (nI mo), .int (zB kp)] : List Value).toArray s 0 0 (AM a)) (F0 zm 281 ls []) := by
                intro k1
                induction k1 with
                | zero => intro j F16 H locs ls q1 q2; omega
                | succ k1 ih2 =>
                  intro j F16 H locs ls hk1 hj hk9 hkp hz0 hArk hP hS hl
                  subst hk9
                  have hD2 : zDr ((updA (updA g1 14 p.length (nI d)) 15 d (nI 1)) 14) (d :: p) := hGI2.2.1
                  refine lv_iload hx hb dM_goThrough_281 (lv_at hl 6 rfl) ?_
                  refine lv_aload_n hx hb dM_goThrough_283 rfl (lv_at hl 0 rfl) ?_
                  refine mgf_5 (v := nI lc) hx hb hz hi_M hown hK hP (hz _ q_465) h5 dM_goThrough_284 ?_
                  refine lv_icmp_ge (tgt := 315) hx hb dM_goThrough_287 (by decide) (fun c_287 => ?_) (fun c_287 => ?_)
                  · have c_287 := (nI_leI (a := lc) (b := j) (by omega) (by omega)).mp c_287
                    refine lv_iinc (v := nI (A.length + 1)) (lv' := [(3, .int (nI (A.length + 1))), (0, .ref (a 17)), (1, .int (nI mo)), (2, .int (zB kp)), (4, .int (nI p.length)), (5, .long (Int64.ofInt (zTr c r0 (d :: p)))), (8, .int (nI j))]) hx hb dM_goThrough_315 hl (k := 3) rfl (nI_1 _) (by decide) rfl (fun ls hl => ?_)
                    refine lv_goto (tgt := 80) hx hb dM_goThrough_318 (by decide) ?_
                    exact full80 0 p d (A ++ [(d :: p).reverse]) (sA (updA (updA g1 14 p.length (nI d)) 15 d (nI 1)) 16 F16) H locs ls (by have := zMu_next (k := 0) (p := p) hd0 hdB; omega) (by omega) (by rw [List.length_append, List.length_singleton]; omega) (zFlt_yes (x := (d :: p).reverse) (by show (Int64.ofInt (zTotI c 0 r0 (d :: p).reverse) == 0) = true; rw [zTr_eq, hz0]; rfl) (by rw [← hEq]; unfold zRm; rw [← hTl, zTl_leaf hdB hmay]; rfl)) ⟨fun j q1 q2 q3 => by rw [sA_o _ _ _ (by rcases q3 with q | q; exact q; rw [hkp] at q; cases q)]; exact hGI2.1 j q1 q2 q3, hGI2.2.1, hGI2.2.2.1, fun _ => by rw [sA_s]; exact zArk_end (by rw [show lc = j by omega] at hArk ⊢; exact hArk), hGI2.2.2.2.2⟩ hP hS (by rw [List.length_append]; exact (lv_sub hl [1, 2, 3, 0, 4, 5] rfl))
                  · have c_287 := mt (nI_leI (a := lc) (b := j) (by omega) (by omega)).mpr c_287
                    refine lv_aload_n hx hb dM_goThrough_290 rfl (lv_at hl 0 rfl) ?_
                    refine mgr_answer hx hb hz hi_M hown hK hP (hz _ q_484) dM_goThrough_291 ?_
                    refine lv_bipush (v := nI 8) hx hb dM_goThrough_294 (by decide) ?_
                    refine lv_iload_n hx hb dM_goThrough_296 rfl (lv_at hl 3 rfl) ?_
                    refine lv_imul hx hb dM_goThrough_297 ?_
                    refine zt (y := nI (8 * A.length)) (pk_mul _ _) ?_
                    refine lv_iload hx hb dM_goThrough_298 (lv_at hl 6 rfl) ?_
                    refine lv_iadd hx hb dM_goThrough_300 ?_
                    refine zt (nI_add _ _) ?_
                    refine lv_aload_n hx hb dM_goThrough_301 rfl (lv_at hl 0 rfl) ?_
                    refine mgr_digit hx hb hz hi_M hown hK hP (hz _ q_482) dM_goThrough_302 ?_
                    refine lv_iload hx hb dM_goThrough_305 (lv_at hl 6 rfl) ?_
                    refine zald (v := nI ((d :: p).reverse.getD j 0)) hx hb hK hP 14 0 rfl rfl j rfl (by omega) (by decide) (hD2 j (by rw [List.length_cons]; omega)) dM_goThrough_307 ?_
                    refine zast (wd' := WM cA cZ cJ a (upd f 8 (zB ((decide (nw = 0) || decide (B < lc)) || (bar && z0)))) (updA (sA (updA (updA g1 14 p.length (nI d)) 15 d (nI 1)) 16 F16) 16 (8 * A.length + j) (nI ((d :: p).reverse.getD j 0))) h1 (Int64.ofInt r0)) hx hb hK hP (hD _ _ _ _) hS 16 0 rfl rfl (8 * A.length + j) rfl (by omega) (by decide) rfl dM_goThrough_308 (fun H locs hP hS => ?_)
                    refine lv_iinc (v := nI (j + 1)) (lv' := [(8, .int (nI (j + 1))), (0, .ref (a 17)), (1, .int (nI mo)), (2, .int (zB kp)), (3, .int (nI A.length)), (4, .int (nI p.length)), (5, .long (Int64.ofInt (zTr c r0 (d :: p))))]) hx hb dM_goThrough_309 hl (k := 6) rfl (nI_1 _) (by decide) rfl (fun ls hl => ?_)
                    refine lv_goto (tgt := 281) hx hb dM_goThrough_312 (by decide) ?_
                    exact ih2 (j + 1) _ H locs ls (by omega) (by omega) rfl hkp hz0 (zArk_s hlc hArk) (by rw [← sA_sA _ 16 F16 _]; exact hP) hS (lv_sub hl [1, 2, 3, 4, 5, 6, 0] rfl)
              refine lv_iload hx hb dM_goThrough_186 (lv_at hl 6 rfl) ?_
              refine lv_aload_n hx hb dM_goThrough_188 rfl (lv_at hl 0 rfl) ?_
              refine mgf_0 (v := nI B) hx hb hz hi_M hown hK hP (hz _ q_458) h0 dM_goThrough_189 ?_
              refine lv_icmp_ne (tgt := 209) hx hb dM_goThrough_192 (by decide) (fun c_192 => ?_) (fun c_192 => ?_)
              · refine lv_aload_n hx hb dM_goThrough_209 rfl (lv_at hl 0 rfl) ?_
                refine mgr_digit hx hb hz hi_M hown hK hP (hz _ q_482) dM_goThrough_210 ?_
                refine lv_iload hx hb dM_goThrough_213 (lv_at hl 4 rfl) ?_
                refine lv_iload hx hb dM_goThrough_215 (lv_at hl 6 rfl) ?_
                refine zast (wd' := WM cA cZ cJ a (upd f 8 (zB ((decide (nw = 0) || decide (B < lc)) || (bar && z0)))) (updA g1 14 p.length (nI d)) h1 (Int64.ofInt r0)) hx hb hK hP (hD _ _ _ _) hS 14 0 rfl rfl p.length rfl (by omega) (by decide) rfl dM_goThrough_217 (fun H locs hP hS => ?_)
                refine lv_aload_n hx hb dM_goThrough_218 rfl (lv_at hl 0 rfl) ?_
                refine mgr_taken hx hb hz hi_M hown hK hP (hz _ q_483) dM_goThrough_219 ?_
                refine lv_iload hx hb dM_goThrough_222 (lv_at hl 6 rfl) ?_
                refine lv_iconst (v := nI 1) hx hb dM_goThrough_224 (by decide) ?_
                refine zbst (wd' := WM cA cZ cJ a (upd f 8 (zB ((decide (nw = 0) || decide (B < lc)) || (bar && z0)))) (updA (updA g1 14 p.length (nI d)) 15 d (nI 1)) h1 (Int64.ofInt r0)) hx hb hK hP (hD _ _ _ _) hS 15 1 rfl rfl d rfl (by omega) (by decide) (by decide) rfl dM_goThrough_225 (fun H locs hP hS => ?_)
                refine lv_lload hx hb dM_goThrough_226 (lv_at hl 5 rfl) ?_
                refine lv_aload_n hx hb dM_goThrough_228 rfl (lv_at hl 0 rfl) ?_
                refine mgr_counts hx hb hz hi_M hown hK hP (hz _ q_478) dM_goThrough_229 ?_
                refine lv_iload hx hb dM_goThrough_232 (lv_at hl 4 rfl) ?_
                refine zlld (v := Int64.ofInt (c p.length)) hx hb hK hP 12 2 rfl rfl p.length rfl (by omega) (by decide) (hRel p.length (by omega)) dM_goThrough_234 ?_
                refine lv_iload hx hb dM_goThrough_235 (lv_at hl 6 rfl) ?_
                refine lv_i2l (v := (nI d).toInt64) hx hb dM_goThrough_237 rfl ?_
                refine lv_lmul hx hb dM_goThrough_238 ?_
                refine lv_ladd hx hb dM_goThrough_239 ?_
                refine ztl (y := Int64.ofInt (zTr c r0 (d :: p))) (zSumAdd (by omega)) ?_
                refine lv_lstore (lv' := [(5, .long (Int64.ofInt (zTr c r0 (d :: p)))), (0, .ref (a 17)), (1, .int (nI mo)), (2, .int (zB kp)), (3, .int (nI A.length)), (4, .int (nI p.length)), (7, .int (nI d))]) hx hb dM_goThrough_240 hl (by decide) rfl (fun ls hl => ?_)
                refine lv_iload hx hb dM_goThrough_242 (lv_at hl 5 rfl) ?_
                refine lv_iconst (v := nI 1) hx hb dM_goThrough_244 (by decide) ?_
                refine lv_iadd hx hb dM_goThrough_245 ?_
                refine zt (nI_add _ _) ?_
                refine lv_aload_n hx hb dM_goThrough_246 rfl (lv_at hl 1 rfl) ?_
                refine mgf_5 (v := nI lc) hx hb hz hi_M hown hK hP (hz _ q_465) h5 dM_goThrough_247 ?_
                refine lv_icmp_ge (tgt := 267) hx hb dM_goThrough_250 (by decide) (fun c_250 => ?_) (fun c_250 => ?_)
                · have c_250 := (nI_leI (a := lc) (b := (p.length + 1)) (by omega) (by omega)).mp c_250
                  refine lv_lload hx hb dM_goThrough_267 (lv_at hl 0 rfl) ?_
                  refine lv_lconst (v := lN 0) hx hb dM_goThrough_269 (by decide) ?_
                  refine W.lcmp hx hb dM_goThrough_270 ?_
                  refine lv_if_ne (tgt := 318) hx hb dM_goThrough_271 (by decide) (fun c_271 => ?_) (fun c_271 => ?_)
                  · have c_271 : ¬ Int64.ofInt (zTr c r0 (d :: p)) = lN 0 := fun q => c_271 (zCmpE.mpr q)
                    refine lv_goto (tgt := 80) hx hb dM_goThrough_318 (by decide) ?_
                    obtain rfl : k = 0 := by omega
                    exact full80 0 p d A _ H locs ls (by have := zMu_next (k := 0) (p := p) hd0 hdB; omega) (by omega) (by omega) (zFlt_no (x := (d :: p).reverse) (by show ¬ (Int64.ofInt (zTotI c 0 r0 (d :: p).reverse) == 0) = true; rw [zTr_eq, beq_iff_eq]; exact c_271) (by rw [← hEq]; unfold zRm; rw [← hTl, zTl_leaf hdB hmay]; rfl)) hGI2 hP hS (lv_sub hl [1, 2, 3, 4, 5, 0] rfl)
                  · have c_271 : Int64.ofInt (zTr c r0 (d :: p)) = lN 0 := zCmpE.mp c_271
                    refine lv_iload_n hx hb dM_goThrough_274 rfl (lv_at hl 3 rfl) ?_
                    refine lv_if_eq (tgt := 315) hx hb dM_goThrough_275 (by decide) (fun c_275 => ?_) (fun c_275 => ?_)
                    · have c_275 : kp = false := zB_eq0.mp c_275
                      refine lv_iinc (v := nI (A.length + 1)) (lv' := [(3, .int (nI (A.length + 1))), (5, .long (Int64.ofInt (zTr c r0 (d :: p)))), (0, .ref (a 17)), (1, .int (nI mo)), (2, .int (zB kp)), (4, .int (nI p.length)), (7, .int (nI d))]) hx hb dM_goThrough_315 hl (k := 4) rfl (nI_1 _) (by decide) rfl (fun ls hl => ?_)
                      refine lv_goto (tgt := 80) hx hb dM_goThrough_318 (by decide) ?_
                      obtain rfl : k = 0 := by omega
                      have hz0 := c_271
                      exact full80 0 p d (A ++ [(d :: p).reverse]) _ H locs ls (by have := zMu_next (k := 0) (p := p) hd0 hdB; omega) (by omega) (by rw [List.length_append, List.length_singleton]; omega) (zFlt_yes (x := (d :: p).reverse) (by show (Int64.ofInt (zTotI c 0 r0 (d :: p).reverse) == 0) = true; rw [zTr_eq, hz0]; rfl) (by rw [← hEq]; unfold zRm; rw [← hTl, zTl_leaf hdB hmay]; rfl)) ⟨hGI2.1, hGI2.2.1, hGI2.2.2.1, fun q => (by rw [c_275] at q; cases q), hGI2.2.2.2.2⟩ hP hS (by rw [List.length_append]; exact (lv_sub hl [2, 3, 4, 0, 5, 1] rfl))
                    · have c_275 : kp = true := zB_n0 c_275
                      refine lv_iconst (v := nI 0) hx hb dM_goThrough_278 (by decide) ?_
                      refine lv_istore (lv' := [(8, .int (nI 0)), (5, .long (Int64.ofInt (zTr c r0 (d :: p)))), (0, .ref (a 17)), (1, .int (nI mo)), (2, .int (zB kp)), (3, .int (nI A.length)), (4, .int (nI p.length)), (7, .int (nI d))]) hx hb dM_goThrough_279 hl (by decide) rfl (fun ls hl => ?_)
                      exact copy (lc + 1) 0 (g1 16) H locs ls (by omega) (by omega) (by omega) c_275 c_271 ⟨hGI.2.2.2.1 c_275, fun j hj => absurd hj (Nat.not_lt_zero j)⟩ (by rw [show sA (updA (updA g1 14 p.length (nI d)) 15 d (nI 1)) 16 (g1 16) = updA (updA g1 14 p.length (nI d)) 15 d (nI 1) from sA_self (updA (updA g1 14 p.length (nI d)) 15 d (nI 1)) 16]; exact hP) hS (lv_sub hl [2, 3, 4, 5, 6, 1, 0] rfl)
                · have c_250 := mt (nI_leI (a := lc) (b := (p.length + 1)) (by omega) (by omega)).mpr c_250
                  refine lv_iinc (v := nI (p.length + 1)) (lv' := [(4, .int (nI (p.length + 1))), (5, .long (Int64.ofInt (zTr c r0 (d :: p)))), (0, .ref (a 17)), (1, .int (nI mo)), (2, .int (zB kp)), (3, .int (nI A.length)), (7, .int (nI d))]) hx hb dM_goThrough_253 hl (k := 5) rfl (nI_1 _) (by decide) rfl (fun ls hl => ?_)
                  refine lv_aload_n hx hb dM_goThrough_256 rfl (lv_at hl 2 rfl) ?_
                  refine mgr_digit hx hb hz hi_M hown hK hP (hz _ q_482) dM_goThrough_257 ?_
                  refine lv_iload hx hb dM_goThrough_260 (lv_at hl 0 rfl) ?_
                  refine lv_iconst (v := (-1)) hx hb dM_goThrough_262 (by decide) ?_
                  refine zast (wd' := WM cA cZ cJ a (upd f 8 (zB ((decide (nw = 0) || decide (B < lc)) || (bar && z0)))) (updA (updA (updA g1 14 p.length (nI d)) 15 d (nI 1)) 14 (p.length + 1) (-1)) h1 (Int64.ofInt r0)) hx hb hK hP (hD _ _ _ _) hS 14 0 rfl rfl (p.length + 1) rfl (by omega) (by decide) rfl dM_goThrough_263 (fun H locs hP hS => ?_)
                  refine lv_goto (tgt := 318) hx hb dM_goThrough_264 (by decide) ?_
                  refine lv_goto (tgt := 80) hx hb dM_goThrough_318 (by decide) ?_
                  obtain ⟨k2, rfl⟩ : ∃ k2, k = k2 + 1 := ⟨k - 1, by omega⟩
                  exact empty80 k2 (d :: p) A _ H locs ls (by have := zMu_down (k := k2) (p := p) hB hd0 hdB; omega) (by rw [List.length_cons]; omega) (by omega) (by rw [← hEq]; unfold zRm; rw [← hTl, zTl_down hdB hmay, List.append_assoc]; rfl) (zGI_m1 hGI2 (by rw [List.length_cons]; omega)) (by rw [List.length_cons, updA, sA_s, pk_us]) hP hS (by rw [List.length_cons]; exact (lv_sub hl [2, 3, 4, 5, 0, 1] rfl))
              · exact absurd ((nI_eq (a := d) (b := B) (by omega) (by omega)).mp c_192) (by omega)
            have inner : ∀ (k1 d : Nat) (ls : Array Slot), B + 1 ≤ d + k1 → s2 ≤ d → d ≤ B → zTl B (zOk bar fr) k p d = zTl B (zOk bar fr) k p s2 → lv_has ls 9 [(0, .ref (a 17)), (1, .int (nI mo)), (2, .int (zB kp)), (3, .int (nI A.length)), (4, .int (nI p.length)), (5, .long (Int64.ofInt (zTr c r0 p))), (7, .int (nI d))] → W zp l ze (headSpec wsM_goThrough ({ frames := 2, cells := 0, slots := 0, locals := 47 })).room s zm ([.ref (a 17), .int (nI mo), .int (zB kp)] : List Value).toArray below meth zc H locs 0 0 (MQ below (va_Qi (fun (z : Int32) (s : zMt) => ∃ f2 g2 h2 r2, s = (f2, g2, h2, r2) ∧ (∀ j, j ≠ 8 → f2 j = f j) ∧ (∀ j, j ≠ 13 → j ≠ 14 → j ≠ 15 → (j ≠ 16 ∨ kp = false) → g2 j = g j) ∧ ∃ A R, zPM ((decide (nw = 0) || decide (B < lc)) || (bar && z0)) (zAnsM B (zOk bar fr) c r0 lc) = A ++ R ∧ z = nI A.length ∧ A.length ≤ mo ∧ (A.length = mo ∨ R = []) ∧ (kp = true → zAr (g2 16) A lc)) (zBW (dC, dI) vwCl (fun u : zMt => WM cA cZ cJ a u.1 u.2.1 u.2.2.1 u.2.2.2)) (AM a)) ([.ref (a 17), .int (nI mo), .int (zB kp)] : List Value).toArray s 0 0 (AM a)) (F0 zm 146 ls []) := by
              intro k1
              induction k1 with
              | zero => intro d ls q1 _ q2; omega
              | succ k1 ih2 =>
                intro d ls hk1 hd0 hd hTl hl
                have hnz : g1 13 p.length = zB (bar && fr.testBit p.length) := by rw [hGI.1 13 (by decide) (by decide) (Or.inl (by decide)), sA_s]; exact hNz p.length (by omega)
                refine lv_iload hx hb dM_goThrough_146 (lv_at hl 6 rfl) ?_
                refine lv_aload_n hx hb dM_goThrough_148 rfl (lv_at hl 0 rfl) ?_
                refine mgf_0 (v := nI B) hx hb hz hi_M hown hK hP (hz _ q_458) h0 dM_goThrough_149 ?_
                refine lv_icmp_ge (tgt := 186) hx hb dM_goThrough_152 (by decide) (fun c_152 => ?_) (fun c_152 => ?_)
                · have c_152 := (nI_leI (a := B) (b := d) (by omega) (by omega)).mp c_152
                  have hdE : d = B := by omega
                  cases p with
                  | nil =>
                    refine lv_iload hx hb dM_goThrough_186 (lv_at hl 6 rfl) ?_
                    refine lv_aload_n hx hb dM_goThrough_188 rfl (lv_at hl 0 rfl) ?_
                    refine mgf_0 (v := nI B) hx hb hz hi_M hown hK hP (hz _ q_458) h0 dM_goThrough_189 ?_
                    refine lv_icmp_ne (tgt := 209) hx hb dM_goThrough_192 (by decide) (fun c_192 => ?_) (fun c_192 => ?_)
                    · exact absurd ((nI_eq (a := d) (b := B) (by omega) (by omega)).mpr (by omega)) c_192
                    · refine lv_aload_n hx hb dM_goThrough_195 rfl (lv_at hl 0 rfl) ?_
                      refine mgr_digit hx hb hz hi_M hown hK hP (hz _ q_482) dM_goThrough_196 ?_
                      refine lv_iload hx hb dM_goThrough_199 (lv_at hl 4 rfl) ?_
                      refine lv_iconst (v := (-1)) hx hb dM_goThrough_201 (by decide) ?_
                      refine zast (wd' := WM cA cZ cJ a (upd f 8 (zB ((decide (nw = 0) || decide (B < lc)) || (bar && z0)))) (updA g1 14 0 (-1)) h1 (Int64.ofInt r0)) hx hb hK hP (hD _ _ _ _) hS 14 0 rfl rfl 0 rfl (by omega) (by decide) rfl dM_goThrough_202 (fun H locs hP hS => ?_)
                      refine lv_iinc (v := (-1)) (lv' := [(4, .int (-1)), (0, .ref (a 17)), (1, .int (nI mo)), (2, .int (zB kp)), (3, .int (nI A.length)), (5, .long (Int64.ofInt (zTr c r0 []))), (7, .int (nI d))]) hx hb dM_goThrough_203 hl (k := 4) rfl (by decide) (by decide) rfl (fun ls hl => ?_)
                      refine lv_goto (tgt := 318) hx hb dM_goThrough_206 (by decide) ?_
                      refine lv_goto (tgt := 80) hx hb dM_goThrough_318 (by decide) ?_
                      refine lv_iload hx hb dM_goThrough_80 (lv_at hl 0 rfl) ?_
                      refine lv_if_lt (tgt := 321) hx hb dM_goThrough_82 (by decide) (fun c_82 => ?_) (fun c_82 => ?_)
                      · refine lv_iload_n hx hb dM_goThrough_321 rfl (lv_at hl 4 rfl) ?_
                        exact W.iret hx hb hr (fun zT zh _ => ⟨⟨_, (upd f 8 (zB ((decide (nw = 0) || decide (B < lc)) || (bar && z0))), updA g1 14 0 (-1), h1, Int64.ofInt r0), rfl, ⟨_, _, _, _, rfl, fun j hj => pk_un hj, fun j q1 q2 q3 q4 => by rw [(zGI_m1 hGI (v := -1) (j := 0) (Nat.le_refl _)).1 j q2 q3 q4, sA_o _ _ _ q1], A, [], (by rw [zPM, if_neg (by rw [hImp]; decide), List.append_nil, ← hEq]; unfold zRm; rw [← hTl, hdE, zTl_end]; exact List.append_nil _), rfl, by omega, Or.inr rfl, (zGI_m1 hGI (v := -1) (j := 0) (Nat.le_refl _)).2.2.2.1⟩, zbw zh hP⟩, hS.F zh⟩) hS.2.2 dM_goThrough_322
                      · exact absurd (by decide) c_82
                  | cons d2 p2 =>
                    have hl := hl
                    refine lv_iload hx hb dM_goThrough_186 (lv_at hl 6 rfl) ?_
                    refine lv_aload_n hx hb dM_goThrough_188 rfl (lv_at hl 0 rfl) ?_
                    refine mgf_0 (v := nI B) hx hb hz hi_M hown hK hP (hz _ q_458) h0 dM_goThrough_189 ?_
                    refine lv_icmp_ne (tgt := 209) hx hb dM_goThrough_192 (by decide) (fun c_192 => ?_) (fun c_192 => ?_)
                    · exact absurd ((nI_eq (a := d) (b := B) (by omega) (by omega)).mpr (by omega)) c_192
                    · refine lv_aload_n hx hb dM_goThrough_195 rfl (lv_at hl 0 rfl) ?_
                      refine mgr_digit hx hb hz hi_M hown hK hP (hz _ q_482) dM_goThrough_196 ?_
                      refine lv_iload hx hb dM_goThrough_199 (lv_at hl 4 rfl) ?_
                      refine lv_iconst (v := (-1)) hx hb dM_goThrough_201 (by decide) ?_
                      refine zast (wd' := WM cA cZ cJ a (upd f 8 (zB ((decide (nw = 0) || decide (B < lc)) || (bar && z0)))) (updA g1 14 (p2.length + 1) (-1)) h1 (Int64.ofInt r0)) hx hb hK hP (hD _ _ _ _) hS 14 0 rfl rfl (p2.length + 1) rfl (by rw [List.length_cons] at hk; omega) (by decide) rfl dM_goThrough_202 (fun H locs hP hS => ?_)
                      refine lv_iinc (v := nI p2.length) (lv' := [(4, .int (nI p2.length)), (0, .ref (a 17)), (1, .int (nI mo)), (2, .int (zB kp)), (3, .int (nI A.length)), (5, .long (Int64.ofInt (zTr c r0 (d2 :: p2)))), (7, .int (nI d))]) hx hb dM_goThrough_203 hl (k := 4) rfl (by rw [← zPr p2.length, ← zM1]; rfl) (by decide) rfl (fun ls hl => ?_)
                      refine lv_goto (tgt := 318) hx hb dM_goThrough_206 (by decide) ?_
                      refine lv_goto (tgt := 80) hx hb dM_goThrough_318 (by decide) ?_
                      exact full80 (k + 1) p2 d2 A _ H locs ls (by have := zMu_back B k p2 s2 d2; omega) (by rw [List.length_cons] at hk; omega) (by omega) (by rw [← hEq]; unfold zRm; rw [← hTl, hdE, zTl_end]; rfl) (zGI_m1 hGI (v := -1) (j := p2.length + 1) (Nat.le_refl _)) hP hS (lv_sub hl [1, 2, 3, 4, 0, 5] rfl)
                · have c_152 := mt (nI_leI (a := B) (b := d) (by omega) (by omega)).mpr c_152
                  refine lv_aload_n hx hb dM_goThrough_155 rfl (lv_at hl 0 rfl) ?_
                  refine mgr_taken hx hb hz hi_M hown hK hP (hz _ q_483) dM_goThrough_156 ?_
                  refine lv_iload hx hb dM_goThrough_159 (lv_at hl 6 rfl) ?_
                  refine zbld (v := zB ((zMk p).testBit d)) hx hb hK hP 15 1 rfl rfl d rfl (by omega) (by decide) (hGI.2.2.1 d (by omega)) dM_goThrough_161 ?_
                  refine lv_if_ne (tgt := 180) hx hb dM_goThrough_162 (by decide) (fun c_162 => ?_) (fun c_162 => ?_)
                  · have c_162 : (zMk p).testBit d = true := zB_n0 c_162
                    refine lv_iinc (v := nI (d + 1)) (lv' := [(7, .int (nI (d + 1))), (0, .ref (a 17)), (1, .int (nI mo)), (2, .int (zB kp)), (3, .int (nI A.length)), (4, .int (nI p.length)), (5, .long (Int64.ofInt (zTr c r0 p)))]) hx hb dM_goThrough_180 hl (k := 6) rfl (nI_1 _) (by decide) rfl (fun ls hl => ?_)
                    refine lv_goto (tgt := 146) hx hb dM_goThrough_183 (by decide) ?_
                    exact ih2 (d + 1) ls (by omega) (by omega) (by omega) (by rw [← hTl]; exact (zTl_skip (by omega) (by rw [c_162]; rfl)).symm) (lv_sub hl [1, 2, 3, 4, 5, 6, 0] rfl)
                  · have c_162 : (zMk p).testBit d = false := zB_eq0.mp c_162
                    refine lv_iload hx hb dM_goThrough_165 (lv_at hl 6 rfl) ?_
                    refine lv_if_ne (tgt := 186) hx hb dM_goThrough_167 (by decide) (fun c_167 => ?_) (fun c_167 => ?_)
                    · have c_167 := mt (nI_eq (a := d) (b := 0) (by omega) (by omega)).mpr c_167
                      exact chosen d H locs ls hd0 (by omega) (by rw [c_162]; unfold zOk; rw [decide_eq_false c_167]; simp) hTl hP hS (lv_sub hl [0, 1, 2, 3, 4, 5, 6] rfl)
                    · have c_167 := (nI_eq (a := d) (b := 0) (by omega) (by omega)).mp c_167
                      refine lv_aload_n hx hb dM_goThrough_170 rfl (lv_at hl 0 rfl) ?_
                      refine mgr_notZero hx hb hz hi_M hown hK hP (hz _ q_479) dM_goThrough_171 ?_
                      refine lv_iload hx hb dM_goThrough_174 (lv_at hl 4 rfl) ?_
                      refine zbld (v := zB (bar && fr.testBit p.length)) hx hb hK hP 13 1 rfl rfl p.length rfl (by omega) (by decide) hnz dM_goThrough_176 ?_
                      refine lv_if_eq (tgt := 186) hx hb dM_goThrough_177 (by decide) (fun c_177 => ?_) (fun c_177 => ?_)
                      · have c_177 : (bar && fr.testBit p.length) = false := zB_eq0.mp c_177
                        exact chosen d H locs ls hd0 (by omega) (by rw [c_162]; unfold zOk; rw [Bool.and_assoc, c_177, Bool.and_false]; decide) hTl hP hS (lv_sub hl [0, 1, 2, 3, 4, 5, 6] rfl)
                      · have c_177 : (bar && fr.testBit p.length) = true := zB_n0 c_177
                        refine lv_iinc (v := nI (d + 1)) (lv' := [(7, .int (nI (d + 1))), (0, .ref (a 17)), (1, .int (nI mo)), (2, .int (zB kp)), (3, .int (nI A.length)), (4, .int (nI p.length)), (5, .long (Int64.ofInt (zTr c r0 p)))]) hx hb dM_goThrough_180 hl (k := 6) rfl (nI_1 _) (by decide) rfl (fun ls hl => ?_)
                        refine lv_goto (tgt := 146) hx hb dM_goThrough_183 (by decide) ?_
                        exact ih2 (d + 1) ls (by omega) (by omega) (by omega) (by rw [← hTl]; exact (zTl_skip (by omega) (by rw [c_162]; unfold zOk; rw [c_167, Bool.and_assoc, c_177]; rfl)).symm) (lv_sub hl [1, 2, 3, 4, 5, 6, 0] rfl)
            refine lv_aload_n hx hb dM_goThrough_135 rfl (lv_at hl 0 rfl) ?_
            refine mgr_digit hx hb hz hi_M hown hK hP (hz _ q_482) dM_goThrough_136 ?_
            refine lv_iload hx hb dM_goThrough_139 (lv_at hl 4 rfl) ?_
            refine zald (v := nI s2 - nI 1) hx hb hK hP 14 0 rfl rfl p.length rfl (by omega) (by decide) (h14) dM_goThrough_141 ?_
            refine lv_iconst (v := nI 1) hx hb dM_goThrough_142 (by decide) ?_
            refine lv_iadd hx hb dM_goThrough_143 ?_
            refine zt (y := nI s2) (Int32.sub_add_cancel _ _) ?_
            refine lv_istore (lv' := [(7, .int (nI s2)), (0, .ref (a 17)), (1, .int (nI mo)), (2, .int (zB kp)), (3, .int (nI A.length)), (4, .int (nI p.length)), (5, .long (Int64.ofInt (zTr c r0 p)))]) hx hb dM_goThrough_144 hl (by decide) rfl (fun ls hl => ?_)
            exact inner (B + 1) s2 ls (by omega) (Nat.le_refl _) hs2 rfl (lv_sub hl [1, 2, 3, 4, 5, 6, 0] rfl)
        have clr : ∀ (k0 j : Nat) (F15 : Nat → Int32) (H : Heap) (locs : List Loc) (ls : Array Slot), B + 1 ≤ j + k0 → j ≤ B → (∀ i, i < j → F15 i = nI 0) → va_P (dC, dI) vwCl (WM cA cZ cJ a (upd f 8 (zB ((decide (nw = 0) || decide (B < lc)) || (bar && z0)))) (sA (sA g 13 F13) 15 F15) h1 (Int64.ofInt r0)) H → va_S (AM a) s.heap H locs → lv_has ls 9 [(0, .ref (a 17)), (1, .int (nI mo)), (2, .int (zB kp)), (3, .int (nI j))] → W zp l ze (headSpec wsM_goThrough ({ frames := 2, cells := 0, slots := 0, locals := 47 })).room s zm ([.ref (a 17), .int (nI mo), .int (zB kp)] : List Value).toArray below meth zc H locs 0 0 (MQ below (va_Qi (fun (z : Int32) (s : zMt) => ∃ f2 g2 h2 r2, s = (f2, g2, h2, r2) ∧ (∀ j, j ≠ 8 → f2 j = f j) ∧ (∀ j, j ≠ 13 → j ≠ 14 → j ≠ 15 → (j ≠ 16 ∨ kp = false) → g2 j = g j) ∧ ∃ A R, zPM ((decide (nw = 0) || decide (B < lc)) || (bar && z0)) (zAnsM B (zOk bar fr) c r0 lc) = A ++ R ∧ z = nI A.length ∧ A.length ≤ mo ∧ (A.length = mo ∨ R = []) ∧ (kp = true → zAr (g2 16) A lc)) (zBW (dC, dI) vwCl (fun u : zMt => WM cA cZ cJ a u.1 u.2.1 u.2.2.1 u.2.2.2)) (AM a)) ([.ref (a 17), .int (nI mo), .int (zB kp)] : List Value).toArray s 0 0 (AM a)) (F0 zm 41 ls []) := by
          intro k0
          induction k0 with
          | zero => intro j F15 H locs ls q1 q2; omega
          | succ k0 ih =>
            intro j F15 H locs ls hk0 hj hz1 hP hS hl
            refine lv_iload_n hx hb dM_goThrough_41 rfl (lv_at hl 3 rfl) ?_
            refine lv_aload_n hx hb dM_goThrough_42 rfl (lv_at hl 0 rfl) ?_
            refine mgf_0 (v := nI B) hx hb hz hi_M hown hK hP (hz _ q_458) h0 dM_goThrough_43 ?_
            refine lv_icmp_ge (tgt := 62) hx hb dM_goThrough_46 (by decide) (fun c_46 => ?_) (fun c_46 => ?_)
            · have c_46 := (nI_leI (a := B) (b := j) (by omega) (by omega)).mp c_46
              refine lv_iconst (v := nI 0) hx hb dM_goThrough_62 (by decide) ?_
              refine lv_istore_n (lv' := [(3, .int (nI 0)), (0, .ref (a 17)), (1, .int (nI mo)), (2, .int (zB kp))]) hx hb dM_goThrough_63 rfl hl (by decide) rfl (fun ls hl => ?_)
              refine lv_iconst (v := nI 0) hx hb dM_goThrough_64 (by decide) ?_
              refine lv_istore (lv' := [(4, .int (nI 0)), (3, .int (nI 0)), (0, .ref (a 17)), (1, .int (nI mo)), (2, .int (zB kp))]) hx hb dM_goThrough_65 hl (by decide) rfl (fun ls hl => ?_)
              refine lv_aload_n hx hb dM_goThrough_67 rfl (lv_at hl 2 rfl) ?_
              refine mgr_rest hx hb hz hi_M hown hK hP (hz _ q_480) dM_goThrough_68 ?_
              refine lv_lstore (lv' := [(5, .long (Int64.ofInt r0)), (4, .int (nI 0)), (3, .int (nI 0)), (0, .ref (a 17)), (1, .int (nI mo)), (2, .int (zB kp))]) hx hb dM_goThrough_71 hl (by decide) rfl (fun ls hl => ?_)
              refine lv_aload_n hx hb dM_goThrough_73 rfl (lv_at hl 3 rfl) ?_
              refine mgr_digit hx hb hz hi_M hown hK hP (hz _ q_482) dM_goThrough_74 ?_
              refine lv_iconst (v := nI 0) hx hb dM_goThrough_77 (by decide) ?_
              refine lv_iconst (v := (-1)) hx hb dM_goThrough_78 (by decide) ?_
              refine zast (wd' := WM cA cZ cJ a (upd f 8 (zB ((decide (nw = 0) || decide (B < lc)) || (bar && z0)))) (updA (sA (sA g 13 F13) 15 F15) 14 0 (-1)) h1 (Int64.ofInt r0)) hx hb hK hP (hD _ _ _ _) hS 14 0 rfl rfl 0 rfl (by omega) (by decide) rfl dM_goThrough_79 (fun H locs hP hS => ?_)
              refine lv_iload hx hb dM_goThrough_80 (lv_at hl 1 rfl) ?_
              refine lv_if_lt (tgt := 321) hx hb dM_goThrough_82 (by decide) (fun c_82 => ?_) (fun c_82 => ?_)
              · exact absurd c_82 (nI_pos (by omega))
              · refine lv_iload_n hx hb dM_goThrough_85 rfl (lv_at hl 2 rfl) ?_
                refine lv_iload_n hx hb dM_goThrough_86 rfl (lv_at hl 4 rfl) ?_
                refine lv_icmp_ge (tgt := 321) hx hb dM_goThrough_87 (by decide) (fun c_87 => ?_) (fun c_87 => ?_)
                · exact absurd ((nI_leI (a := mo) (b := 0) (by omega) (by omega)).mp c_87) (by omega)
                · refine lv_aload_n hx hb dM_goThrough_90 rfl (lv_at hl 3 rfl) ?_
                  refine mgr_digit hx hb hz hi_M hown hK hP (hz _ q_482) dM_goThrough_91 ?_
                  refine lv_iload hx hb dM_goThrough_94 (lv_at hl 1 rfl) ?_
                  refine zald (v := (-1)) hx hb hK hP 14 0 rfl rfl 0 rfl (by omega) (by decide) rfl dM_goThrough_96 ?_
                  refine lv_iconst (v := (-1)) hx hb dM_goThrough_97 (by decide) ?_
                  refine lv_icmp_eq (tgt := 135) hx hb dM_goThrough_98 (by decide) (fun c_98 => ?_) (fun c_98 => ?_)
                  · exact loop _ (lc - 1) [] 0 [] _ H locs ls (Nat.le_refl _) (by show lc - 1 + 0 + 1 = lc; omega) (by omega) (by show 0 < mo; omega) (by rw [zRm_start (by omega)]; rfl) ⟨fun j q1 q2 q3 => by rw [updA, sA_o _ _ _ q1, sA_o _ _ _ q2], fun k hk => absurd hk (Nat.not_lt_zero k), fun d hd => by show F15 d = _; rw [hz1 d (by omega), zMk, Nat.zero_testBit]; rfl, fun _ i k hi => absurd hi (Nat.not_lt_zero i), trivial⟩ (by rw [updA, sA_s]; exact pk_us) hP hS (lv_sub hl [3, 4, 5, 2, 1, 0] rfl)
                  · exact absurd rfl c_98
            · have c_46 := mt (nI_leI (a := B) (b := j) (by omega) (by omega)).mpr c_46
              refine lv_aload_n hx hb dM_goThrough_49 rfl (lv_at hl 0 rfl) ?_
              refine mgr_taken hx hb hz hi_M hown hK hP (hz _ q_483) dM_goThrough_50 ?_
              refine lv_iload_n hx hb dM_goThrough_53 rfl (lv_at hl 3 rfl) ?_
              refine lv_iconst (v := nI 0) hx hb dM_goThrough_54 (by decide) ?_
              refine zbst (wd' := WM cA cZ cJ a (upd f 8 (zB ((decide (nw = 0) || decide (B < lc)) || (bar && z0)))) (updA (sA (sA g 13 F13) 15 F15) 15 j (nI 0)) h1 (Int64.ofInt r0)) hx hb hK hP (hD _ _ _ _) hS 15 1 rfl rfl j rfl (by omega) (by decide) (by decide) rfl dM_goThrough_55 (fun H locs hP hS => ?_)
              refine lv_iinc (v := nI (j + 1)) (lv' := [(3, .int (nI (j + 1))), (0, .ref (a 17)), (1, .int (nI mo)), (2, .int (zB kp))]) hx hb dM_goThrough_56 hl (k := 3) rfl (nI_1 _) (by decide) rfl (fun ls hl => ?_)
              refine lv_goto (tgt := 41) hx hb dM_goThrough_59 (by decide) ?_
              exact ih (j + 1) (upd F15 j (nI 0)) H locs ls (by omega) (by omega) (fun i hi => by
                      by_cases e : i = j
                      · rw [e, pk_us]
                      · rw [pk_un e]; exact hz1 i (by omega)) (by rw [← sA_sA _ 15 F15 _]; exact hP) hS (lv_sub hl [1, 2, 3, 0] rfl)
        refine lv_iconst (v := nI 0) hx hb dM_goThrough_39 (by decide) ?_
        refine lv_istore_n (lv' := [(3, .int (nI 0)), (0, .ref (a 17)), (1, .int (nI mo)), (2, .int (zB kp))]) hx hb dM_goThrough_40 rfl hl (by decide) rfl (fun ls hl => ?_)
        exact clr (B + 1) 0 (sA g 13 F13 15) _ _ ls (by omega) (by omega) (fun i hi => absurd hi (Nat.not_lt_zero i)) (by rw [sA_self]; exact hP) hS (lv_sub hl [1, 2, 3, 0] rfl)
      · have c_21 := (nI_eq (a := lc) (b := 0) (by omega) (by omega)).mp c_21
        refine lv_aload_n hx hb dM_goThrough_24 rfl (lv_at hl 0 rfl) ?_
        refine mgr_rest hx hb hz hi_M hown hK hP (hz _ q_480) dM_goThrough_25 ?_
        refine lv_lconst (v := lN 0) hx hb dM_goThrough_28 (by decide) ?_
        refine W.lcmp hx hb dM_goThrough_29 ?_
        refine lv_if_ne (tgt := 37) hx hb dM_goThrough_30 (by decide) (fun c_30 => ?_) (fun c_30 => ?_)
        · have c_30 : ¬ Int64.ofInt r0 = 0 := fun q => c_30 (zCmpE.mpr q)
          refine lv_iconst (v := nI 0) hx hb dM_goThrough_37 (by decide) ?_
          exact W.iret hx hb hr (fun zT zh _ => ⟨⟨_, (upd f 8 (zB ((decide (nw = 0) || decide (B < lc)) || (bar && z0))), sA g 13 F13, h1, Int64.ofInt r0), rfl, ⟨_, _, _, _, rfl, fun j hj => pk_un hj, fun j q1 q2 q3 q4 => sA_o _ _ _ q1, [], [], (by rw [zPM, if_neg (by rw [c_8]; decide)]; unfold zAnsM; rw [c_21]; simp only [zEn]; rw [zfilt1, if_neg (by show ¬ (Int64.ofInt r0 == 0) = true; rw [beq_iff_eq]; exact c_30)]; rfl), rfl, Nat.zero_le _, Or.inr rfl, fun _ i k hi => absurd hi (Nat.not_lt_zero i)⟩, zbw zh hP⟩, hS.F zh⟩) hS.2.2 dM_goThrough_38
        · have c_30 : Int64.ofInt r0 = 0 := zCmpE.mp c_30
          refine lv_iconst (v := nI 1) hx hb dM_goThrough_33 (by decide) ?_
          refine lv_goto (tgt := 38) hx hb dM_goThrough_34 (by decide) ?_
          exact W.iret hx hb hr (fun zT zh _ => ⟨⟨_, (upd f 8 (zB ((decide (nw = 0) || decide (B < lc)) || (bar && z0))), sA g 13 F13, h1, Int64.ofInt r0), rfl, ⟨_, _, _, _, rfl, fun j hj => pk_un hj, fun j q1 q2 q3 q4 => sA_o _ _ _ q1, [[]], [], (by rw [zPM, if_neg (by rw [c_8]; decide)]; unfold zAnsM; rw [c_21]; simp only [zEn]; rw [zfilt1, if_pos (by show (Int64.ofInt r0 == 0) = true; rw [beq_iff_eq]; exact c_30)]; rfl), rfl, (by show 1 ≤ mo; omega), Or.inr rfl, fun _ i k _ hk => by omega⟩, zbw zh hP⟩, hS.F zh⟩) hS.2.2 dM_goThrough_38
    · have c_12 := (nI_eq (a := mo) (b := 0) (by omega) (by omega)).mp c_12
      refine lv_iconst (v := nI 0) hx hb dM_goThrough_15 (by decide) ?_
      exact W.iret hx hb hr (fun zT zh _ => ⟨⟨_, (upd f 8 (zB ((decide (nw = 0) || decide (B < lc)) || (bar && z0))), sA g 13 F13, h1, Int64.ofInt r0), rfl, ⟨_, _, _, _, rfl, fun j hj => pk_un hj, fun j q1 q2 q3 q4 => sA_o _ _ _ q1, [], _, (List.nil_append _).symm, rfl, Nat.zero_le _, Or.inl (by show 0 = mo; omega), fun _ i k hi => absurd hi (Nat.not_lt_zero i)⟩, zbw zh hP⟩, hS.F zh⟩) hS.2.2 dM_goThrough_16

set_option maxHeartbeats 4000000 in
set_option maxRecDepth 100000 in
theorem c_M_run (l : Launch) (dC : Nat → ClassId) (dI : Nat → Nat → Nat) (cA cZ cJ : ClassId) (a : Nat → Nat) (f : Nat → Int32) (g : Nat → Nat → Int32) (h : Nat → Int64) (r : Int64) (hWD : MDist a) (xm : Int32) (B : Nat) (hB : B ≤ 10) (h0 : f 0 = nI B) (nw : Nat) (hnw : nw ≤ 8) (h4 : f 4 = nI nw) (lc : Nat) (hlc : lc ≤ 8) (h5 : f 5 = nI lc) (bar : Bool) (h7 : f 7 = zB bar) (at0 ln : Nat → Nat) (mi sd : Nat → Bool) (hat : ∀ w, w < nw → g 2 w = nI (at0 w)) (hln : ∀ w, w < nw → g 3 w = nI (ln w)) (hle : ∀ w, w < nw → 1 ≤ ln w ∧ at0 w + ln w ≤ 80) (hln8 : ∀ w, w < nw → ln w ≤ 8) (hmi : ∀ w, w < nw → g 4 w = zB (mi w)) (hsd : ∀ w, w < nw → g 5 w = zB (sd w)) (t : Nat → Nat) (sl : Nat → Option Nat) (hsl : ∀ w, w < nw → ∀ p, at0 w ≤ p → p < at0 w + ln w → zMlOk (g 1) (g 6) lc t sl p) (sg : Nat → Int) (hsg : ∀ w, w < nw → (if sd w = mi w then (1 : Int) else -1) = sg w) (r0 : Int) (c : Nat → Int) (fr : Nat) (z0 : Bool) (hrc : zWs B sl (fun p => (t p : Int) - 48) sg at0 ln nw = (r0, c)) (hfr0 : zFm sl at0 ln nw = fr) (hz0 : zZf sl t at0 ln nw = z0) : Met l yM_run wsM_run ({ frames := 3, cells := 0, slots := 0, locals := 75 }) (va_Pc [.ref (a 17), .int xm] (zPW (dC, dI) vwCl [(cA, .int), (cZ, .boolean), (cJ, .long)] (WM cA cZ cJ a f g h r))) (va_Qi (fun (z : Int32) (s : zMt) => if 0 ≤ xm.toInt ∧ xm.toInt ≤ 1000 then (∃ f2 g2 h2 r2, s = (f2, g2, h2, r2) ∧ (∀ j, j ≠ 2 → j ≠ 6 → j ≠ 8 → f2 j = f j) ∧ (∀ j, j ≠ 13 → j ≠ 14 → j ≠ 15 → j ≠ 16 → g2 j = g j) ∧ ∃ A R, zPM ((decide (nw = 0) || decide (B < lc)) || (bar && z0)) (zAnsM B (zOk bar fr) c r0 lc) = A ++ R ∧ z = nI A.length ∧ f2 6 = nI A.length ∧ A.length ≤ xm.toInt.toNat ∧ (A.length = xm.toInt.toNat ∨ R = []) ∧ zAr (g2 16) A lc) else z = -1 ∧ s = (upd f 2 (nI 0), g, h, r)) (zBW (dC, dI) vwCl (fun u : zMt => WM cA cZ cJ a u.1 u.2.1 u.2.2.1 u.2.2.2)) (AM a)) 0 0 (AM a) := by
  refine Met.ofW (cc := prog_8_method_14_code) (maxL := 2) (ret := (some .int)) (by decide) rfl ?_
  intro zp ze s zm args below meth zc s₁ zBL hml hv
  obtain ⟨rfl, hP, hK, hN⟩ := hv
  have hx := zBL.exec
  have hb := zBL.bytes
  have hr := zBL.returns
  have hts := atoms_spec (ws := wsM_run) zBL.pre
  have hz : ∀ w ∈ zBig, w.before _ s = true := fun w h => hts w (List.mem_cons_of_mem _ h)
  have hown : s.vm.findClass "LetterSumsModel" = some zm.cls := findClass_of_methodNamed zBL.named
  have hlocks := zBL.notSynchronized
  have hD : ∀ f g h r, va_D (AM a) (WM cA cZ cJ a f g h r) := fun f g h r => WM_D hWD f g h r
  have hS : va_S (AM a) s.heap s.heap [] := va_S.rf
  have hl := lv_entry ([.ref (a 17), .int xm]) (n := 2) (Nat.le_of_ble_eq_true rfl)
  rw [lg_entry_eq]
  generalize (lg_sl ([.ref (a 17), .int xm]) ++ List.replicate (2 - (lg_sl ([.ref (a 17), .int xm])).length) Slot.unset).toArray = ls at hl ⊢
  have hl : lv_has ls 2 [(0, .ref (a 17)), (1, .int xm)] := hl
  refine lv_aload_n hx hb dM_run_0 rfl (lv_at hl 0 rfl) ?_
  refine lv_iconst (v := nI 0) hx hb dM_run_1 (by decide) ?_
  refine mpf_2 hx hb hz hi_M hown hK hP (hD _ _ _ _) hS (hz _ q_461) dM_run_2 (fun H locs hP hS => ?_)
  refine lv_iload_n hx hb dM_run_5 rfl (lv_at hl 1 rfl) ?_
  refine lv_if_lt (tgt := 16) hx hb dM_run_6 (by decide) (fun c_6 => ?_) (fun c_6 => ?_)
  · refine lv_iconst (v := (-1)) hx hb dM_run_16 (by decide) ?_
    exact W.iret hx hb hr (fun zT zh _ => ⟨⟨_, (upd f 2 (nI 0), g, h, r), rfl, (by dsimp only; rw [if_neg (zMostF (Or.inl c_6))]; exact ⟨rfl, rfl⟩), zbw zh hP⟩, hS.F zh⟩) hS.2.2 dM_run_17
  · refine lv_iload_n hx hb dM_run_9 rfl (lv_at hl 1 rfl) ?_
    refine lv_sipush (v := nI 1000) hx hb dM_run_10 (by decide) ?_
    refine lv_icmp_le (tgt := 18) hx hb dM_run_13 (by decide) (fun c_13 => ?_) (fun c_13 => ?_)
    · obtain ⟨m, hm1, hm2⟩ := zMost c_6 c_13
      rw [hm2] at hl
      refine lv_aload_n hx hb dM_run_18 rfl (lv_at hl 0 rfl) ?_
      refine lv_aload_n hx hb dM_run_19 rfl (lv_at hl 0 rfl) ?_
      refine lv_iload_n hx hb dM_run_20 rfl (lv_at hl 1 rfl) ?_
      refine lv_iconst (v := nI 1) hx hb dM_run_21 (by decide) ?_
      refine zt (y := zB true) (show _ = zB true from rfl) ?_
      refine zk_i (zrV (rest := [.ref (a 17)]) ⟨hx, hb, hml, hown, hz⟩ (c_M_go l dC dI cA cZ cJ a (upd f 2 (nI 0)) g h r hWD B hB h0 nw hnw h4 lc hlc h5 bar h7 at0 ln mi sd hat hln hle hln8 hmi hsd t sl hsl sg hsg r0 c fr z0 hrc hfr0 hz0 m hm1 true) ⟨zcB 2 hz q_580 q_9 q_583 (by decide +kernel) rfl rfl ⟨Nat.le_of_ble_eq_true rfl, Nat.le_of_ble_eq_true rfl⟩, hz _ q_582, hz _ qs_23⟩ hK hN hP 17 6 rfl rfl rfl rfl hl.1 rfl (Nat.le_of_ble_eq_true rfl) dM_run_22 ⟨Nat.zero_le _, Nat.zero_le _⟩) hS (fun _ h => h) (fun zr zu H1 locs zhu hP1 hS hk => ?_)
      obtain ⟨f2, g2, h2, r2, rfl, hkf, hkg, A, R, hAR, hzr, hAm, hAe, hAr⟩ := zhu
      subst hzr
      have hP := hP1
      generalize H1 = H at hP hS ⊢
      refine mpf_6 hx hb hz hi_M hown hK hP (hD _ _ _ _) hS (hz _ q_466) dM_run_25 (fun H locs hP hS => ?_)
      refine lv_aload_n hx hb dM_run_28 rfl (lv_at hl 0 rfl) ?_
      refine mgf_6 (v := nI A.length) hx hb hz hi_M hown hK hP (hz _ q_466) pk_us dM_run_29 ?_
      exact W.iret hx hb hr (fun zT zh _ => ⟨⟨_, (upd f2 6 (nI A.length), g2, h2, r2), rfl, (by dsimp only; rw [if_pos (by rw [hm2]; exact zMostT hm1), hm2, nI_tn (by omega)]; exact ⟨_, _, _, _, rfl, fun j q1 q2 q3 => by rw [pk_un q2, hkf j q3, pk_un q1], fun j q1 q2 q3 q4 => hkg j q1 q2 q3 (Or.inl q4), A, R, hAR, rfl, pk_us, hAm, hAe, hAr rfl⟩), zbw zh hP⟩, hS.F zh⟩) hS.2.2 dM_run_32
    · refine lv_iconst (v := (-1)) hx hb dM_run_16 (by decide) ?_
      exact W.iret hx hb hr (fun zT zh _ => ⟨⟨_, (upd f 2 (nI 0), g, h, r), rfl, (by dsimp only; rw [if_neg (zMostF (Or.inr c_13))]; exact ⟨rfl, rfl⟩), zbw zh hP⟩, hS.F zh⟩) hS.2.2 dM_run_17

set_option maxHeartbeats 4000000 in
set_option maxRecDepth 100000 in
theorem c_M_one (l : Launch) (dC : Nat → ClassId) (dI : Nat → Nat → Nat) (cA cZ cJ : ClassId) (a : Nat → Nat) (f : Nat → Int32) (g : Nat → Nat → Int32) (h : Nat → Int64) (r : Int64) (hWD : MDist a) (B : Nat) (hB : B ≤ 10) (h0 : f 0 = nI B) (nw : Nat) (hnw : nw ≤ 8) (h4 : f 4 = nI nw) (lc : Nat) (hlc : lc ≤ 8) (h5 : f 5 = nI lc) (bar : Bool) (h7 : f 7 = zB bar) (at0 ln : Nat → Nat) (mi sd : Nat → Bool) (hat : ∀ w, w < nw → g 2 w = nI (at0 w)) (hln : ∀ w, w < nw → g 3 w = nI (ln w)) (hle : ∀ w, w < nw → 1 ≤ ln w ∧ at0 w + ln w ≤ 80) (hln8 : ∀ w, w < nw → ln w ≤ 8) (hmi : ∀ w, w < nw → g 4 w = zB (mi w)) (hsd : ∀ w, w < nw → g 5 w = zB (sd w)) (t : Nat → Nat) (sl : Nat → Option Nat) (hsl : ∀ w, w < nw → ∀ p, at0 w ≤ p → p < at0 w + ln w → zMlOk (g 1) (g 6) lc t sl p) (sg : Nat → Int) (hsg : ∀ w, w < nw → (if sd w = mi w then (1 : Int) else -1) = sg w) (r0 : Int) (c : Nat → Int) (fr : Nat) (z0 : Bool) (hrc : zWs B sl (fun p => (t p : Int) - 48) sg at0 ln nw = (r0, c)) (hfr0 : zFm sl at0 ln nw = fr) (hz0 : zZf sl t at0 ln nw = z0) : Met l yM_one wsM_one ({ frames := 3, cells := 0, slots := 0, locals := 75 }) (va_Pc [.ref (a 17)] (zPW (dC, dI) vwCl [(cA, .int), (cZ, .boolean), (cJ, .long)] (WM cA cZ cJ a f g h r))) (va_Qi (fun (z : Int32) (s : zMt) => ∃ f2 g2 h2 r2, s = (f2, g2, h2, r2) ∧ (∀ j, j ≠ 2 → j ≠ 8 → f2 j = f j) ∧ (∀ j, j ≠ 13 → j ≠ 14 → j ≠ 15 → g2 j = g j) ∧ ∃ A R, zPM ((decide (nw = 0) || decide (B < lc)) || (bar && z0)) (zAnsM B (zOk bar fr) c r0 lc) = A ++ R ∧ z = zB (decide (A.length = 1)) ∧ (A.length = 2 ∨ R = [])) (zBW (dC, dI) vwCl (fun u : zMt => WM cA cZ cJ a u.1 u.2.1 u.2.2.1 u.2.2.2)) (AM a)) 0 0 (AM a) := by
  refine Met.ofW (cc := prog_8_method_15_code) (maxL := 1) (ret := (some .boolean)) (by decide) rfl ?_
  intro zp ze s zm args below meth zc s₁ zBL hml hv
  obtain ⟨rfl, hP, hK, hN⟩ := hv
  have hx := zBL.exec
  have hb := zBL.bytes
  have hr := zBL.returns
  have hts := atoms_spec (ws := wsM_one) zBL.pre
  have hz : ∀ w ∈ zBig, w.before _ s = true := fun w h => hts w (List.mem_cons_of_mem _ h)
  have hown : s.vm.findClass "LetterSumsModel" = some zm.cls := findClass_of_methodNamed zBL.named
  have hlocks := zBL.notSynchronized
  have hD : ∀ f g h r, va_D (AM a) (WM cA cZ cJ a f g h r) := fun f g h r => WM_D hWD f g h r
  have hS : va_S (AM a) s.heap s.heap [] := va_S.rf
  have hl := lv_entry ([.ref (a 17)]) (n := 1) (Nat.le_of_ble_eq_true rfl)
  rw [lg_entry_eq]
  generalize (lg_sl ([.ref (a 17)]) ++ List.replicate (1 - (lg_sl ([.ref (a 17)])).length) Slot.unset).toArray = ls at hl ⊢
  have hl : lv_has ls 1 [(0, .ref (a 17))] := hl
  refine lv_aload_n hx hb dM_one_0 rfl (lv_at hl 0 rfl) ?_
  refine lv_iconst (v := nI 0) hx hb dM_one_1 (by decide) ?_
  refine mpf_2 hx hb hz hi_M hown hK hP (hD _ _ _ _) hS (hz _ q_461) dM_one_2 (fun H locs hP hS => ?_)
  refine lv_aload_n hx hb dM_one_5 rfl (lv_at hl 0 rfl) ?_
  refine lv_iconst (v := nI 2) hx hb dM_one_6 (by decide) ?_
  refine lv_iconst (v := nI 0) hx hb dM_one_7 (by decide) ?_
  refine zt (y := zB false) (show _ = zB false from rfl) ?_
  refine zk_i (zrV (rest := []) ⟨hx, hb, hml, hown, hz⟩ (c_M_go l dC dI cA cZ cJ a (upd f 2 (nI 0)) g h r hWD B hB h0 nw hnw h4 lc hlc h5 bar h7 at0 ln mi sd hat hln hle hln8 hmi hsd t sl hsl sg hsg r0 c fr z0 hrc hfr0 hz0 2 (by omega) false) ⟨zcB 2 hz q_580 q_9 q_583 (by decide +kernel) rfl rfl ⟨Nat.le_of_ble_eq_true rfl, Nat.le_of_ble_eq_true rfl⟩, hz _ q_582, hz _ qs_23⟩ hK hN hP 17 6 rfl rfl rfl rfl hl.1 rfl (Nat.le_of_ble_eq_true rfl) dM_one_8 ⟨Nat.zero_le _, Nat.zero_le _⟩) hS (fun _ h => h) (fun zr zu H1 locs zhu hP1 hS hk => ?_)
  obtain ⟨f2, g2, h2, r2, rfl, hkf, hkg, A, R, hAR, hzr, hAm, hAe, hAr⟩ := zhu
  subst hzr
  have hP := hP1
  generalize H1 = H at hP hS ⊢
  refine lv_iconst (v := nI 1) hx hb dM_one_11 (by decide) ?_
  refine lv_icmp_ne (tgt := 19) hx hb dM_one_12 (by decide) (fun c_12 => ?_) (fun c_12 => ?_)
  · have c_12 := mt (nI_eq (a := A.length) (b := 1) (by omega) (by omega)).mpr c_12
    refine lv_iconst (v := nI 0) hx hb dM_one_19 (by decide) ?_
    exact W.zret hx hb hr rfl (fun zT zh _ => ⟨⟨_, (f2, g2, h2, r2), rfl, ⟨_, _, _, _, rfl, fun j q1 q3 => by rw [hkf j q3, pk_un q1], fun j q1 q2 q3 => hkg j q1 q2 q3 (Or.inr rfl), A, R, hAR, (by rw [decide_eq_false c_12]; rfl), hAe⟩, zbw zh hP⟩, hS.F zh⟩) hS.2.2 dM_one_20
  · have c_12 := (nI_eq (a := A.length) (b := 1) (by omega) (by omega)).mp c_12
    refine lv_iconst (v := nI 1) hx hb dM_one_15 (by decide) ?_
    refine lv_goto (tgt := 20) hx hb dM_one_16 (by decide) ?_
    exact W.zret hx hb hr rfl (fun zT zh _ => ⟨⟨_, (f2, g2, h2, r2), rfl, ⟨_, _, _, _, rfl, fun j q1 q3 => by rw [hkf j q3, pk_un q1], fun j q1 q2 q3 => hkg j q1 q2 q3 (Or.inr rfl), A, R, hAR, (by rw [decide_eq_true c_12]; rfl), hAe⟩, zbw zh hP⟩, hS.F zh⟩) hS.2.2 dM_one_20
