set_option maxHeartbeats 4000000 in
set_option maxRecDepth 100000 in
theorem c_M_weigh (l : Launch) (dC : Nat → ClassId) (dI : Nat → Nat → Nat) (cA cZ cJ : ClassId) (a : Nat → Nat) (f : Nat → Int32) (g : Nat → Nat → Int32) (h : Nat → Int64) (r : Int64) (hWD : MDist a) (B : Nat) (hB : B ≤ 10) (h0 : f 0 = nI B) (nw : Nat) (hnw : nw ≤ 8) (h4 : f 4 = nI nw) (lc : Nat) (hlc : lc ≤ 8) (h5 : f 5 = nI lc) (bar : Bool) (h7 : f 7 = zB bar) (at0 ln : Nat → Nat) (mi sd : Nat → Bool) (hat : ∀ w, w < nw → g 2 w = nI (at0 w)) (hln : ∀ w, w < nw → g 3 w = nI (ln w)) (hle : ∀ w, w < nw → 1 ≤ ln w ∧ at0 w + ln w ≤ 80) (hln8 : ∀ w, w < nw → ln w ≤ 8) (hmi : ∀ w, w < nw → g 4 w = zB (mi w)) (hsd : ∀ w, w < nw → g 5 w = zB (sd w)) (t : Nat → Nat) (sl : Nat → Option Nat) (hsl : ∀ w, w < nw → ∀ p, at0 w ≤ p → p < at0 w + ln w → zMlOk (g 1) (g 6) lc t sl p) (sg : Nat → Int) (hsg : ∀ w, w < nw → (if sd w = mi w then (1 : Int) else -1) = sg w) : Met l yM_weigh wsM_weigh ({ frames := 1, cells := 0, slots := 0, locals := 22 }) (va_Pc [.ref (a 17)] (zPW (dC, dI) vwCl [(cA, .int), (cZ, .boolean), (cJ, .long)] (WM cA cZ cJ a f g h r))) (va_Qv (fun (s : zMt) => ∃ F13 h1, s = (upd f 8 (zB ((decide (nw = 0) || decide (B < lc)) || (bar && zZf sl t at0 ln nw))), sA g 13 F13, h1, Int64.ofInt (zWs B sl (fun p => (t p : Int) - 48) sg at0 ln nw).1) ∧ zRelL h1 (zWs B sl (fun p => (t p : Int) - 48) sg at0 ln nw).2 lc ∧ zNz bar F13 (zFm sl at0 ln nw) lc) (zBW (dC, dI) vwCl (fun u : zMt => WM cA cZ cJ a u.1 u.2.1 u.2.2.1 u.2.2.2)) (AM a)) 0 0 (AM a) := by
  refine Met.ofW (cc := prog_8_method_12_code) (maxL := 6) (ret := none) (by decide) rfl ?_
  intro zp ze s zm args below meth zc s₁ zBL hml hv
  obtain ⟨rfl, hP, hK, hN⟩ := hv
  have hx := zBL.exec
  have hb := zBL.bytes
  have hr := zBL.returns
  have hts := atoms_spec (ws := wsM_weigh) zBL.pre
  have hz : ∀ w ∈ zBig, w.before _ s = true := fun w h => hts w (List.mem_cons_of_mem _ h)
  have hown : s.vm.findClass "LetterSumsModel" = some zm.cls := findClass_of_methodNamed zBL.named
  have hlocks := zBL.notSynchronized
  have hD : ∀ f g h r, va_D (AM a) (WM cA cZ cJ a f g h r) := fun f g h r => WM_D hWD f g h r
  have hS : va_S (AM a) s.heap s.heap [] := va_S.rf
  have hl := lv_entry ([.ref (a 17)]) (n := 6) (Nat.le_of_ble_eq_true rfl)
  rw [lg_entry_eq]
  generalize (lg_sl ([.ref (a 17)]) ++ List.replicate (6 - (lg_sl ([.ref (a 17)])).length) Slot.unset).toArray = ls at hl ⊢
  have hl : lv_has ls 6 [(0, .ref (a 17))] := hl
  have loopB : ∀ (k0 : Nat) (w : Nat) (h1 : Nat → Int64) (F13 : Nat → Int32) (H : Heap) (locs : List Loc) (ls : Array Slot), nw + 1 ≤ w + k0 → w ≤ nw → zRelL h1 (zWs B sl (fun p => (t p : Int) - 48) sg at0 ln w).2 lc → zNz bar F13 (zFm sl at0 ln w) lc → va_P (dC, dI) vwCl (WM cA cZ cJ a (upd f 8 (zB ((decide (nw = 0) || decide (B < lc)) || (bar && zZf sl t at0 ln w)))) (sA g 13 F13) h1 (Int64.ofInt (zWs B sl (fun p => (t p : Int) - 48) sg at0 ln w).1)) H → va_S (AM a) s.heap H locs → lv_has ls 6 [(0, .ref (a 17)), (1, .int (nI w))] → W zp l ze (headSpec wsM_weigh ({ frames := 1, cells := 0, slots := 0, locals := 22 })).room s zm ([.ref (a 17)] : List Value).toArray below meth zc H locs 0 0 (MQ below (va_Qv (fun (s : zMt) => ∃ F13 h1, s = (upd f 8 (zB ((decide (nw = 0) || decide (B < lc)) || (bar && zZf sl t at0 ln nw))), sA g 13 F13, h1, Int64.ofInt (zWs B sl (fun p => (t p : Int) - 48) sg at0 ln nw).1) ∧ zRelL h1 (zWs B sl (fun p => (t p : Int) - 48) sg at0 ln nw).2 lc ∧ zNz bar F13 (zFm sl at0 ln nw) lc) (zBW (dC, dI) vwCl (fun u : zMt => WM cA cZ cJ a u.1 u.2.1 u.2.2.1 u.2.2.2)) (AM a)) ([.ref (a 17)] : List Value).toArray s 0 0 (AM a)) (F0 zm 64 ls []) := by
    intro k0
    induction k0 with
    | zero => intro w h1 F13 H locs ls q1 q2; omega
    | succ k0 ih =>
      intro w h1 F13 H locs ls hk0 hw hRel hNz hP hS hl
      have inner : ∀ (m : Nat) (un : Int) (s1 : Int × (Nat → Int)) (h1 : Nat → Int64) (H : Heap) (locs : List Loc) (ls : Array Slot), w < nw → m ≤ ln w → zWk B sl (fun p => (t p : Int) - 48) (at0 w) m un s1 = (zWs B sl (fun p => (t p : Int) - 48) sg at0 ln (w + 1)) → zRelL h1 s1.2 lc → va_P (dC, dI) vwCl (WM cA cZ cJ a (upd f 8 (zB ((decide (nw = 0) || decide (B < lc)) || (bar && zZf sl t at0 ln w)))) (sA g 13 F13) h1 (Int64.ofInt s1.1)) H → va_S (AM a) s.heap H locs → lv_has ls 6 [(0, .ref (a 17)), (1, .int (nI w)), (2, .long (Int64.ofInt un)), (4, .int (nI (at0 w + m) - nI 1))] → W zp l ze (headSpec wsM_weigh ({ frames := 1, cells := 0, slots := 0, locals := 22 })).room s zm ([.ref (a 17)] : List Value).toArray below meth zc H locs 0 0 (MQ below (va_Qv (fun (s : zMt) => ∃ F13 h1, s = (upd f 8 (zB ((decide (nw = 0) || decide (B < lc)) || (bar && zZf sl t at0 ln nw))), sA g 13 F13, h1, Int64.ofInt (zWs B sl (fun p => (t p : Int) - 48) sg at0 ln nw).1) ∧ zRelL h1 (zWs B sl (fun p => (t p : Int) - 48) sg at0 ln nw).2 lc ∧ zNz bar F13 (zFm sl at0 ln nw) lc) (zBW (dC, dI) vwCl (fun u : zMt => WM cA cZ cJ a u.1 u.2.1 u.2.2.1 u.2.2.2)) (AM a)) ([.ref (a 17)] : List Value).toArray s 0 0 (AM a)) (F0 zm 121 ls []) := by
        intro m
        induction m with
        | zero =>
          intro un s1 h1 H locs ls hwn hm hR hRel hP hS hl
          have hb2 := hle w hwn
          have hb3 := hln8 w hwn
          have hpl := hsl w hwn (at0 w) (Nat.le_refl _) (by omega)
          have hR : s1 = (zWs B sl (fun p => (t p : Int) - 48) sg at0 ln (w + 1)) := hR
          subst hR
          refine lv_iload hx hb dM_weigh_121 (lv_at hl 3 rfl) ?_
          refine lv_aload_n hx hb dM_weigh_123 rfl (lv_at hl 0 rfl) ?_
          refine mgr_wordAt hx hb hz hi_M hown hK hP (hz _ q_467) dM_weigh_124 ?_
          refine lv_iload_n hx hb dM_weigh_127 rfl (lv_at hl 1 rfl) ?_
          refine zald (v := nI (at0 w)) hx hb hK hP 2 0 rfl rfl w rfl (by omega) (by decide) (hat w (by omega)) dM_weigh_128 ?_
          refine lv_icmp_lt (tgt := 201) hx hb dM_weigh_129 (by decide) (fun c_129 => ?_) (fun c_129 => ?_)
          · refine lv_aload_n hx hb dM_weigh_201 rfl (lv_at hl 0 rfl) ?_
            refine lv_aload_n hx hb dM_weigh_202 rfl (lv_at hl 0 rfl) ?_
            refine mgr_text hx hb hz hi_M hown hK hP (hz _ q_462) dM_weigh_203 ?_
            refine lv_aload_n hx hb dM_weigh_206 rfl (lv_at hl 0 rfl) ?_
            refine mgr_wordAt hx hb hz hi_M hown hK hP (hz _ q_467) dM_weigh_207 ?_
            refine lv_iload_n hx hb dM_weigh_210 rfl (lv_at hl 1 rfl) ?_
            refine zald (v := nI (at0 w)) hx hb hK hP 2 0 rfl rfl w rfl (by omega) (by decide) (hat w (by omega)) dM_weigh_211 ?_
            refine zald (v := g 1 (at0 w)) hx hb hK hP 1 0 rfl rfl (at0 w) rfl (by omega) (by decide) rfl dM_weigh_212 ?_
            refine zq_e (zrV (rest := []) ⟨hx, hb, hml, hown, hz⟩ (c_M_indexOf l dC dI cA cZ cJ a (upd f 8 (zB ((decide (nw = 0) || decide (B < lc)) || (bar && zZf sl t at0 ln w)))) (sA g 13 F13) h1 (Int64.ofInt (zWs B sl (fun p => (t p : Int) - 48) sg at0 ln (w + 1)).1) (g 1 (at0 w)) lc hlc h5) ⟨zcB 1 hz q_589 q_9 q_592 (by decide +kernel) rfl rfl ⟨Nat.le_of_ble_eq_true rfl, Nat.le_of_ble_eq_true rfl⟩, hz _ q_591, hz _ qs_25⟩ hK hN hP 17 6 rfl rfl rfl rfl hl.1 rfl (Nat.le_of_ble_eq_true rfl) dM_weigh_213 ⟨Nat.zero_le _, Nat.zero_le _⟩) ?_
            refine lv_istore (lv' := [(4, .int (zIx (g 6) (g 1 (at0 w)) lc 0)), (0, .ref (a 17)), (1, .int (nI w)), (2, .long (Int64.ofInt un))]) hx hb dM_weigh_216 hl (by decide) rfl (fun ls hl => ?_)
            refine lv_aload_n hx hb dM_weigh_218 rfl (lv_at hl 1 rfl) ?_
            refine mgf_7 (v := zB bar) hx hb hz hi_M hown hK hP (hz _ q_472) h7 dM_weigh_219 ?_
            refine lv_if_eq (tgt := 273) hx hb dM_weigh_222 (by decide) (fun c_222 => ?_) (fun c_222 => ?_)
            · have c_222 : bar = false := zB_eq0.mp c_222
              refine lv_iinc (v := nI (w + 1)) (lv' := [(1, .int (nI (w + 1))), (4, .int (zIx (g 6) (g 1 (at0 w)) lc 0)), (0, .ref (a 17)), (2, .long (Int64.ofInt un))]) hx hb dM_weigh_273 hl (k := 2) rfl (nI_1 _) (by decide) rfl (fun ls hl => ?_)
              refine lv_goto (tgt := 64) hx hb dM_weigh_276 (by decide) ?_
              exact ih (w + 1) h1 _ H locs ls (by omega) (by omega) hRel (zNz_f c_222 hNz) (by rw [zImp_up (b := (decide (nw = 0) || decide (B < lc)) || (bar && zZf sl t at0 ln (w + 1))) (b2 := (decide (nw = 0) || decide (B < lc)) || (bar && zZf sl t at0 ln w)) (by rw [c_222, Bool.false_and, Bool.false_and])]; exact hP) hS (lv_sub hl [2, 0] rfl)
            · have c_222 : bar = true := zB_n0 c_222
              refine lv_aload_n hx hb dM_weigh_225 rfl (lv_at hl 1 rfl) ?_
              refine mgr_wordLong hx hb hz hi_M hown hK hP (hz _ q_468) dM_weigh_226 ?_
              refine lv_iload_n hx hb dM_weigh_229 rfl (lv_at hl 2 rfl) ?_
              refine zald (v := nI (ln w)) hx hb hK hP 3 0 rfl rfl w rfl (by omega) (by decide) (hln w (by omega)) dM_weigh_230 ?_
              refine lv_iconst (v := nI 1) hx hb dM_weigh_231 (by decide) ?_
              refine lv_icmp_le (tgt := 273) hx hb dM_weigh_232 (by decide) (fun c_232 => ?_) (fun c_232 => ?_)
              · have c_232 : ¬ 1 < ln w := Nat.not_lt.mpr ((nI_leI (a := ln w) (b := 1) (by omega) (by omega)).mp c_232)
                refine lv_iinc (v := nI (w + 1)) (lv' := [(1, .int (nI (w + 1))), (4, .int (zIx (g 6) (g 1 (at0 w)) lc 0)), (0, .ref (a 17)), (2, .long (Int64.ofInt un))]) hx hb dM_weigh_273 hl (k := 2) rfl (nI_1 _) (by decide) rfl (fun ls hl => ?_)
                refine lv_goto (tgt := 64) hx hb dM_weigh_276 (by decide) ?_
                exact ih (w + 1) h1 _ H locs ls (by omega) (by omega) hRel (by rw [show zFm sl at0 ln (w + 1) = zFm sl at0 ln w from if_neg c_232]; exact hNz) (by rw [zImp_up (b := (decide (nw = 0) || decide (B < lc)) || (bar && zZf sl t at0 ln (w + 1))) (b2 := (decide (nw = 0) || decide (B < lc)) || (bar && zZf sl t at0 ln w)) (by rw [show zZf sl t at0 ln (w + 1) = zZf sl t at0 ln w by simp [zZf, c_232]])]; exact hP) hS (lv_sub hl [2, 0] rfl)
              · have c_232 : 1 < ln w := Nat.not_le.mp (mt (nI_leI (a := ln w) (b := 1) (by omega) (by omega)).mpr c_232)
                refine lv_iload hx hb dM_weigh_235 (lv_at hl 0 rfl) ?_
                refine lv_iconst (v := (-1)) hx hb dM_weigh_237 (by decide) ?_
                refine lv_icmp_eq (tgt := 252) hx hb dM_weigh_238 (by decide) (fun c_238 => ?_) (fun c_238 => ?_)
                · have c_238 : sl (at0 w) = none := by
                    rcases hpl.2.2 with q | ⟨l, q1, _, q3⟩
                    · exact q.1
                    · rw [q3] at c_238; exact absurd c_238 (nI_nem1 (by omega))
                  refine lv_aload_n hx hb dM_weigh_252 rfl (lv_at hl 1 rfl) ?_
                  refine mgr_text hx hb hz hi_M hown hK hP (hz _ q_462) dM_weigh_253 ?_
                  refine lv_aload_n hx hb dM_weigh_256 rfl (lv_at hl 1 rfl) ?_
                  refine mgr_wordAt hx hb hz hi_M hown hK hP (hz _ q_467) dM_weigh_257 ?_
                  refine lv_iload_n hx hb dM_weigh_260 rfl (lv_at hl 2 rfl) ?_
                  refine zald (v := nI (at0 w)) hx hb hK hP 2 0 rfl rfl w rfl (by omega) (by decide) (hat w (by omega)) dM_weigh_261 ?_
                  refine zald (v := nI (t (at0 w))) hx hb hK hP 1 0 rfl rfl (at0 w) rfl (by omega) (by decide) hpl.1 dM_weigh_262 ?_
                  refine lv_bipush (v := nI 48) hx hb dM_weigh_263 (by decide) ?_
                  refine lv_icmp_ne (tgt := 273) hx hb dM_weigh_265 (by decide) (fun c_265 => ?_) (fun c_265 => ?_)
                  · have c_265 := mt (nI_eq (a := t (at0 w)) (b := 48) (by have := hpl.2.1; omega) (by omega)).mpr c_265
                    refine lv_iinc (v := nI (w + 1)) (lv' := [(1, .int (nI (w + 1))), (4, .int (zIx (g 6) (g 1 (at0 w)) lc 0)), (0, .ref (a 17)), (2, .long (Int64.ofInt un))]) hx hb dM_weigh_273 hl (k := 2) rfl (nI_1 _) (by decide) rfl (fun ls hl => ?_)
                    refine lv_goto (tgt := 64) hx hb dM_weigh_276 (by decide) ?_
                    exact ih (w + 1) h1 _ H locs ls (by omega) (by omega) hRel (by rw [show zFm sl at0 ln (w + 1) = zFm sl at0 ln w by simp only [zFm]; rw [if_pos c_232, c_238]]; exact hNz) (by rw [zImp_up (b := (decide (nw = 0) || decide (B < lc)) || (bar && zZf sl t at0 ln (w + 1))) (b2 := (decide (nw = 0) || decide (B < lc)) || (bar && zZf sl t at0 ln w)) (by rw [show zZf sl t at0 ln (w + 1) = zZf sl t at0 ln w by simp [zZf, c_265]])]; exact hP) hS (lv_sub hl [2, 0] rfl)
                  · have c_265 := (nI_eq (a := t (at0 w)) (b := 48) (by have := hpl.2.1; omega) (by omega)).mp c_265
                    refine lv_aload_n hx hb dM_weigh_268 rfl (lv_at hl 1 rfl) ?_
                    refine lv_iconst (v := nI 1) hx hb dM_weigh_269 (by decide) ?_
                    refine mpf_8 hx hb hz hi_M hown hK hP (hD _ _ _ _) hS (hz _ q_481) (by decide) (by decide) dM_weigh_270 (fun H locs hP hS => ?_)
                    refine lv_iinc (v := nI (w + 1)) (lv' := [(1, .int (nI (w + 1))), (4, .int (zIx (g 6) (g 1 (at0 w)) lc 0)), (0, .ref (a 17)), (2, .long (Int64.ofInt un))]) hx hb dM_weigh_273 hl (k := 2) rfl (nI_1 _) (by decide) rfl (fun ls hl => ?_)
                    refine lv_goto (tgt := 64) hx hb dM_weigh_276 (by decide) ?_
                    exact ih (w + 1) h1 _ H locs ls (by omega) (by omega) hRel (by rw [show zFm sl at0 ln (w + 1) = zFm sl at0 ln w by simp only [zFm]; rw [if_pos c_232, c_238]]; exact hNz) (by rw [show upd f 8 (zB ((decide (nw = 0) || decide (B < lc)) || (bar && zZf sl t at0 ln (w + 1)))) = upd f 8 (zB true) from zImp_up (by rw [c_222, show zZf sl t at0 ln (w + 1) = true by simp [zZf, c_232, c_238, c_265]]; simp)]; rw [← upd_upd f 8 (zB ((decide (nw = 0) || decide (B < lc)) || (bar && zZf sl t at0 ln w))) _]; exact hP) hS (lv_sub hl [2, 0] rfl)
                · obtain ⟨l, hl8, c_238, hsv⟩ : ∃ l, l < lc ∧ sl (at0 w) = some l ∧ zIx (g 6) (g 1 (at0 w)) lc 0 = nI l := hpl.2.2.resolve_left (fun q => c_238 q.2)
                  refine lv_aload_n hx hb dM_weigh_241 rfl (lv_at hl 1 rfl) ?_
                  refine mgr_notZero hx hb hz hi_M hown hK hP (hz _ q_479) dM_weigh_242 ?_
                  refine lv_iload hx hb dM_weigh_245 (lv_at hl 0 rfl) ?_
                  refine lv_iconst (v := nI 1) hx hb dM_weigh_247 (by decide) ?_
                  refine zbst (wd' := WM cA cZ cJ a (upd f 8 (zB ((decide (nw = 0) || decide (B < lc)) || (bar && zZf sl t at0 ln w)))) (updA (sA g 13 F13) 13 l (nI 1)) h1 (Int64.ofInt (zWs B sl (fun p => (t p : Int) - 48) sg at0 ln (w + 1)).1)) hx hb hK hP (hD _ _ _ _) hS 13 1 rfl rfl l hsv (by omega) (by decide) (by decide) rfl dM_weigh_248 (fun H locs hP hS => ?_)
                  refine lv_goto (tgt := 273) hx hb dM_weigh_249 (by decide) ?_
                  refine lv_iinc (v := nI (w + 1)) (lv' := [(1, .int (nI (w + 1))), (4, .int (zIx (g 6) (g 1 (at0 w)) lc 0)), (0, .ref (a 17)), (2, .long (Int64.ofInt un))]) hx hb dM_weigh_273 hl (k := 2) rfl (nI_1 _) (by decide) rfl (fun ls hl => ?_)
                  refine lv_goto (tgt := 64) hx hb dM_weigh_276 (by decide) ?_
                  exact ih (w + 1) h1 _ H locs ls (by omega) (by omega) hRel (by rw [show zFm sl at0 ln (w + 1) = zFm sl at0 ln w ||| 2 ^ l by simp only [zFm]; rw [if_pos c_232, c_238]]; exact zNz_up c_222 hNz) (by rw [zImp_up (b := (decide (nw = 0) || decide (B < lc)) || (bar && zZf sl t at0 ln (w + 1))) (b2 := (decide (nw = 0) || decide (B < lc)) || (bar && zZf sl t at0 ln w)) (by rw [show zZf sl t at0 ln (w + 1) = zZf sl t at0 ln w by simp [zZf, c_238]])]; rw [← sA_sA g 13 F13 _]; exact hP) hS (lv_sub hl [2, 0] rfl)
          · exact absurd (zLow0 (by omega)) c_129
        | succ m ih2 =>
          intro un s1 h1 H locs ls hwn hm hR hRel hP hS hl
          have hb2 := hle w hwn
          have hb3 := hln8 w hwn
          rw [zPr2 (at0 w) m] at hl
          have hpl := hsl w hwn (at0 w + m) (by omega) (by omega)
          refine lv_iload hx hb dM_weigh_121 (lv_at hl 3 rfl) ?_
          refine lv_aload_n hx hb dM_weigh_123 rfl (lv_at hl 0 rfl) ?_
          refine mgr_wordAt hx hb hz hi_M hown hK hP (hz _ q_467) dM_weigh_124 ?_
          refine lv_iload_n hx hb dM_weigh_127 rfl (lv_at hl 1 rfl) ?_
          refine zald (v := nI (at0 w)) hx hb hK hP 2 0 rfl rfl w rfl (by omega) (by decide) (hat w (by omega)) dM_weigh_128 ?_
          refine lv_icmp_lt (tgt := 201) hx hb dM_weigh_129 (by decide) (fun c_129 => ?_) (fun c_129 => ?_)
          · exact absurd c_129 (nI_nlt (by omega) (by omega))
          · refine lv_aload_n hx hb dM_weigh_132 rfl (lv_at hl 0 rfl) ?_
            refine lv_aload_n hx hb dM_weigh_133 rfl (lv_at hl 0 rfl) ?_
            refine mgr_text hx hb hz hi_M hown hK hP (hz _ q_462) dM_weigh_134 ?_
            refine lv_iload hx hb dM_weigh_137 (lv_at hl 3 rfl) ?_
            refine zald (v := g 1 (at0 w + m)) hx hb hK hP 1 0 rfl rfl (at0 w + m) rfl (by omega) (by decide) rfl dM_weigh_139 ?_
            refine zq_e (zrV (rest := []) ⟨hx, hb, hml, hown, hz⟩ (c_M_indexOf l dC dI cA cZ cJ a (upd f 8 (zB ((decide (nw = 0) || decide (B < lc)) || (bar && zZf sl t at0 ln w)))) (sA g 13 F13) h1 (Int64.ofInt s1.1) (g 1 (at0 w + m)) lc hlc h5) ⟨zcB 1 hz q_589 q_9 q_592 (by decide +kernel) rfl rfl ⟨Nat.le_of_ble_eq_true rfl, Nat.le_of_ble_eq_true rfl⟩, hz _ q_591, hz _ qs_25⟩ hK hN hP 17 6 rfl rfl rfl rfl hl.1 rfl (Nat.le_of_ble_eq_true rfl) dM_weigh_140 ⟨Nat.zero_le _, Nat.zero_le _⟩) ?_
            refine lv_istore (lv' := [(5, .int (zIx (g 6) (g 1 (at0 w + m)) lc 0)), (0, .ref (a 17)), (1, .int (nI w)), (2, .long (Int64.ofInt un)), (4, .int (nI (at0 w + m)))]) hx hb dM_weigh_143 hl (by decide) rfl (fun ls hl => ?_)
            refine lv_iload hx hb dM_weigh_145 (lv_at hl 0 rfl) ?_
            refine lv_iconst (v := (-1)) hx hb dM_weigh_147 (by decide) ?_
            refine lv_icmp_ne (tgt := 176) hx hb dM_weigh_148 (by decide) (fun c_148 => ?_) (fun c_148 => ?_)
            · obtain ⟨l, hl8, c_148, hsv⟩ : ∃ l, l < lc ∧ sl (at0 w + m) = some l ∧ zIx (g 6) (g 1 (at0 w + m)) lc 0 = nI l := hpl.2.2.resolve_left (fun q => c_148 q.2)
              refine lv_aload_n hx hb dM_weigh_176 rfl (lv_at hl 1 rfl) ?_
              refine mgr_counts hx hb hz hi_M hown hK hP (hz _ q_478) dM_weigh_177 ?_
              refine lv_iload hx hb dM_weigh_180 (lv_at hl 0 rfl) ?_
              refine lv_dup2_11 hx hb dM_weigh_182 rfl rfl ?_
              refine zlld (v := h1 l) hx hb hK hP 12 2 rfl rfl l hsv (by omega) (by decide) rfl dM_weigh_183 ?_
              refine lv_lload_n hx hb dM_weigh_184 rfl (lv_at hl 3 rfl) ?_
              refine lv_ladd hx hb dM_weigh_185 ?_
              refine ztl (y := Int64.ofInt (s1.2 l + un)) (by rw [hRel l hl8, Int64.ofInt_add]) ?_
              refine zlst (wd' := WM cA cZ cJ a (upd f 8 (zB ((decide (nw = 0) || decide (B < lc)) || (bar && zZf sl t at0 ln w)))) (sA g 13 F13) (vp_updL h1 l (Int64.ofInt (s1.2 l + un))) (Int64.ofInt s1.1)) hx hb hK hP (hD _ _ _ _) hS 12 2 rfl rfl l hsv (by omega) (by decide) rfl dM_weigh_186 (fun H locs hP hS => ?_)
              refine lv_lload_n hx hb dM_weigh_187 rfl (lv_at hl 3 rfl) ?_
              refine lv_aload_n hx hb dM_weigh_188 rfl (lv_at hl 1 rfl) ?_
              refine mgf_0 (v := nI B) hx hb hz hi_M hown hK hP (hz _ q_458) h0 dM_weigh_189 ?_
              refine lv_i2l (v := (nI B).toInt64) hx hb dM_weigh_192 rfl ?_
              refine lv_lmul hx hb dM_weigh_193 ?_
              refine ztl (y := Int64.ofInt (un * B)) (zMulBL hB) ?_
              refine lv_lstore_n (lv' := [(2, .long (Int64.ofInt (un * B))), (5, .int (zIx (g 6) (g 1 (at0 w + m)) lc 0)), (0, .ref (a 17)), (1, .int (nI w)), (4, .int (nI (at0 w + m)))]) hx hb dM_weigh_194 rfl hl (by decide) rfl (fun ls hl => ?_)
              refine lv_iinc (v := nI (at0 w + m) - nI 1) (lv' := [(4, .int (nI (at0 w + m) - nI 1)), (2, .long (Int64.ofInt (un * B))), (5, .int (zIx (g 6) (g 1 (at0 w + m)) lc 0)), (0, .ref (a 17)), (1, .int (nI w))]) hx hb dM_weigh_195 hl (k := 4) rfl (zM1 _) (by decide) rfl (fun ls hl => ?_)
              refine lv_goto (tgt := 121) hx hb dM_weigh_198 (by decide) ?_
              exact ih2 (un * B) (s1.1, zUp s1.2 l (s1.2 l + un)) (vp_updL h1 l (Int64.ofInt (s1.2 l + un))) H locs ls hwn (by omega) (by rw [← hR]; show _ = zWk B sl _ (at0 w) m _ _; rw [zW1_some c_148]) (zRelL_up hRel) hP hS (lv_sub hl [3, 4, 1, 0] rfl)
            · have c_148 : sl (at0 w + m) = none := by
                rcases hpl.2.2 with q | ⟨l, q1, _, q3⟩
                · exact q.1
                · rw [q3] at c_148; exact absurd c_148 (nI_nem1 (by omega))
              refine lv_aload_n hx hb dM_weigh_151 rfl (lv_at hl 1 rfl) ?_
              refine lv_dup hx hb dM_weigh_152 rfl ?_
              refine mgr_rest hx hb hz hi_M hown hK hP (hz _ q_480) dM_weigh_153 ?_
              refine lv_lload_n hx hb dM_weigh_156 rfl (lv_at hl 3 rfl) ?_
              refine lv_aload_n hx hb dM_weigh_157 rfl (lv_at hl 1 rfl) ?_
              refine mgr_text hx hb hz hi_M hown hK hP (hz _ q_462) dM_weigh_158 ?_
              refine lv_iload hx hb dM_weigh_161 (lv_at hl 4 rfl) ?_
              refine zald (v := nI (t (at0 w + m))) hx hb hK hP 1 0 rfl rfl (at0 w + m) rfl (by omega) (by decide) hpl.1 dM_weigh_163 ?_
              refine lv_bipush (v := nI 48) hx hb dM_weigh_164 (by decide) ?_
              refine lv_isub hx hb dM_weigh_166 ?_
              refine lv_i2l (v := ((nI (t (at0 w + m))) - (nI 48)).toInt64) hx hb dM_weigh_167 rfl ?_
              refine lv_lmul hx hb dM_weigh_168 ?_
              refine lv_ladd hx hb dM_weigh_169 ?_
              refine ztl (y := Int64.ofInt (s1.1 + un * ((t (at0 w + m) : Int) - 48))) (zAccL hpl.2.1) ?_
              refine mpr_rest hx hb hz hi_M hown hK hP (hD _ _ _ _) hS (hz _ q_480) dM_weigh_170 (fun H locs hP hS => ?_)
              refine lv_goto (tgt := 187) hx hb dM_weigh_173 (by decide) ?_
              refine lv_lload_n hx hb dM_weigh_187 rfl (lv_at hl 3 rfl) ?_
              refine lv_aload_n hx hb dM_weigh_188 rfl (lv_at hl 1 rfl) ?_
              refine mgf_0 (v := nI B) hx hb hz hi_M hown hK hP (hz _ q_458) h0 dM_weigh_189 ?_
              refine lv_i2l (v := (nI B).toInt64) hx hb dM_weigh_192 rfl ?_
              refine lv_lmul hx hb dM_weigh_193 ?_
              refine ztl (y := Int64.ofInt (un * B)) (zMulBL hB) ?_
              refine lv_lstore_n (lv' := [(2, .long (Int64.ofInt (un * B))), (5, .int (zIx (g 6) (g 1 (at0 w + m)) lc 0)), (0, .ref (a 17)), (1, .int (nI w)), (4, .int (nI (at0 w + m)))]) hx hb dM_weigh_194 rfl hl (by decide) rfl (fun ls hl => ?_)
              refine lv_iinc (v := nI (at0 w + m) - nI 1) (lv' := [(4, .int (nI (at0 w + m) - nI 1)), (2, .long (Int64.ofInt (un * B))), (5, .int (zIx (g 6) (g 1 (at0 w + m)) lc 0)), (0, .ref (a 17)), (1, .int (nI w))]) hx hb dM_weigh_195 hl (k := 4) rfl (zM1 _) (by decide) rfl (fun ls hl => ?_)
              refine lv_goto (tgt := 121) hx hb dM_weigh_198 (by decide) ?_
              exact ih2 (un * B) (s1.1 + un * ((t (at0 w + m) : Int) - 48), s1.2) h1 H locs ls hwn (by omega) (by rw [← hR]; show _ = zWk B sl _ (at0 w) m _ _; rw [zW1_none c_148]) hRel hP hS (lv_sub hl [3, 4, 1, 0] rfl)
      refine lv_iload_n hx hb dM_weigh_64 rfl (lv_at hl 1 rfl) ?_
      refine lv_aload_n hx hb dM_weigh_65 rfl (lv_at hl 0 rfl) ?_
      refine mgf_4 (v := nI nw) hx hb hz hi_M hown hK hP (hz _ q_464) h4 dM_weigh_66 ?_
      refine lv_icmp_ge (tgt := 279) hx hb dM_weigh_69 (by decide) (fun c_69 => ?_) (fun c_69 => ?_)
      · have c_69 := (nI_leI (a := nw) (b := w) (by omega) (by omega)).mp c_69
        exact W.vret hx hb hr (fun zT zh _ => ⟨⟨(upd f 8 (zB ((decide (nw = 0) || decide (B < lc)) || (bar && zZf sl t at0 ln w))), sA g 13 F13, h1, Int64.ofInt (zWs B sl (fun p => (t p : Int) - 48) sg at0 ln w).1), rfl, (by
                have e : w = nw := by omega
                rw [e] at hRel hNz ⊢
                exact ⟨F13, h1, rfl, hRel, hNz⟩), zbw zh hP⟩, hS.F zh⟩) hS.2.2 dM_weigh_279
      · have c_69 := mt (nI_leI (a := nw) (b := w) (by omega) (by omega)).mpr c_69
        refine lv_aload_n hx hb dM_weigh_72 rfl (lv_at hl 0 rfl) ?_
        refine mgr_minus hx hb hz hi_M hown hK hP (hz _ q_469) dM_weigh_73 ?_
        refine lv_iload_n hx hb dM_weigh_76 rfl (lv_at hl 1 rfl) ?_
        refine zbld (v := zB (mi w)) hx hb hK hP 4 1 rfl rfl w rfl (by omega) (by decide) (hmi w (by omega)) dM_weigh_77 ?_
        refine lv_aload_n hx hb dM_weigh_78 rfl (lv_at hl 0 rfl) ?_
        refine mgr_wordSide hx hb hz hi_M hown hK hP (hz _ q_470) dM_weigh_79 ?_
        refine lv_iload_n hx hb dM_weigh_82 rfl (lv_at hl 1 rfl) ?_
        refine zald (v := zB (sd w)) hx hb hK hP 5 0 rfl rfl w rfl (by omega) (by decide) (hsd w (by omega)) dM_weigh_83 ?_
        refine lv_iconst (v := nI 1) hx hb dM_weigh_84 (by decide) ?_
        refine lv_icmp_ne (tgt := 92) hx hb dM_weigh_85 (by decide) (fun c_85 => ?_) (fun c_85 => ?_)
        · have c_85 : sd w = false := by cases q : sd w with | false => rfl | true => rw [q] at c_85; exact absurd rfl c_85
          refine lv_iconst (v := nI 0) hx hb dM_weigh_92 (by decide) ?_
          refine zt (y := zB (sd w)) (by rw [c_85]; rfl) ?_
          refine lv_icmp_eq (tgt := 102) hx hb dM_weigh_93 (by decide) (fun c_93 => ?_) (fun c_93 => ?_)
          · have c_93 : mi w = sd w := zB_inj c_93
            refine lv_lconst (v := lN 1) hx hb dM_weigh_102 (by decide) ?_
            refine ztl (y := Int64.ofInt (sg w)) (by rw [← hsg w (by omega), if_pos c_93.symm]; rfl) ?_
            refine lv_lstore_n (lv' := [(2, .long (Int64.ofInt (sg w))), (0, .ref (a 17)), (1, .int (nI w))]) hx hb dM_weigh_103 rfl hl (by decide) rfl (fun ls hl => ?_)
            refine lv_aload_n hx hb dM_weigh_104 rfl (lv_at hl 1 rfl) ?_
            refine mgr_wordAt hx hb hz hi_M hown hK hP (hz _ q_467) dM_weigh_105 ?_
            refine lv_iload_n hx hb dM_weigh_108 rfl (lv_at hl 2 rfl) ?_
            refine zald (v := nI (at0 w)) hx hb hK hP 2 0 rfl rfl w rfl (by omega) (by decide) (hat w (by omega)) dM_weigh_109 ?_
            refine lv_aload_n hx hb dM_weigh_110 rfl (lv_at hl 1 rfl) ?_
            refine mgr_wordLong hx hb hz hi_M hown hK hP (hz _ q_468) dM_weigh_111 ?_
            refine lv_iload_n hx hb dM_weigh_114 rfl (lv_at hl 2 rfl) ?_
            refine zald (v := nI (ln w)) hx hb hK hP 3 0 rfl rfl w rfl (by omega) (by decide) (hln w (by omega)) dM_weigh_115 ?_
            refine lv_iadd hx hb dM_weigh_116 ?_
            refine zt (nI_add _ _) ?_
            refine lv_iconst (v := nI 1) hx hb dM_weigh_117 (by decide) ?_
            refine lv_isub hx hb dM_weigh_118 ?_
            refine lv_istore (lv' := [(4, .int ((nI ((at0 w) + (ln w))) - (nI 1))), (2, .long (Int64.ofInt (sg w))), (0, .ref (a 17)), (1, .int (nI w))]) hx hb dM_weigh_119 hl (by decide) rfl (fun ls hl => ?_)
            exact inner (ln w) (sg w) (zWs B sl (fun p => (t p : Int) - 48) sg at0 ln w) h1 H locs ls (by omega) (Nat.le_refl _) rfl hRel hP hS (lv_sub hl [2, 3, 1, 0] rfl)
          · have c_93 : ¬ mi w = sd w := fun q => c_93 (by rw [q])
            refine lv_ldc2 hx hb hown (hz _ q_588) dM_weigh_96 ?_
            refine ztl (y := Int64.ofInt (sg w)) (by rw [← hsg w (by omega), if_neg (Ne.symm c_93)]; rfl) ?_
            refine lv_goto (tgt := 103) hx hb dM_weigh_99 (by decide) ?_
            refine lv_lstore_n (lv' := [(2, .long (Int64.ofInt (sg w))), (0, .ref (a 17)), (1, .int (nI w))]) hx hb dM_weigh_103 rfl hl (by decide) rfl (fun ls hl => ?_)
            refine lv_aload_n hx hb dM_weigh_104 rfl (lv_at hl 1 rfl) ?_
            refine mgr_wordAt hx hb hz hi_M hown hK hP (hz _ q_467) dM_weigh_105 ?_
            refine lv_iload_n hx hb dM_weigh_108 rfl (lv_at hl 2 rfl) ?_
            refine zald (v := nI (at0 w)) hx hb hK hP 2 0 rfl rfl w rfl (by omega) (by decide) (hat w (by omega)) dM_weigh_109 ?_
            refine lv_aload_n hx hb dM_weigh_110 rfl (lv_at hl 1 rfl) ?_
            refine mgr_wordLong hx hb hz hi_M hown hK hP (hz _ q_468) dM_weigh_111 ?_
            refine lv_iload_n hx hb dM_weigh_114 rfl (lv_at hl 2 rfl) ?_
            refine zald (v := nI (ln w)) hx hb hK hP 3 0 rfl rfl w rfl (by omega) (by decide) (hln w (by omega)) dM_weigh_115 ?_
            refine lv_iadd hx hb dM_weigh_116 ?_
            refine zt (nI_add _ _) ?_
            refine lv_iconst (v := nI 1) hx hb dM_weigh_117 (by decide) ?_
            refine lv_isub hx hb dM_weigh_118 ?_
            refine lv_istore (lv' := [(4, .int ((nI ((at0 w) + (ln w))) - (nI 1))), (2, .long (Int64.ofInt (sg w))), (0, .ref (a 17)), (1, .int (nI w))]) hx hb dM_weigh_119 hl (by decide) rfl (fun ls hl => ?_)
            exact inner (ln w) (sg w) (zWs B sl (fun p => (t p : Int) - 48) sg at0 ln w) h1 H locs ls (by omega) (Nat.le_refl _) rfl hRel hP hS (lv_sub hl [2, 3, 1, 0] rfl)
        · have c_85 : sd w = true := zB_eq1.mp c_85
          refine lv_iconst (v := nI 1) hx hb dM_weigh_88 (by decide) ?_
          refine zt (y := zB (sd w)) (by rw [c_85]; rfl) ?_
          refine lv_goto (tgt := 93) hx hb dM_weigh_89 (by decide) ?_
          refine lv_icmp_eq (tgt := 102) hx hb dM_weigh_93 (by decide) (fun c_93 => ?_) (fun c_93 => ?_)
          · have c_93 : mi w = sd w := zB_inj c_93
            refine lv_lconst (v := lN 1) hx hb dM_weigh_102 (by decide) ?_
            refine ztl (y := Int64.ofInt (sg w)) (by rw [← hsg w (by omega), if_pos c_93.symm]; rfl) ?_
            refine lv_lstore_n (lv' := [(2, .long (Int64.ofInt (sg w))), (0, .ref (a 17)), (1, .int (nI w))]) hx hb dM_weigh_103 rfl hl (by decide) rfl (fun ls hl => ?_)
            refine lv_aload_n hx hb dM_weigh_104 rfl (lv_at hl 1 rfl) ?_
            refine mgr_wordAt hx hb hz hi_M hown hK hP (hz _ q_467) dM_weigh_105 ?_
            refine lv_iload_n hx hb dM_weigh_108 rfl (lv_at hl 2 rfl) ?_
            refine zald (v := nI (at0 w)) hx hb hK hP 2 0 rfl rfl w rfl (by omega) (by decide) (hat w (by omega)) dM_weigh_109 ?_
            refine lv_aload_n hx hb dM_weigh_110 rfl (lv_at hl 1 rfl) ?_
            refine mgr_wordLong hx hb hz hi_M hown hK hP (hz _ q_468) dM_weigh_111 ?_
            refine lv_iload_n hx hb dM_weigh_114 rfl (lv_at hl 2 rfl) ?_
            refine zald (v := nI (ln w)) hx hb hK hP 3 0 rfl rfl w rfl (by omega) (by decide) (hln w (by omega)) dM_weigh_115 ?_
            refine lv_iadd hx hb dM_weigh_116 ?_
            refine zt (nI_add _ _) ?_
            refine lv_iconst (v := nI 1) hx hb dM_weigh_117 (by decide) ?_
            refine lv_isub hx hb dM_weigh_118 ?_
            refine lv_istore (lv' := [(4, .int ((nI ((at0 w) + (ln w))) - (nI 1))), (2, .long (Int64.ofInt (sg w))), (0, .ref (a 17)), (1, .int (nI w))]) hx hb dM_weigh_119 hl (by decide) rfl (fun ls hl => ?_)
            exact inner (ln w) (sg w) (zWs B sl (fun p => (t p : Int) - 48) sg at0 ln w) h1 H locs ls (by omega) (Nat.le_refl _) rfl hRel hP hS (lv_sub hl [2, 3, 1, 0] rfl)
          · have c_93 : ¬ mi w = sd w := fun q => c_93 (by rw [q])
            refine lv_ldc2 hx hb hown (hz _ q_588) dM_weigh_96 ?_
            refine ztl (y := Int64.ofInt (sg w)) (by rw [← hsg w (by omega), if_neg (Ne.symm c_93)]; rfl) ?_
            refine lv_goto (tgt := 103) hx hb dM_weigh_99 (by decide) ?_
            refine lv_lstore_n (lv' := [(2, .long (Int64.ofInt (sg w))), (0, .ref (a 17)), (1, .int (nI w))]) hx hb dM_weigh_103 rfl hl (by decide) rfl (fun ls hl => ?_)
            refine lv_aload_n hx hb dM_weigh_104 rfl (lv_at hl 1 rfl) ?_
            refine mgr_wordAt hx hb hz hi_M hown hK hP (hz _ q_467) dM_weigh_105 ?_
            refine lv_iload_n hx hb dM_weigh_108 rfl (lv_at hl 2 rfl) ?_
            refine zald (v := nI (at0 w)) hx hb hK hP 2 0 rfl rfl w rfl (by omega) (by decide) (hat w (by omega)) dM_weigh_109 ?_
            refine lv_aload_n hx hb dM_weigh_110 rfl (lv_at hl 1 rfl) ?_
            refine mgr_wordLong hx hb hz hi_M hown hK hP (hz _ q_468) dM_weigh_111 ?_
            refine lv_iload_n hx hb dM_weigh_114 rfl (lv_at hl 2 rfl) ?_
            refine zald (v := nI (ln w)) hx hb hK hP 3 0 rfl rfl w rfl (by omega) (by decide) (hln w (by omega)) dM_weigh_115 ?_
            refine lv_iadd hx hb dM_weigh_116 ?_
            refine zt (nI_add _ _) ?_
            refine lv_iconst (v := nI 1) hx hb dM_weigh_117 (by decide) ?_
            refine lv_isub hx hb dM_weigh_118 ?_
            refine lv_istore (lv' := [(4, .int ((nI ((at0 w) + (ln w))) - (nI 1))), (2, .long (Int64.ofInt (sg w))), (0, .ref (a 17)), (1, .int (nI w))]) hx hb dM_weigh_119 hl (by decide) rfl (fun ls hl => ?_)
            exact inner (ln w) (sg w) (zWs B sl (fun p => (t p : Int) - 48) sg at0 ln w) h1 H locs ls (by omega) (Nat.le_refl _) rfl hRel hP hS (lv_sub hl [2, 3, 1, 0] rfl)
  have loopA : ∀ (k0 : Nat) (k : Nat) (h1 : Nat → Int64) (F13 : Nat → Int32) (H : Heap) (locs : List Loc) (ls : Array Slot), lc + 1 ≤ k + k0 → k ≤ lc → (∀ j, j < k → h1 j = lN 0) → (∀ j, j < k → F13 j = nI 0) → va_P (dC, dI) vwCl (WM cA cZ cJ a (upd f 8 (zB (decide (nw = 0) || decide (B < lc)))) (sA g 13 F13) h1 (lN 0)) H → va_S (AM a) s.heap H locs → lv_has ls 6 [(0, .ref (a 17)), (1, .int (nI k))] → W zp l ze (headSpec wsM_weigh ({ frames := 1, cells := 0, slots := 0, locals := 22 })).room s zm ([.ref (a 17)] : List Value).toArray below meth zc H locs 0 0 (MQ below (va_Qv (fun (s : zMt) => ∃ F13 h1, s = (upd f 8 (zB ((decide (nw = 0) || decide (B < lc)) || (bar && zZf sl t at0 ln nw))), sA g 13 F13, h1, Int64.ofInt (zWs B sl (fun p => (t p : Int) - 48) sg at0 ln nw).1) ∧ zRelL h1 (zWs B sl (fun p => (t p : Int) - 48) sg at0 ln nw).2 lc ∧ zNz bar F13 (zFm sl at0 ln nw) lc) (zBW (dC, dI) vwCl (fun u : zMt => WM cA cZ cJ a u.1 u.2.1 u.2.2.1 u.2.2.2)) (AM a)) ([.ref (a 17)] : List Value).toArray s 0 0 (AM a)) (F0 zm 34 ls []) := by
    intro k0
    induction k0 with
    | zero => intro k h1 F13 H locs ls q1 q2; omega
    | succ k0 ih =>
      intro k h1 F13 H locs ls hk0 hk hz1 hz2 hP hS hl
      refine lv_iload_n hx hb dM_weigh_34 rfl (lv_at hl 1 rfl) ?_
      refine lv_aload_n hx hb dM_weigh_35 rfl (lv_at hl 0 rfl) ?_
      refine mgf_5 (v := nI lc) hx hb hz hi_M hown hK hP (hz _ q_465) h5 dM_weigh_36 ?_
      refine lv_icmp_ge (tgt := 62) hx hb dM_weigh_39 (by decide) (fun c_39 => ?_) (fun c_39 => ?_)
      · have c_39 := (nI_leI (a := lc) (b := k) (by omega) (by omega)).mp c_39
        refine lv_iconst (v := nI 0) hx hb dM_weigh_62 (by decide) ?_
        refine lv_istore_n (lv' := [(1, .int (nI 0)), (0, .ref (a 17))]) hx hb dM_weigh_63 rfl hl (by decide) rfl (fun ls hl => ?_)
        exact loopB (nw + 1) 0 h1 F13 H locs ls (by omega) (by omega) (fun l hl => by rw [hz1 l (by omega)]; rfl) (fun l hl => by rw [hz2 l (by omega), show zFm sl at0 ln 0 = 0 from rfl, Nat.zero_testBit, Bool.and_false]; rfl) (by rw [show upd f 8 (zB ((decide (nw = 0) || decide (B < lc)) || (bar && zZf sl t at0 ln 0))) = upd f 8 (zB (decide (nw = 0) || decide (B < lc))) from zImp_up (by rw [show zZf sl t at0 ln 0 = false from rfl, Bool.and_false, Bool.or_false])]; exact hP) hS (lv_sub hl [1, 0] rfl)
      · have c_39 := mt (nI_leI (a := lc) (b := k) (by omega) (by omega)).mpr c_39
        refine lv_aload_n hx hb dM_weigh_42 rfl (lv_at hl 0 rfl) ?_
        refine mgr_counts hx hb hz hi_M hown hK hP (hz _ q_478) dM_weigh_43 ?_
        refine lv_iload_n hx hb dM_weigh_46 rfl (lv_at hl 1 rfl) ?_
        refine lv_lconst (v := lN 0) hx hb dM_weigh_47 (by decide) ?_
        refine zlst (wd' := WM cA cZ cJ a (upd f 8 (zB (decide (nw = 0) || decide (B < lc)))) (sA g 13 F13) (vp_updL h1 k (lN 0)) (lN 0)) hx hb hK hP (hD _ _ _ _) hS 12 2 rfl rfl k rfl (by omega) (by decide) rfl dM_weigh_48 (fun H locs hP hS => ?_)
        refine lv_aload_n hx hb dM_weigh_49 rfl (lv_at hl 0 rfl) ?_
        refine mgr_notZero hx hb hz hi_M hown hK hP (hz _ q_479) dM_weigh_50 ?_
        refine lv_iload_n hx hb dM_weigh_53 rfl (lv_at hl 1 rfl) ?_
        refine lv_iconst (v := nI 0) hx hb dM_weigh_54 (by decide) ?_
        refine zbst (wd' := WM cA cZ cJ a (upd f 8 (zB (decide (nw = 0) || decide (B < lc)))) (updA (sA g 13 F13) 13 k (nI 0)) (vp_updL h1 k (lN 0)) (lN 0)) hx hb hK hP (hD _ _ _ _) hS 13 1 rfl rfl k rfl (by omega) (by decide) (by decide) rfl dM_weigh_55 (fun H locs hP hS => ?_)
        refine lv_iinc (v := nI (k + 1)) (lv' := [(1, .int (nI (k + 1))), (0, .ref (a 17))]) hx hb dM_weigh_56 hl (k := 1) rfl (nI_1 _) (by decide) rfl (fun ls hl => ?_)
        refine lv_goto (tgt := 34) hx hb dM_weigh_59 (by decide) ?_
        exact ih (k + 1) (vp_updL h1 k (lN 0)) (upd F13 k (nI 0)) H locs ls (by omega) (by omega) (fun j hj => by
                unfold vp_updL
                by_cases e : j = k
                · rw [if_pos e]
                · rw [if_neg e]; exact hz1 j (by omega)) (fun j hj => by
                by_cases e : j = k
                · rw [e, pk_us]
                · rw [pk_un e]; exact hz2 j (by omega)) (by rw [← sA_sA g 13 F13 _]; exact hP) hS (lv_sub hl [1, 0] rfl)
  refine lv_aload_n hx hb dM_weigh_0 rfl (lv_at hl 0 rfl) ?_
  refine lv_lconst (v := lN 0) hx hb dM_weigh_1 (by decide) ?_
  refine mpr_rest hx hb hz hi_M hown hK hP (hD _ _ _ _) hS (hz _ q_480) dM_weigh_2 (fun H locs hP hS => ?_)
  refine lv_aload_n hx hb dM_weigh_5 rfl (lv_at hl 0 rfl) ?_
  refine lv_aload_n hx hb dM_weigh_6 rfl (lv_at hl 0 rfl) ?_
  refine mgf_4 (v := nI nw) hx hb hz hi_M hown hK hP (hz _ q_464) h4 dM_weigh_7 ?_
  refine lv_if_eq (tgt := 24) hx hb dM_weigh_10 (by decide) (fun c_10 => ?_) (fun c_10 => ?_)
  · have c_10 := (nI_eq (a := nw) (b := 0) (by omega) (by omega)).mp c_10
    refine lv_iconst (v := nI 1) hx hb dM_weigh_24 (by decide) ?_
    refine zt (y := zB (decide (nw = 0) || decide (B < lc))) (by rw [decide_eq_true c_10, Bool.true_or]; rfl) ?_
    refine lv_goto (tgt := 29) hx hb dM_weigh_25 (by decide) ?_
    refine mpf_8 hx hb hz hi_M hown hK hP (hD _ _ _ _) hS (hz _ q_481) (zB_nar _) (zB_fit _) dM_weigh_29 (fun H locs hP hS => ?_)
    refine lv_iconst (v := nI 0) hx hb dM_weigh_32 (by decide) ?_
    refine lv_istore_n (lv' := [(1, .int (nI 0)), (0, .ref (a 17))]) hx hb dM_weigh_33 rfl hl (by decide) rfl (fun ls hl => ?_)
    exact loopA (lc + 1) 0 h (g 13) _ _ ls (by omega) (by omega) (fun j hj => absurd hj (Nat.not_lt_zero j)) (fun j hj => absurd hj (Nat.not_lt_zero j)) (by rw [sA_self]; exact hP) hS (lv_sub hl [1, 0] rfl)
  · have c_10 := mt (nI_eq (a := nw) (b := 0) (by omega) (by omega)).mpr c_10
    refine lv_aload_n hx hb dM_weigh_13 rfl (lv_at hl 0 rfl) ?_
    refine mgf_5 (v := nI lc) hx hb hz hi_M hown hK hP (hz _ q_465) h5 dM_weigh_14 ?_
    refine lv_aload_n hx hb dM_weigh_17 rfl (lv_at hl 0 rfl) ?_
    refine mgf_0 (v := nI B) hx hb hz hi_M hown hK hP (hz _ q_458) h0 dM_weigh_18 ?_
    refine lv_icmp_le (tgt := 28) hx hb dM_weigh_21 (by decide) (fun c_21 => ?_) (fun c_21 => ?_)
    · have c_21 := (nI_leI (a := lc) (b := B) (by omega) (by omega)).mp c_21
      refine lv_iconst (v := nI 0) hx hb dM_weigh_28 (by decide) ?_
      refine zt (y := zB (decide (nw = 0) || decide (B < lc))) (by rw [decide_eq_false c_10, decide_eq_false (p := B < lc) (by omega)]; rfl) ?_
      refine mpf_8 hx hb hz hi_M hown hK hP (hD _ _ _ _) hS (hz _ q_481) (zB_nar _) (zB_fit _) dM_weigh_29 (fun H locs hP hS => ?_)
      refine lv_iconst (v := nI 0) hx hb dM_weigh_32 (by decide) ?_
      refine lv_istore_n (lv' := [(1, .int (nI 0)), (0, .ref (a 17))]) hx hb dM_weigh_33 rfl hl (by decide) rfl (fun ls hl => ?_)
      exact loopA (lc + 1) 0 h (g 13) _ _ ls (by omega) (by omega) (fun j hj => absurd hj (Nat.not_lt_zero j)) (fun j hj => absurd hj (Nat.not_lt_zero j)) (by rw [sA_self]; exact hP) hS (lv_sub hl [1, 0] rfl)
    · have c_21 := mt (nI_leI (a := lc) (b := B) (by omega) (by omega)).mpr c_21
      refine lv_iconst (v := nI 1) hx hb dM_weigh_24 (by decide) ?_
      refine zt (y := zB (decide (nw = 0) || decide (B < lc))) (by rw [decide_eq_true (p := B < lc) (by omega), Bool.or_true]; rfl) ?_
      refine lv_goto (tgt := 29) hx hb dM_weigh_25 (by decide) ?_
      refine mpf_8 hx hb hz hi_M hown hK hP (hD _ _ _ _) hS (hz _ q_481) (zB_nar _) (zB_fit _) dM_weigh_29 (fun H locs hP hS => ?_)
      refine lv_iconst (v := nI 0) hx hb dM_weigh_32 (by decide) ?_
      refine lv_istore_n (lv' := [(1, .int (nI 0)), (0, .ref (a 17))]) hx hb dM_weigh_33 rfl hl (by decide) rfl (fun ls hl => ?_)
      exact loopA (lc + 1) 0 h (g 13) _ _ ls (by omega) (by omega) (fun j hj => absurd hj (Nat.not_lt_zero j)) (fun j hj => absurd hj (Nat.not_lt_zero j)) (by rw [sA_self]; exact hP) hS (lv_sub hl [1, 0] rfl)
