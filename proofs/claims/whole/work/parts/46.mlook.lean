set_option maxHeartbeats 4000000 in
set_option maxRecDepth 100000 in
theorem c_M_isSign (l : Launch) (dC : Nat → ClassId) (dI : Nat → Nat → Nat) (cA cZ cJ : ClassId) (a : Nat → Nat) (f : Nat → Int32) (g : Nat → Nat → Int32) (h : Nat → Int64) (r : Int64) (B : Nat) (hB : B ≤ 10) (h0 : f 0 = nI B) (u : Nat) (hu : u < 256) : Met l yM_isSign wsM_isSign ({ frames := 1, cells := 0, slots := 0, locals := 20 }) (va_Pc [.ref (a 17), .int (nI u)] (zPW (dC, dI) vwCl [(cA, .int), (cZ, .boolean), (cJ, .long)] (WM cA cZ cJ a f g h r))) (vp_Si (fun r => r = (zB (zIsS B u)))) 0 0 (fun _ => False) := by
  refine Met.ofW (cc := prog_8_method_5_code) (maxL := 2) (ret := (some .boolean)) (by decide) rfl ?_
  intro zp ze s zm args below meth zc s₁ zBL hml hv
  obtain ⟨rfl, hP, hK, hN⟩ := hv
  have hx := zBL.exec
  have hb := zBL.bytes
  have hr := zBL.returns
  have hts := atoms_spec (ws := wsM_isSign) zBL.pre
  have hz : ∀ w ∈ zBig, w.before _ s = true := fun w h => hts w (List.mem_cons_of_mem _ h)
  have hown : s.vm.findClass "LetterSumsModel" = some zm.cls := findClass_of_methodNamed zBL.named
  have hlocks := zBL.notSynchronized
  have hl := lv_entry ([.ref (a 17), .int (nI u)]) (n := 2) (Nat.le_of_ble_eq_true rfl)
  rw [lg_entry_eq]
  generalize (lg_sl ([.ref (a 17), .int (nI u)]) ++ List.replicate (2 - (lg_sl ([.ref (a 17), .int (nI u)])).length) Slot.unset).toArray = ls at hl ⊢
  have hl : lv_has ls 2 [(0, .ref (a 17)), (1, .int (nI u))] := hl
  refine lv_iload_n hx hb dM_isSign_0 rfl (lv_at hl 1 rfl) ?_
  refine zq_e (zrS0 (rest := []) ⟨hx, hb, hml, hown, hz⟩ (c_M_isLetter l  (nI u)) ⟨zcB 1 hz q_561 q_9 q_563 (by decide +kernel) rfl rfl ⟨Nat.le_of_ble_eq_true rfl, Nat.le_of_ble_eq_true rfl⟩, hz _ q_562⟩ rfl hl.1 rfl (Nat.le_of_ble_eq_true rfl) dM_isSign_1 ⟨Nat.zero_le _, Nat.zero_le _⟩) ?_
  refine lv_if_ne (tgt := 24) hx hb dM_isSign_4 (by decide) (fun c_4 => ?_) (fun c_4 => ?_)
  · have c_4 : zLet (nI u) = true := zB_n0 c_4
    refine lv_iconst (v := nI 1) hx hb dM_isSign_24 (by decide) ?_
    refine lv_goto (tgt := 29) hx hb dM_isSign_25 (by decide) ?_
    exact W.zret hx hb hr rfl (fun zT zh _ => ⟨_, rfl, (by unfold zIsS; rw [← zLet_nI (by omega), c_4, Bool.true_or]; rfl), zh⟩) t_nil dM_isSign_29
  · have c_4 : zLet (nI u) = false := zB_eq0.mp c_4
    refine lv_iload_n hx hb dM_isSign_7 rfl (lv_at hl 1 rfl) ?_
    refine lv_bipush (v := nI 48) hx hb dM_isSign_8 (by decide) ?_
    refine lv_icmp_lt (tgt := 28) hx hb dM_isSign_10 (by decide) (fun c_10 => ?_) (fun c_10 => ?_)
    · have c_10 := (nI_ltI (a := u) (b := 48) (by omega) (by omega)).mp c_10
      refine lv_iconst (v := nI 0) hx hb dM_isSign_28 (by decide) ?_
      exact W.zret hx hb hr rfl (fun zT zh _ => ⟨_, rfl, (by unfold zIsS; rw [← zLet_nI (by omega), c_4, decide_eq_false (p := 48 ≤ u) (by omega)]; rfl), zh⟩) t_nil dM_isSign_29
    · have c_10 := mt (nI_ltI (a := u) (b := 48) (by omega) (by omega)).mpr c_10
      refine lv_iload_n hx hb dM_isSign_13 rfl (lv_at hl 1 rfl) ?_
      refine lv_bipush (v := nI 48) hx hb dM_isSign_14 (by decide) ?_
      refine lv_aload_n hx hb dM_isSign_16 rfl (lv_at hl 0 rfl) ?_
      refine mgf_0 (v := nI B) hx hb hz hi_M hown hK hP (hz _ q_458) h0 dM_isSign_17 ?_
      refine lv_iadd hx hb dM_isSign_20 ?_
      refine zt (nI_add _ _) ?_
      refine lv_icmp_ge (tgt := 28) hx hb dM_isSign_21 (by decide) (fun c_21 => ?_) (fun c_21 => ?_)
      · have c_21 := (nI_leI (a := (48 + B)) (b := u) (by omega) (by omega)).mp c_21
        refine lv_iconst (v := nI 0) hx hb dM_isSign_28 (by decide) ?_
        exact W.zret hx hb hr rfl (fun zT zh _ => ⟨_, rfl, (by unfold zIsS; rw [← zLet_nI (by omega), c_4, decide_eq_false (p := u < 48 + B) (by omega), Bool.and_false]; rfl), zh⟩) t_nil dM_isSign_29
      · have c_21 := mt (nI_leI (a := (48 + B)) (b := u) (by omega) (by omega)).mpr c_21
        refine lv_iconst (v := nI 1) hx hb dM_isSign_24 (by decide) ?_
        refine lv_goto (tgt := 29) hx hb dM_isSign_25 (by decide) ?_
        exact W.zret hx hb hr rfl (fun zT zh _ => ⟨_, rfl, (by unfold zIsS; rw [decide_eq_true (p := 48 ≤ u) (by omega), decide_eq_true (p := u < 48 + B) (by omega), Bool.and_self, Bool.or_true]; rfl), zh⟩) t_nil dM_isSign_29

set_option maxHeartbeats 4000000 in
set_option maxRecDepth 100000 in
theorem c_M_look (l : Launch) (dC : Nat → ClassId) (dI : Nat → Nat → Nat) (cA cZ cJ : ClassId) (a : Nat → Nat) (f : Nat → Int32) (g : Nat → Nat → Int32) (h : Nat → Int64) (r : Int64) (hWD : MDist a) (B : Nat) (hB : B ≤ 10) (h0 : f 0 = nI B) (n : Nat) (hn : n ≤ 80) (t : Nat → Nat) (ht : ∀ i, i < n → g 0 i = nI (t i) ∧ t i < 256) : Met l yM_look wsM_look ({ frames := 2, cells := 0, slots := 0, locals := 41 }) (va_Pc [.ref (a 17), .int (nI n)] (zPW (dC, dI) vwCl [(cA, .int), (cZ, .boolean), (cJ, .long)] (WM cA cZ cJ a f g h r))) (va_Qi (fun (z : Int32) (s : zMt) => ∃ f1 g1, s = (f1, g1, h, r) ∧ z = gRun B t n 0 0 0 0 false ∧ (∀ j, j ≠ 9 → f1 j = f j) ∧ (∀ j, j < 7 ∨ 11 < j → g1 j = g j) ∧ (z = -1 → zLE f1 g1 (zR0 t n) (zSn t n 0 0))) (zBW (dC, dI) vwCl (fun u : zMt => WM cA cZ cJ a u.1 u.2.1 u.2.2.1 u.2.2.2)) (AM a)) 0 0 (AM a) := by
  refine Met.ofW (cc := prog_8_method_6_code) (maxL := 8) (ret := (some .int)) (by decide) rfl ?_
  intro zp ze s zm args below meth zc s₁ zBL hml hv
  obtain ⟨rfl, hP, hK, hN⟩ := hv
  have hx := zBL.exec
  have hb := zBL.bytes
  have hr := zBL.returns
  have hts := atoms_spec (ws := wsM_look) zBL.pre
  have hz : ∀ w ∈ zBig, w.before _ s = true := fun w h => hts w (List.mem_cons_of_mem _ h)
  have hown : s.vm.findClass "LetterSumsModel" = some zm.cls := findClass_of_methodNamed zBL.named
  have hlocks := zBL.notSynchronized
  have hD : ∀ f g h r, va_D (AM a) (WM cA cZ cJ a f g h r) := fun f g h r => WM_D hWD f g h r
  have hS : va_S (AM a) s.heap s.heap [] := va_S.rf
  have hl := lv_entry ([.ref (a 17), .int (nI n)]) (n := 8) (Nat.le_of_ble_eq_true rfl)
  rw [lg_entry_eq]
  generalize (lg_sl ([.ref (a 17), .int (nI n)]) ++ List.replicate (8 - (lg_sl ([.ref (a 17), .int (nI n)])).length) Slot.unset).toArray = ls at hl ⊢
  have hl : lv_has ls 8 [(0, .ref (a 17)), (1, .int (nI n))] := hl
  have clr : ∀ (k0 k : Nat) (g1 : Nat → Nat → Int32) (H : Heap) (locs : List Loc) (ls : Array Slot), 27 ≤ k + k0 → k ≤ 26 → (∀ j, j < 11 ∨ 11 < j → g1 j = g j) → (∀ j, j < k → g1 11 j = nI 0) → va_P (dC, dI) vwCl (WM cA cZ cJ a (upd f 9 (nI 0)) g1 h r) H → va_S (AM a) s.heap H locs → lv_has ls 8 [(0, .ref (a 17)), (1, .int (nI n)), (2, .int (nI 0)), (3, .int (nI 0)), (4, .int (nI 1)), (5, .int (nI k))] → (∀ (g1 : Nat → Nat → Int32) (H : Heap) (locs : List Loc) (ls : Array Slot), (∀ j, j < 11 ∨ 11 < j → g1 j = g j) → (∀ j, j < 26 → g1 11 j = nI 0) → va_P (dC, dI) vwCl (WM cA cZ cJ a (upd f 9 (nI 0)) g1 h r) H → va_S (AM a) s.heap H locs → lv_has ls 8 [(0, .ref (a 17)), (1, .int (nI n)), (2, .int (nI 0)), (3, .int (nI 0)), (4, .int (nI 1))] → W zp l ze (headSpec wsM_look ({ frames := 2, cells := 0, slots := 0, locals := 41 })).room s zm ([.ref (a 17), .int (nI n)] : List Value).toArray below meth zc H locs 0 0 (MQ below (va_Qi (fun (z : Int32) (s : zMt) => ∃ f1 g1, s = (f1, g1, h, r) ∧ z = gRun B t n 0 0 0 0 false ∧ (∀ j, j ≠ 9 → f1 j = f j) ∧ (∀ j, j < 7 ∨ 11 < j → g1 j = g j) ∧ (z = -1 → zLE f1 g1 (zR0 t n) (zSn t n 0 0))) (zBW (dC, dI) vwCl (fun u : zMt => WM cA cZ cJ a u.1 u.2.1 u.2.2.1 u.2.2.2)) (AM a)) ([.ref (a 17), .int (nI n)] : List Value).toArray s 0 0 (AM a)) (F0 zm 36 ls [])) → W zp l ze (headSpec wsM_look ({ frames := 2, cells := 0, slots := 0, locals := 41 })).room s zm ([.ref (a 17), .int (nI n)] : List Value).toArray below meth zc H locs 0 0 (MQ below (va_Qi (fun (z : Int32) (s : zMt) => ∃ f1 g1, s = (f1, g1, h, r) ∧ z = gRun B t n 0 0 0 0 false ∧ (∀ j, j ≠ 9 → f1 j = f j) ∧ (∀ j, j < 7 ∨ 11 < j → g1 j = g j) ∧ (z = -1 → zLE f1 g1 (zR0 t n) (zSn t n 0 0))) (zBW (dC, dI) vwCl (fun u : zMt => WM cA cZ cJ a u.1 u.2.1 u.2.2.1 u.2.2.2)) (AM a)) ([.ref (a 17), .int (nI n)] : List Value).toArray s 0 0 (AM a)) (F0 zm 15 ls []) := by
    intro k0
    induction k0 with
    | zero => intro k g1 H locs ls q1 q2; omega
    | succ k0 ih =>
      intro k g1 H locs ls hk0 hk hg1 hz1 hP hS hl kk
      refine lv_iload hx hb dM_look_15 (lv_at hl 5 rfl) ?_
      refine lv_bipush (v := nI 26) hx hb dM_look_17 (by decide) ?_
      refine lv_icmp_ge (tgt := 36) hx hb dM_look_19 (by decide) (fun c_19 => ?_) (fun c_19 => ?_)
      · have c_19 := (nI_leI (a := 26) (b := k) (by omega) (by omega)).mp c_19
        exact kk g1 H locs ls hg1 (fun j hj => hz1 j (by omega)) hP hS (lv_sub hl [0, 1, 2, 3, 4] rfl)
      · have c_19 := mt (nI_leI (a := 26) (b := k) (by omega) (by omega)).mpr c_19
        refine lv_aload_n hx hb dM_look_22 rfl (lv_at hl 0 rfl) ?_
        refine mgr_seen hx hb hz hi_M hown hK hP (hz _ q_477) dM_look_23 ?_
        refine lv_iload hx hb dM_look_26 (lv_at hl 5 rfl) ?_
        refine lv_iconst (v := nI 0) hx hb dM_look_28 (by decide) ?_
        refine zbst (wd' := WM cA cZ cJ a (upd f 9 (nI 0)) (updA g1 11 k (nI 0)) h r) hx hb hK hP (hD _ _ _ _) hS 11 1 rfl rfl k rfl (by omega) (by decide) (by decide) rfl dM_look_29 (fun H locs hP hS => ?_)
        refine lv_iinc (v := nI (k + 1)) (lv' := [(5, .int (nI (k + 1))), (0, .ref (a 17)), (1, .int (nI n)), (2, .int (nI 0)), (3, .int (nI 0)), (4, .int (nI 1))]) hx hb dM_look_30 hl (k := 5) rfl (nI_1 _) (by decide) rfl (fun ls hl => ?_)
        refine lv_goto (tgt := 15) hx hb dM_look_33 (by decide) ?_
        exact ih (k + 1) _ H locs ls (by omega) (by omega) (fun j hj => by rw [updA, sA_o _ _ _ (by omega)]; exact hg1 j hj) (fun j hj => by
                rw [updA, sA_s]
                by_cases e : j = k
                · rw [e, pk_us]
                · rw [pk_un e]; exact hz1 j (by omega)) hP hS (lv_sub hl [1, 2, 3, 4, 5, 0] rfl) kk
  have loop : ∀ (k0 : Nat) (i w sg sn : Nat) (bh : Bool) (f1 : Nat → Int32) (g1 : Nat → Nat → Int32) (at0 ln : Nat → Nat) (mi sd : Nat → Bool) (H : Heap) (locs : List Loc) (ls : Array Slot), n + 1 ≤ i + k0 → i ≤ n → zLR f g f1 g1 w sg sn at0 ln mi sd → gRun B t (n - i) i w sg sn bh = gRun B t n 0 0 0 0 false → zRk t (n - i) i w sg bh at0 ln mi sd = zR0 t n → zSn t (n - i) i sn = zSn t n 0 0 → va_P (dC, dI) vwCl (WM cA cZ cJ a f1 g1 h r) H → va_S (AM a) s.heap H locs → lv_has ls 8 [(0, .ref (a 17)), (1, .int (nI n)), (2, .int (zB bh)), (3, .int (nI (zPc sn))), (4, .int (zB (decide (sg = 0)))), (5, .int (nI i))] → W zp l ze (headSpec wsM_look ({ frames := 2, cells := 0, slots := 0, locals := 41 })).room s zm ([.ref (a 17), .int (nI n)] : List Value).toArray below meth zc H locs 0 0 (MQ below (va_Qi (fun (z : Int32) (s : zMt) => ∃ f1 g1, s = (f1, g1, h, r) ∧ z = gRun B t n 0 0 0 0 false ∧ (∀ j, j ≠ 9 → f1 j = f j) ∧ (∀ j, j < 7 ∨ 11 < j → g1 j = g j) ∧ (z = -1 → zLE f1 g1 (zR0 t n) (zSn t n 0 0))) (zBW (dC, dI) vwCl (fun u : zMt => WM cA cZ cJ a u.1 u.2.1 u.2.2.1 u.2.2.2)) (AM a)) ([.ref (a 17), .int (nI n)] : List Value).toArray s 0 0 (AM a)) (F0 zm 39 ls []) := by
    intro k0
    induction k0 with
    | zero => intro i w sg sn bh f1 g1 at0 ln mi sd H locs ls q1 q2; omega
    | succ k0 ih =>
      intro i w sg sn bh f1 g1 at0 ln mi sd H locs ls hk0 hi hLR hR hR2 hR3 hP hS hl
      have hf9 : f1 9 = nI w := hLR.2.2.1
      have hf0 : f1 0 = nI B := (hLR.1 0 (by decide)).trans h0
      have hg0 : g1 0 = g 0 := hLR.2.1 0 (by omega)
      have hw8 : w ≤ 8 := hLR.2.2.2.2.2.2.1
      have hs8 : sg ≤ 8 := hLR.2.2.2.2.2.2.2.1
      have hsn : sn < 2 ^ 26 := hLR.2.2.2.2.2.2.2.2.1
      have hpc : zPc sn ≤ 8 := hLR.2.2.2.2.2.2.2.2.2
      by_cases hsg : sg = 0
      · rw [decide_eq_true hsg] at hl
        subst hsg
        have t145 : ∀ (sn2 : Nat) (g2 : Nat → Nat → Int32) (H : Heap) (locs : List Loc) (ls : Array Slot), i < n → zSgn (t i) = true → w < 8 → zLR f g f1 g2 w 0 sn2 at0 ln mi sd → gRun B t (n - i) i w 0 sn bh = gRun B t (n - (i + 1)) (i + 1) (if 0 = 0 then w + 1 else w) (0 + 1) sn2 bh → zSn t (n - i) i sn = zSn t (n - (i + 1)) (i + 1) sn2 → va_P (dC, dI) vwCl (WM cA cZ cJ a f1 g2 h r) H → va_S (AM a) s.heap H locs → lv_has ls 8 [(0, .ref (a 17)), (1, .int (nI n)), (2, .int (zB bh)), (3, .int (nI (zPc sn2))), (4, .int (nI 1)), (5, .int (nI i))] → W zp l ze (headSpec wsM_look ({ frames := 2, cells := 0, slots := 0, locals := 41 })).room s zm ([.ref (a 17), .int (nI n)] : List Value).toArray below meth zc H locs 0 0 (MQ below (va_Qi (fun (z : Int32) (s : zMt) => ∃ f1 g1, s = (f1, g1, h, r) ∧ z = gRun B t n 0 0 0 0 false ∧ (∀ j, j ≠ 9 → f1 j = f j) ∧ (∀ j, j < 7 ∨ 11 < j → g1 j = g j) ∧ (z = -1 → zLE f1 g1 (zR0 t n) (zSn t n 0 0))) (zBW (dC, dI) vwCl (fun u : zMt => WM cA cZ cJ a u.1 u.2.1 u.2.2.1 u.2.2.2)) (AM a)) ([.ref (a 17), .int (nI n)] : List Value).toArray s 0 0 (AM a)) (F0 zm 145 ls []) := by
          intro sn2 g2 H locs ls hin hsg1 hlim hLR hst hsn2 hP hS hl
          have hg0 : g2 0 = g 0 := hLR.2.1 0 (by omega)
          refine lv_iload hx hb dM_look_145 (lv_at hl 4 rfl) ?_
          refine lv_if_eq (tgt := 227) hx hb dM_look_147 (by decide) (fun c_147 => ?_) (fun c_147 => ?_)
          · exact absurd c_147 (by decide)
          · refine lv_aload_n hx hb dM_look_150 rfl (lv_at hl 0 rfl) ?_
            refine mgr_newAt hx hb hz hi_M hown hK hP (hz _ q_473) dM_look_151 ?_
            refine lv_aload_n hx hb dM_look_154 rfl (lv_at hl 0 rfl) ?_
            refine mgf_9 (v := nI w) hx hb hz hi_M hown hK hP (hz _ q_485) hf9 dM_look_155 ?_
            refine lv_iload hx hb dM_look_158 (lv_at hl 5 rfl) ?_
            refine zast (wd' := WM cA cZ cJ a f1 (updA g2 7 w (nI i)) h r) hx hb hK hP (hD _ _ _ _) hS 7 0 rfl rfl w rfl (by omega) (by decide) rfl dM_look_160 (fun H locs hP hS => ?_)
            refine lv_aload_n hx hb dM_look_161 rfl (lv_at hl 0 rfl) ?_
            refine mgr_newLong hx hb hz hi_M hown hK hP (hz _ q_474) dM_look_162 ?_
            refine lv_aload_n hx hb dM_look_165 rfl (lv_at hl 0 rfl) ?_
            refine mgf_9 (v := nI w) hx hb hz hi_M hown hK hP (hz _ q_485) hf9 dM_look_166 ?_
            refine lv_iconst (v := nI 0) hx hb dM_look_169 (by decide) ?_
            refine zast (wd' := WM cA cZ cJ a f1 (updA (updA g2 7 w (nI i)) 8 w (nI 0)) h r) hx hb hK hP (hD _ _ _ _) hS 8 0 rfl rfl w rfl (by omega) (by decide) rfl dM_look_170 (fun H locs hP hS => ?_)
            refine lv_aload_n hx hb dM_look_171 rfl (lv_at hl 0 rfl) ?_
            refine mgr_newMinus hx hb hz hi_M hown hK hP (hz _ q_475) dM_look_172 ?_
            refine lv_aload_n hx hb dM_look_175 rfl (lv_at hl 0 rfl) ?_
            refine mgf_9 (v := nI w) hx hb hz hi_M hown hK hP (hz _ q_485) hf9 dM_look_176 ?_
            refine lv_iload hx hb dM_look_179 (lv_at hl 5 rfl) ?_
            refine lv_if_le (tgt := 202) hx hb dM_look_181 (by decide) (fun c_181 => ?_) (fun c_181 => ?_)
            · have c_181 := (nI_leI (a := i) (b := 0) (by omega) (by omega)).mp c_181
              refine lv_iconst (v := nI 0) hx hb dM_look_202 (by decide) ?_
              refine zt (y := zB (zM0 t i)) (by unfold zM0; rw [decide_eq_false (p := 0 < i) (by omega), Bool.false_and]; rfl) ?_
              refine zbst (wd' := WM cA cZ cJ a f1 (updA (updA (updA g2 7 w (nI i)) 8 w (nI 0)) 9 w (zB (zM0 t i))) h r) hx hb hK hP (hD _ _ _ _) hS 9 1 rfl rfl w rfl (by omega) (by decide) (zB_vn _) rfl dM_look_203 (fun H locs hP hS => ?_)
              refine lv_aload_n hx hb dM_look_204 rfl (lv_at hl 0 rfl) ?_
              refine mgr_newSide hx hb hz hi_M hown hK hP (hz _ q_476) dM_look_205 ?_
              refine lv_aload_n hx hb dM_look_208 rfl (lv_at hl 0 rfl) ?_
              refine mgf_9 (v := nI w) hx hb hz hi_M hown hK hP (hz _ q_485) hf9 dM_look_209 ?_
              refine lv_iload_n hx hb dM_look_212 rfl (lv_at hl 2 rfl) ?_
              refine zast (wd' := WM cA cZ cJ a f1 (updA (updA (updA (updA g2 7 w (nI i)) 8 w (nI 0)) 9 w (zB (zM0 t i))) 10 w (zB bh)) h r) hx hb hK hP (hD _ _ _ _) hS 10 0 rfl rfl w rfl (by omega) (by decide) rfl dM_look_213 (fun H locs hP hS => ?_)
              refine lv_aload_n hx hb dM_look_214 rfl (lv_at hl 0 rfl) ?_
              refine lv_dup hx hb dM_look_215 rfl ?_
              refine mgf_9 (v := nI w) hx hb hz hi_M hown hK hP (hz _ q_485) hf9 dM_look_216 ?_
              refine lv_iconst (v := nI 1) hx hb dM_look_219 (by decide) ?_
              refine lv_iadd hx hb dM_look_220 ?_
              refine zt (nI_add _ _) ?_
              refine mpf_9 hx hb hz hi_M hown hK hP (hD _ _ _ _) hS (hz _ q_485) dM_look_221 (fun H locs hP hS => ?_)
              refine lv_iconst (v := nI 0) hx hb dM_look_224 (by decide) ?_
              refine zt (y := zB (decide (1 = 0))) (show _ = zB (decide (1 = 0)) from rfl) ?_
              refine lv_istore (lv' := [(4, .int (zB (decide (1 = 0)))), (0, .ref (a 17)), (1, .int (nI n)), (2, .int (zB bh)), (3, .int (nI (zPc sn2))), (5, .int (nI i))]) hx hb dM_look_225 hl (by decide) rfl (fun ls hl => ?_)
              refine lv_aload_n hx hb dM_look_227 rfl (lv_at hl 1 rfl) ?_
              refine mgr_newLong hx hb hz hi_M hown hK hP (hz _ q_474) dM_look_228 ?_
              refine lv_aload_n hx hb dM_look_231 rfl (lv_at hl 1 rfl) ?_
              refine mgf_9 (v := nI (w + 1)) hx hb hz hi_M hown hK hP (hz _ q_485) rfl dM_look_232 ?_
              refine lv_iconst (v := nI 1) hx hb dM_look_235 (by decide) ?_
              refine lv_isub hx hb dM_look_236 ?_
              refine lv_dup2_11 hx hb dM_look_237 rfl rfl ?_
              refine zald (v := nI 0) hx hb hK hP 8 0 rfl rfl w (zPr w) (by omega) (by decide) (by simp [updA, sA, upd]) dM_look_238 ?_
              refine lv_iconst (v := nI 1) hx hb dM_look_239 (by decide) ?_
              refine lv_iadd hx hb dM_look_240 ?_
              refine zt (nI_add _ _) ?_
              refine zast (wd' := WM cA cZ cJ a (upd f1 9 (nI (w + 1))) (updA (updA (updA (updA (updA g2 7 w (nI i)) 8 w (nI 0)) 9 w (zB (zM0 t i))) 10 w (zB bh)) 8 w (nI (0 + 1))) h r) hx hb hK hP (hD _ _ _ _) hS 8 0 rfl rfl w (zPr w) (by omega) (by decide) rfl dM_look_241 (fun H locs hP hS => ?_)
              refine lv_goto (tgt := 306) hx hb dM_look_242 (by decide) ?_
              refine lv_iinc (v := nI (i + 1)) (lv' := [(5, .int (nI (i + 1))), (4, .int (zB (decide (1 = 0)))), (0, .ref (a 17)), (1, .int (nI n)), (2, .int (zB bh)), (3, .int (nI (zPc sn2)))]) hx hb dM_look_306 hl (k := 5) rfl (nI_1 _) (by decide) rfl (fun ls hl => ?_)
              refine lv_goto (tgt := 39) hx hb dM_look_309 (by decide) ?_
              exact ih (i + 1) (w + 1) 1 sn2 bh _ _ (upN at0 w i) (upN ln w 1) (upN mi w (zM0 t i)) (upN sd w bh) H locs ls (by omega) (by omega) (zLR_new hLR hlim) (by rw [← hR, hst]; rfl) (by rw [← hR2]; exact (zRk_a hin hsg1 rfl).symm) (by rw [← hR3, hsn2]) hP hS (lv_sub hl [2, 3, 4, 5, 1, 0] rfl)
            · have c_181 := mt (nI_leI (a := i) (b := 0) (by omega) (by omega)).mpr c_181
              refine lv_aload_n hx hb dM_look_184 rfl (lv_at hl 0 rfl) ?_
              refine mgr_fed hx hb hz hi_M hown hK hP (hz _ q_459) dM_look_185 ?_
              refine lv_iload hx hb dM_look_188 (lv_at hl 5 rfl) ?_
              refine lv_iconst (v := nI 1) hx hb dM_look_190 (by decide) ?_
              refine lv_isub hx hb dM_look_191 ?_
              refine zald (v := nI (t (i - 1))) hx hb hK hP 0 0 rfl rfl (i - 1) (by rw [pk_sub (by omega)]) (by omega) (by decide) (by simp only [updA, sA]; rw [if_neg (by decide), if_neg (by decide), hg0]; exact (ht (i - 1) (by omega)).1) dM_look_192 ?_
              refine lv_bipush (v := nI 45) hx hb dM_look_193 (by decide) ?_
              refine lv_icmp_ne (tgt := 202) hx hb dM_look_195 (by decide) (fun c_195 => ?_) (fun c_195 => ?_)
              · have c_195 := mt (nI_eq (a := t (i - 1)) (b := 45) (by have := (ht (i - 1) (by omega)).2; omega) (by omega)).mpr c_195
                refine lv_iconst (v := nI 0) hx hb dM_look_202 (by decide) ?_
                refine zt (y := zB (zM0 t i)) (by unfold zM0; rw [decide_eq_false c_195, Bool.and_false]; rfl) ?_
                refine zbst (wd' := WM cA cZ cJ a f1 (updA (updA (updA g2 7 w (nI i)) 8 w (nI 0)) 9 w (zB (zM0 t i))) h r) hx hb hK hP (hD _ _ _ _) hS 9 1 rfl rfl w rfl (by omega) (by decide) (zB_vn _) rfl dM_look_203 (fun H locs hP hS => ?_)
                refine lv_aload_n hx hb dM_look_204 rfl (lv_at hl 0 rfl) ?_
                refine mgr_newSide hx hb hz hi_M hown hK hP (hz _ q_476) dM_look_205 ?_
                refine lv_aload_n hx hb dM_look_208 rfl (lv_at hl 0 rfl) ?_
                refine mgf_9 (v := nI w) hx hb hz hi_M hown hK hP (hz _ q_485) hf9 dM_look_209 ?_
                refine lv_iload_n hx hb dM_look_212 rfl (lv_at hl 2 rfl) ?_
                refine zast (wd' := WM cA cZ cJ a f1 (updA (updA (updA (updA g2 7 w (nI i)) 8 w (nI 0)) 9 w (zB (zM0 t i))) 10 w (zB bh)) h r) hx hb hK hP (hD _ _ _ _) hS 10 0 rfl rfl w rfl (by omega) (by decide) rfl dM_look_213 (fun H locs hP hS => ?_)
                refine lv_aload_n hx hb dM_look_214 rfl (lv_at hl 0 rfl) ?_
                refine lv_dup hx hb dM_look_215 rfl ?_
                refine mgf_9 (v := nI w) hx hb hz hi_M hown hK hP (hz _ q_485) hf9 dM_look_216 ?_
                refine lv_iconst (v := nI 1) hx hb dM_look_219 (by decide) ?_
                refine lv_iadd hx hb dM_look_220 ?_
                refine zt (nI_add _ _) ?_
                refine mpf_9 hx hb hz hi_M hown hK hP (hD _ _ _ _) hS (hz _ q_485) dM_look_221 (fun H locs hP hS => ?_)
                refine lv_iconst (v := nI 0) hx hb dM_look_224 (by decide) ?_
                refine zt (y := zB (decide (1 = 0))) (show _ = zB (decide (1 = 0)) from rfl) ?_
                refine lv_istore (lv' := [(4, .int (zB (decide (1 = 0)))), (0, .ref (a 17)), (1, .int (nI n)), (2, .int (zB bh)), (3, .int (nI (zPc sn2))), (5, .int (nI i))]) hx hb dM_look_225 hl (by decide) rfl (fun ls hl => ?_)
                refine lv_aload_n hx hb dM_look_227 rfl (lv_at hl 1 rfl) ?_
                refine mgr_newLong hx hb hz hi_M hown hK hP (hz _ q_474) dM_look_228 ?_
                refine lv_aload_n hx hb dM_look_231 rfl (lv_at hl 1 rfl) ?_
                refine mgf_9 (v := nI (w + 1)) hx hb hz hi_M hown hK hP (hz _ q_485) rfl dM_look_232 ?_
                refine lv_iconst (v := nI 1) hx hb dM_look_235 (by decide) ?_
                refine lv_isub hx hb dM_look_236 ?_
                refine lv_dup2_11 hx hb dM_look_237 rfl rfl ?_
                refine zald (v := nI 0) hx hb hK hP 8 0 rfl rfl w (zPr w) (by omega) (by decide) (by simp [updA, sA, upd]) dM_look_238 ?_
                refine lv_iconst (v := nI 1) hx hb dM_look_239 (by decide) ?_
                refine lv_iadd hx hb dM_look_240 ?_
                refine zt (nI_add _ _) ?_
                refine zast (wd' := WM cA cZ cJ a (upd f1 9 (nI (w + 1))) (updA (updA (updA (updA (updA g2 7 w (nI i)) 8 w (nI 0)) 9 w (zB (zM0 t i))) 10 w (zB bh)) 8 w (nI (0 + 1))) h r) hx hb hK hP (hD _ _ _ _) hS 8 0 rfl rfl w (zPr w) (by omega) (by decide) rfl dM_look_241 (fun H locs hP hS => ?_)
                refine lv_goto (tgt := 306) hx hb dM_look_242 (by decide) ?_
                refine lv_iinc (v := nI (i + 1)) (lv' := [(5, .int (nI (i + 1))), (4, .int (zB (decide (1 = 0)))), (0, .ref (a 17)), (1, .int (nI n)), (2, .int (zB bh)), (3, .int (nI (zPc sn2)))]) hx hb dM_look_306 hl (k := 5) rfl (nI_1 _) (by decide) rfl (fun ls hl => ?_)
                refine lv_goto (tgt := 39) hx hb dM_look_309 (by decide) ?_
                exact ih (i + 1) (w + 1) 1 sn2 bh _ _ (upN at0 w i) (upN ln w 1) (upN mi w (zM0 t i)) (upN sd w bh) H locs ls (by omega) (by omega) (zLR_new hLR hlim) (by rw [← hR, hst]; rfl) (by rw [← hR2]; exact (zRk_a hin hsg1 rfl).symm) (by rw [← hR3, hsn2]) hP hS (lv_sub hl [2, 3, 4, 5, 1, 0] rfl)
              · have c_195 := (nI_eq (a := t (i - 1)) (b := 45) (by have := (ht (i - 1) (by omega)).2; omega) (by omega)).mp c_195
                refine lv_iconst (v := nI 1) hx hb dM_look_198 (by decide) ?_
                refine zt (y := zB (zM0 t i)) (by unfold zM0; rw [decide_eq_true c_195, decide_eq_true (p := 0 < i) (by omega)]; rfl) ?_
                refine lv_goto (tgt := 203) hx hb dM_look_199 (by decide) ?_
                refine zbst (wd' := WM cA cZ cJ a f1 (updA (updA (updA g2 7 w (nI i)) 8 w (nI 0)) 9 w (zB (zM0 t i))) h r) hx hb hK hP (hD _ _ _ _) hS 9 1 rfl rfl w rfl (by omega) (by decide) (zB_vn _) rfl dM_look_203 (fun H locs hP hS => ?_)
                refine lv_aload_n hx hb dM_look_204 rfl (lv_at hl 0 rfl) ?_
                refine mgr_newSide hx hb hz hi_M hown hK hP (hz _ q_476) dM_look_205 ?_
                refine lv_aload_n hx hb dM_look_208 rfl (lv_at hl 0 rfl) ?_
                refine mgf_9 (v := nI w) hx hb hz hi_M hown hK hP (hz _ q_485) hf9 dM_look_209 ?_
                refine lv_iload_n hx hb dM_look_212 rfl (lv_at hl 2 rfl) ?_
                refine zast (wd' := WM cA cZ cJ a f1 (updA (updA (updA (updA g2 7 w (nI i)) 8 w (nI 0)) 9 w (zB (zM0 t i))) 10 w (zB bh)) h r) hx hb hK hP (hD _ _ _ _) hS 10 0 rfl rfl w rfl (by omega) (by decide) rfl dM_look_213 (fun H locs hP hS => ?_)
                refine lv_aload_n hx hb dM_look_214 rfl (lv_at hl 0 rfl) ?_
                refine lv_dup hx hb dM_look_215 rfl ?_
                refine mgf_9 (v := nI w) hx hb hz hi_M hown hK hP (hz _ q_485) hf9 dM_look_216 ?_
                refine lv_iconst (v := nI 1) hx hb dM_look_219 (by decide) ?_
                refine lv_iadd hx hb dM_look_220 ?_
                refine zt (nI_add _ _) ?_
                refine mpf_9 hx hb hz hi_M hown hK hP (hD _ _ _ _) hS (hz _ q_485) dM_look_221 (fun H locs hP hS => ?_)
                refine lv_iconst (v := nI 0) hx hb dM_look_224 (by decide) ?_
                refine zt (y := zB (decide (1 = 0))) (show _ = zB (decide (1 = 0)) from rfl) ?_
                refine lv_istore (lv' := [(4, .int (zB (decide (1 = 0)))), (0, .ref (a 17)), (1, .int (nI n)), (2, .int (zB bh)), (3, .int (nI (zPc sn2))), (5, .int (nI i))]) hx hb dM_look_225 hl (by decide) rfl (fun ls hl => ?_)
                refine lv_aload_n hx hb dM_look_227 rfl (lv_at hl 1 rfl) ?_
                refine mgr_newLong hx hb hz hi_M hown hK hP (hz _ q_474) dM_look_228 ?_
                refine lv_aload_n hx hb dM_look_231 rfl (lv_at hl 1 rfl) ?_
                refine mgf_9 (v := nI (w + 1)) hx hb hz hi_M hown hK hP (hz _ q_485) rfl dM_look_232 ?_
                refine lv_iconst (v := nI 1) hx hb dM_look_235 (by decide) ?_
                refine lv_isub hx hb dM_look_236 ?_
                refine lv_dup2_11 hx hb dM_look_237 rfl rfl ?_
                refine zald (v := nI 0) hx hb hK hP 8 0 rfl rfl w (zPr w) (by omega) (by decide) (by simp [updA, sA, upd]) dM_look_238 ?_
                refine lv_iconst (v := nI 1) hx hb dM_look_239 (by decide) ?_
                refine lv_iadd hx hb dM_look_240 ?_
                refine zt (nI_add _ _) ?_
                refine zast (wd' := WM cA cZ cJ a (upd f1 9 (nI (w + 1))) (updA (updA (updA (updA (updA g2 7 w (nI i)) 8 w (nI 0)) 9 w (zB (zM0 t i))) 10 w (zB bh)) 8 w (nI (0 + 1))) h r) hx hb hK hP (hD _ _ _ _) hS 8 0 rfl rfl w (zPr w) (by omega) (by decide) rfl dM_look_241 (fun H locs hP hS => ?_)
                refine lv_goto (tgt := 306) hx hb dM_look_242 (by decide) ?_
                refine lv_iinc (v := nI (i + 1)) (lv' := [(5, .int (nI (i + 1))), (4, .int (zB (decide (1 = 0)))), (0, .ref (a 17)), (1, .int (nI n)), (2, .int (zB bh)), (3, .int (nI (zPc sn2)))]) hx hb dM_look_306 hl (k := 5) rfl (nI_1 _) (by decide) rfl (fun ls hl => ?_)
                refine lv_goto (tgt := 39) hx hb dM_look_309 (by decide) ?_
                exact ih (i + 1) (w + 1) 1 sn2 bh _ _ (upN at0 w i) (upN ln w 1) (upN mi w (zM0 t i)) (upN sd w bh) H locs ls (by omega) (by omega) (zLR_new hLR hlim) (by rw [← hR, hst]; rfl) (by rw [← hR2]; exact (zRk_a hin hsg1 rfl).symm) (by rw [← hR3, hsn2]) hP hS (lv_sub hl [2, 3, 4, 5, 1, 0] rfl)
        refine lv_iload hx hb dM_look_39 (lv_at hl 5 rfl) ?_
        refine lv_iload_n hx hb dM_look_41 rfl (lv_at hl 1 rfl) ?_
        refine lv_icmp_ge (tgt := 312) hx hb dM_look_42 (by decide) (fun c_42 => ?_) (fun c_42 => ?_)
        · have c_42 := (nI_leI (a := n) (b := i) (by omega) (by omega)).mp c_42
          refine lv_iload hx hb dM_look_312 (lv_at hl 4 rfl) ?_
          refine lv_if_ne (tgt := 321) hx hb dM_look_314 (by decide) (fun c_314 => ?_) (fun c_314 => ?_)
          · refine lv_iload_n hx hb dM_look_321 rfl (lv_at hl 1 rfl) ?_
            refine lv_goto (tgt := 326) hx hb dM_look_322 (by decide) ?_
            exact W.iret hx hb hr (fun zT zh _ => ⟨⟨_, (f1, g1, h, r), rfl, ⟨_, _, rfl, (by rw [← hR, show n - i = 0 by omega]; simp only [gRun]; rw [if_neg (by simp)]; congr 1; omega), hLR.1, hLR.2.1, fun q => absurd q (nI_nem1 (by omega))⟩, zbw zh hP⟩, hS.F zh⟩) hS.2.2 dM_look_326
          · exact absurd c_314 (by decide)
        · have c_42 : i < n := by have := mt (nI_leI (a := n) (b := i) (by omega) (by omega)).mpr c_42; omega
          refine lv_aload_n hx hb dM_look_45 rfl (lv_at hl 0 rfl) ?_
          refine mgr_fed hx hb hz hi_M hown hK hP (hz _ q_459) dM_look_46 ?_
          refine lv_iload hx hb dM_look_49 (lv_at hl 5 rfl) ?_
          refine zald (v := nI (t i)) hx hb hK hP 0 0 rfl rfl i rfl (by omega) (by decide) (by rw [hg0]; exact (ht i c_42).1) dM_look_51 ?_
          refine lv_istore (lv' := [(6, .int (nI (t i))), (0, .ref (a 17)), (1, .int (nI n)), (2, .int (zB bh)), (3, .int (nI (zPc sn))), (4, .int (nI 1)), (5, .int (nI i))]) hx hb dM_look_52 hl (by decide) rfl (fun ls hl => ?_)
          refine lv_aload_n hx hb dM_look_54 rfl (lv_at hl 1 rfl) ?_
          refine lv_iload hx hb dM_look_55 (lv_at hl 0 rfl) ?_
          refine zq_e (zrV (rest := []) ⟨hx, hb, hml, hown, hz⟩ (c_M_isSign l dC dI cA cZ cJ a f1 g1 h r B hB hf0 (t i) (ht i c_42).2) ⟨zcB 1 hz q_557 q_9 q_560 (by decide +kernel) rfl rfl ⟨Nat.le_of_ble_eq_true rfl, Nat.le_of_ble_eq_true rfl⟩, hz _ q_559, hz _ qs_22⟩ hK hN hP 17 6 rfl rfl rfl rfl hl.1 rfl (Nat.le_of_ble_eq_true rfl) dM_look_57 ⟨Nat.zero_le _, Nat.zero_le _⟩) ?_
          refine lv_if_eq (tgt := 245) hx hb dM_look_60 (by decide) (fun c_60 => ?_) (fun c_60 => ?_)
          · have c_60 : zIsS B (t i) = false := zB_eq0.mp c_60
            refine lv_iload hx hb dM_look_245 (lv_at hl 0 rfl) ?_
            refine lv_bipush (v := nI 61) hx hb dM_look_247 (by decide) ?_
            refine lv_icmp_ne (tgt := 256) hx hb dM_look_249 (by decide) (fun c_249 => ?_) (fun c_249 => ?_)
            · have c_249 := mt (nI_eq (a := t i) (b := 61) (by have := (ht i c_42).2; omega) (by omega)).mpr c_249
              refine lv_iconst (v := nI 0) hx hb dM_look_256 (by decide) ?_
              refine zt (y := zB (decide (t i = 61))) (by rw [decide_eq_false c_249]; rfl) ?_
              refine lv_istore (lv' := [(7, .int (zB (decide (t i = 61)))), (6, .int (nI (t i))), (0, .ref (a 17)), (1, .int (nI n)), (2, .int (zB bh)), (3, .int (nI (zPc sn))), (4, .int (nI 1)), (5, .int (nI i))]) hx hb dM_look_257 hl (by decide) rfl (fun ls hl => ?_)
              refine lv_iload hx hb dM_look_259 (lv_at hl 6 rfl) ?_
              refine lv_if_ne (tgt := 293) hx hb dM_look_261 (by decide) (fun c_261 => ?_) (fun c_261 => ?_)
              · refine lv_iload hx hb dM_look_293 (lv_at hl 7 rfl) ?_
                exact W.iret hx hb hr (fun zT zh _ => ⟨⟨_, (f1, g1, h, r), rfl, ⟨_, _, rfl, (by rw [← hR]; exact (zgF c_42 (gs_n0 hB c_60 trivial)).symm), hLR.1, hLR.2.1, fun q => absurd q (nI_nem1 (by omega))⟩, zbw zh hP⟩, hS.F zh⟩) hS.2.2 dM_look_295
              · exact absurd c_261 (by decide)
            · have c_249 := (nI_eq (a := t i) (b := 61) (by have := (ht i c_42).2; omega) (by omega)).mp c_249
              refine lv_iconst (v := nI 1) hx hb dM_look_252 (by decide) ?_
              refine zt (y := zB (decide (t i = 61))) (by rw [decide_eq_true c_249]; rfl) ?_
              refine lv_goto (tgt := 257) hx hb dM_look_253 (by decide) ?_
              refine lv_istore (lv' := [(7, .int (zB (decide (t i = 61)))), (6, .int (nI (t i))), (0, .ref (a 17)), (1, .int (nI n)), (2, .int (zB bh)), (3, .int (nI (zPc sn))), (4, .int (nI 1)), (5, .int (nI i))]) hx hb dM_look_257 hl (by decide) rfl (fun ls hl => ?_)
              refine lv_iload hx hb dM_look_259 (lv_at hl 6 rfl) ?_
              refine lv_if_ne (tgt := 293) hx hb dM_look_261 (by decide) (fun c_261 => ?_) (fun c_261 => ?_)
              · refine lv_iload hx hb dM_look_293 (lv_at hl 7 rfl) ?_
                exact W.iret hx hb hr (fun zT zh _ => ⟨⟨_, (f1, g1, h, r), rfl, ⟨_, _, rfl, (by rw [← hR]; exact (zgF c_42 (gs_n0 hB c_60 trivial)).symm), hLR.1, hLR.2.1, fun q => absurd q (nI_nem1 (by omega))⟩, zbw zh hP⟩, hS.F zh⟩) hS.2.2 dM_look_295
              · exact absurd c_261 (by decide)
          · have c_60 : zIsS B (t i) = true := zB_n0 c_60
            refine lv_iload hx hb dM_look_63 (lv_at hl 5 rfl) ?_
            refine lv_if_eq (tgt := 77) hx hb dM_look_65 (by decide) (fun c_65 => ?_) (fun c_65 => ?_)
            · exact absurd c_65 (by decide)
            · refine lv_aload_n hx hb dM_look_68 rfl (lv_at hl 1 rfl) ?_
              refine mgf_9 (v := nI w) hx hb hz hi_M hown hK hP (hz _ q_485) hf9 dM_look_69 ?_
              refine lv_bipush (v := nI 8) hx hb dM_look_72 (by decide) ?_
              refine lv_icmp_eq (tgt := 98) hx hb dM_look_74 (by decide) (fun c_74 => ?_) (fun c_74 => ?_)
              · have c_74 := (nI_eq (a := w) (b := 8) (by omega) (by omega)).mp c_74
                refine lv_iload hx hb dM_look_98 (lv_at hl 6 rfl) ?_
                exact W.iret hx hb hr (fun zT zh _ => ⟨⟨_, (f1, g1, h, r), rfl, ⟨_, _, rfl, (by rw [← hR]; exact (zgF c_42 (gs_fail hB c_60 (Or.inl (by show 8 < w + 1; omega)))).symm), hLR.1, hLR.2.1, fun q => absurd q (nI_nem1 (by omega))⟩, zbw zh hP⟩, hS.F zh⟩) hS.2.2 dM_look_100
              · have c_74 := mt (nI_eq (a := w) (b := 8) (by omega) (by omega)).mpr c_74
                refine lv_iload hx hb dM_look_77 (lv_at hl 5 rfl) ?_
                refine lv_if_ne (tgt := 101) hx hb dM_look_79 (by decide) (fun c_79 => ?_) (fun c_79 => ?_)
                · refine lv_iload hx hb dM_look_101 (lv_at hl 0 rfl) ?_
                  refine zq_e (zrS0 (rest := []) ⟨hx, hb, hml, hown, hz⟩ (c_M_isLetter l  (nI (t i))) ⟨zcB 1 hz q_561 q_9 q_563 (by decide +kernel) rfl rfl ⟨Nat.le_of_ble_eq_true rfl, Nat.le_of_ble_eq_true rfl⟩, hz _ q_562⟩ rfl hl.1 rfl (Nat.le_of_ble_eq_true rfl) dM_look_103 ⟨Nat.zero_le _, Nat.zero_le _⟩) ?_
                  refine lv_if_eq (tgt := 145) hx hb dM_look_106 (by decide) (fun c_106 => ?_) (fun c_106 => ?_)
                  · have c_106 := zLet_f (by have := (ht i c_42).2; omega) c_106
                    exact t145 sn _ H locs ls c_42 (zIsS_sgn hB c_60) (by omega) hLR (zgT c_42 (gs_ok hB c_60 ((if_neg c_106).symm) hpc (by show w + 1 ≤ 8; omega) (by omega))) (zSn_a c_42 (if_neg c_106).symm) hP hS (lv_sub hl [1, 2, 3, 4, 5, 6] rfl)
                  · have c_106 := zLet_t (by have := (ht i c_42).2; omega) c_106
                    refine lv_aload_n hx hb dM_look_109 rfl (lv_at hl 1 rfl) ?_
                    refine mgr_seen hx hb hz hi_M hown hK hP (hz _ q_477) dM_look_110 ?_
                    refine lv_iload hx hb dM_look_113 (lv_at hl 0 rfl) ?_
                    refine lv_bipush (v := nI 97) hx hb dM_look_115 (by decide) ?_
                    refine lv_isub hx hb dM_look_117 ?_
                    refine zbld (v := zB (sn.testBit (t i - 97))) hx hb hK hP 11 1 rfl rfl (t i - 97) (pk_sub c_106.1) (by omega) (by decide) (hLR.2.2.2.1 (t i - 97) (by omega)) dM_look_118 ?_
                    refine lv_if_ne (tgt := 145) hx hb dM_look_119 (by decide) (fun c_119 => ?_) (fun c_119 => ?_)
                    · have c_119 : sn.testBit (t i - 97) = true := zB_n0 c_119
                      exact t145 sn _ H locs ls c_42 (zIsS_sgn hB c_60) (by omega) hLR (zgT c_42 (gs_ok hB c_60 ((by rw [if_pos c_106, zOr_in c_119])) hpc (by show w + 1 ≤ 8; omega) (by omega))) (zSn_a c_42 (by rw [if_pos c_106, zOr_in c_119])) hP hS (lv_sub hl [1, 2, 3, 4, 5, 6] rfl)
                    · have c_119 : sn.testBit (t i - 97) = false := zB_eq0.mp c_119
                      refine lv_iload_n hx hb dM_look_122 rfl (lv_at hl 4 rfl) ?_
                      refine lv_bipush (v := nI 8) hx hb dM_look_123 (by decide) ?_
                      refine lv_icmp_ne (tgt := 131) hx hb dM_look_125 (by decide) (fun c_125 => ?_) (fun c_125 => ?_)
                      · have c_125 := mt (nI_eq (a := (zPc sn)) (b := 8) (by omega) (by omega)).mpr c_125
                        refine lv_aload_n hx hb dM_look_131 rfl (lv_at hl 1 rfl) ?_
                        refine mgr_seen hx hb hz hi_M hown hK hP (hz _ q_477) dM_look_132 ?_
                        refine lv_iload hx hb dM_look_135 (lv_at hl 0 rfl) ?_
                        refine lv_bipush (v := nI 97) hx hb dM_look_137 (by decide) ?_
                        refine lv_isub hx hb dM_look_139 ?_
                        refine lv_iconst (v := nI 1) hx hb dM_look_140 (by decide) ?_
                        refine zbst (wd' := WM cA cZ cJ a f1 (updA g1 11 (t i - 97) (nI 1)) h r) hx hb hK hP (hD _ _ _ _) hS 11 1 rfl rfl (t i - 97) (pk_sub c_106.1) (by omega) (by decide) (by decide) rfl dM_look_141 (fun H locs hP hS => ?_)
                        refine lv_iinc (v := nI (zPc (sn ||| 2 ^ (t i - 97)))) (lv' := [(3, .int (nI (zPc (sn ||| 2 ^ (t i - 97))))), (6, .int (nI (t i))), (0, .ref (a 17)), (1, .int (nI n)), (2, .int (zB bh)), (4, .int (nI 1)), (5, .int (nI i))]) hx hb dM_look_142 hl (k := 4) rfl (by rw [zPc_new (by omega) c_119]; exact nI_1 _) (by decide) rfl (fun ls hl => ?_)
                        exact t145 (sn ||| 2 ^ (t i - 97)) _ H locs ls c_42 (zIsS_sgn hB c_60) (by omega) (zLR_see hLR (by omega) (by rw [zPc_new (by omega) c_119]; omega)) (zgT c_42 (gs_ok hB c_60 ((if_pos c_106).symm) (by rw [zPc_new (by omega) c_119]; omega) (by show w + 1 ≤ 8; omega) (by omega))) (zSn_a c_42 (if_pos c_106).symm) hP hS (lv_sub hl [2, 3, 4, 0, 5, 6] rfl)
                      · have c_125 := (nI_eq (a := (zPc sn)) (b := 8) (by omega) (by omega)).mp c_125
                        refine lv_iload hx hb dM_look_128 (lv_at hl 6 rfl) ?_
                        exact W.iret hx hb hr (fun zT zh _ => ⟨⟨_, (f1, g1, h, r), rfl, ⟨_, _, rfl, (by rw [← hR]; exact (zgF c_42 (gs_let8 c_106 (by rw [zPc_new (by omega) c_119]; omega))).symm), hLR.1, hLR.2.1, fun q => absurd q (nI_nem1 (by omega))⟩, zbw zh hP⟩, hS.F zh⟩) hS.2.2 dM_look_130
                · exact absurd c_79 (by decide)
      · rw [decide_eq_false hsg] at hl
        obtain ⟨hw1, hlw⟩ := hLR.2.2.2.2.2.1 (by omega)
        have t145 : ∀ (sn2 : Nat) (g2 : Nat → Nat → Int32) (H : Heap) (locs : List Loc) (ls : Array Slot), i < n → zSgn (t i) = true → sg < 8 → zLR f g f1 g2 w sg sn2 at0 ln mi sd → gRun B t (n - i) i w sg sn bh = gRun B t (n - (i + 1)) (i + 1) (if sg = 0 then w + 1 else w) (sg + 1) sn2 bh → zSn t (n - i) i sn = zSn t (n - (i + 1)) (i + 1) sn2 → va_P (dC, dI) vwCl (WM cA cZ cJ a f1 g2 h r) H → va_S (AM a) s.heap H locs → lv_has ls 8 [(0, .ref (a 17)), (1, .int (nI n)), (2, .int (zB bh)), (3, .int (nI (zPc sn2))), (4, .int (nI 0)), (5, .int (nI i))] → W zp l ze (headSpec wsM_look ({ frames := 2, cells := 0, slots := 0, locals := 41 })).room s zm ([.ref (a 17), .int (nI n)] : List Value).toArray below meth zc H locs 0 0 (MQ below (va_Qi (fun (z : Int32) (s : zMt) => ∃ f1 g1, s = (f1, g1, h, r) ∧ z = gRun B t n 0 0 0 0 false ∧ (∀ j, j ≠ 9 → f1 j = f j) ∧ (∀ j, j < 7 ∨ 11 < j → g1 j = g j) ∧ (z = -1 → zLE f1 g1 (zR0 t n) (zSn t n 0 0))) (zBW (dC, dI) vwCl (fun u : zMt => WM cA cZ cJ a u.1 u.2.1 u.2.2.1 u.2.2.2)) (AM a)) ([.ref (a 17), .int (nI n)] : List Value).toArray s 0 0 (AM a)) (F0 zm 145 ls []) := by
          intro sn2 g2 H locs ls hin hsg1 hlim hLR hst hsn2 hP hS hl
          have hg0 : g2 0 = g 0 := hLR.2.1 0 (by omega)
          refine lv_iload hx hb dM_look_145 (lv_at hl 4 rfl) ?_
          refine lv_if_eq (tgt := 227) hx hb dM_look_147 (by decide) (fun c_147 => ?_) (fun c_147 => ?_)
          · refine lv_aload_n hx hb dM_look_227 rfl (lv_at hl 0 rfl) ?_
            refine mgr_newLong hx hb hz hi_M hown hK hP (hz _ q_474) dM_look_228 ?_
            refine lv_aload_n hx hb dM_look_231 rfl (lv_at hl 0 rfl) ?_
            refine mgf_9 (v := nI w) hx hb hz hi_M hown hK hP (hz _ q_485) hf9 dM_look_232 ?_
            refine lv_iconst (v := nI 1) hx hb dM_look_235 (by decide) ?_
            refine lv_isub hx hb dM_look_236 ?_
            refine lv_dup2_11 hx hb dM_look_237 rfl rfl ?_
            refine zald (v := nI sg) hx hb hK hP 8 0 rfl rfl (w - 1) (pk_sub hw1) (by omega) (by decide) (by rw [(hLR.2.2.2.2.1 (w - 1) (by omega)).2.1, hlw]) dM_look_238 ?_
            refine lv_iconst (v := nI 1) hx hb dM_look_239 (by decide) ?_
            refine lv_iadd hx hb dM_look_240 ?_
            refine zt (nI_add _ _) ?_
            refine zast (wd' := WM cA cZ cJ a f1 (updA g2 8 (w - 1) (nI (sg + 1))) h r) hx hb hK hP (hD _ _ _ _) hS 8 0 rfl rfl (w - 1) (pk_sub hw1) (by omega) (by decide) rfl dM_look_241 (fun H locs hP hS => ?_)
            refine lv_goto (tgt := 306) hx hb dM_look_242 (by decide) ?_
            refine lv_iinc (v := nI (i + 1)) (lv' := [(5, .int (nI (i + 1))), (0, .ref (a 17)), (1, .int (nI n)), (2, .int (zB bh)), (3, .int (nI (zPc sn2))), (4, .int (nI 0))]) hx hb dM_look_306 hl (k := 5) rfl (nI_1 _) (by decide) rfl (fun ls hl => ?_)
            refine lv_goto (tgt := 39) hx hb dM_look_309 (by decide) ?_
            exact ih (i + 1) w (sg + 1) sn2 bh _ _ at0 (upN ln (w - 1) (sg + 1)) mi sd H locs ls (by omega) (by omega) (zLR_more hLR (by omega) hlim) (by rw [← hR, hst, if_neg hsg]) (by rw [← hR2]; exact (zRk_b hin hsg1 hsg).symm) (by rw [← hR3, hsn2]) hP hS (by rw [decide_eq_false (p := sg + 1 = 0) (by omega)]; exact (lv_sub hl [1, 2, 3, 4, 5, 0] rfl))
          · exact absurd rfl c_147
        refine lv_iload hx hb dM_look_39 (lv_at hl 5 rfl) ?_
        refine lv_iload_n hx hb dM_look_41 rfl (lv_at hl 1 rfl) ?_
        refine lv_icmp_ge (tgt := 312) hx hb dM_look_42 (by decide) (fun c_42 => ?_) (fun c_42 => ?_)
        · have c_42 := (nI_leI (a := n) (b := i) (by omega) (by omega)).mp c_42
          refine lv_iload hx hb dM_look_312 (lv_at hl 4 rfl) ?_
          refine lv_if_ne (tgt := 321) hx hb dM_look_314 (by decide) (fun c_314 => ?_) (fun c_314 => ?_)
          · exact absurd rfl c_314
          · refine lv_iload_n hx hb dM_look_317 rfl (lv_at hl 2 rfl) ?_
            refine lv_if_ne (tgt := 325) hx hb dM_look_318 (by decide) (fun c_318 => ?_) (fun c_318 => ?_)
            · have c_318 : bh = true := zB_n0 c_318
              refine lv_iconst (v := (-1)) hx hb dM_look_325 (by decide) ?_
              exact W.iret hx hb hr (fun zT zh _ => ⟨⟨_, (f1, g1, h, r), rfl, ⟨_, _, rfl, (by rw [← hR, show n - i = 0 by omega]; simp only [gRun]; rw [if_pos (by simp [c_318]; omega)]), hLR.1, hLR.2.1, fun _ => (by rw [show n - i = 0 by omega] at hR2 hR3; rw [← hR2, ← hR3]; exact zLR_fin hLR)⟩, zbw zh hP⟩, hS.F zh⟩) hS.2.2 dM_look_326
            · have c_318 : bh = false := zB_eq0.mp c_318
              refine lv_iload_n hx hb dM_look_321 rfl (lv_at hl 1 rfl) ?_
              refine lv_goto (tgt := 326) hx hb dM_look_322 (by decide) ?_
              exact W.iret hx hb hr (fun zT zh _ => ⟨⟨_, (f1, g1, h, r), rfl, ⟨_, _, rfl, (by rw [← hR, show n - i = 0 by omega]; simp only [gRun]; rw [if_neg (by simp [c_318])]; congr 1; omega), hLR.1, hLR.2.1, fun q => absurd q (nI_nem1 (by omega))⟩, zbw zh hP⟩, hS.F zh⟩) hS.2.2 dM_look_326
        · have c_42 : i < n := by have := mt (nI_leI (a := n) (b := i) (by omega) (by omega)).mpr c_42; omega
          refine lv_aload_n hx hb dM_look_45 rfl (lv_at hl 0 rfl) ?_
          refine mgr_fed hx hb hz hi_M hown hK hP (hz _ q_459) dM_look_46 ?_
          refine lv_iload hx hb dM_look_49 (lv_at hl 5 rfl) ?_
          refine zald (v := nI (t i)) hx hb hK hP 0 0 rfl rfl i rfl (by omega) (by decide) (by rw [hg0]; exact (ht i c_42).1) dM_look_51 ?_
          refine lv_istore (lv' := [(6, .int (nI (t i))), (0, .ref (a 17)), (1, .int (nI n)), (2, .int (zB bh)), (3, .int (nI (zPc sn))), (4, .int (nI 0)), (5, .int (nI i))]) hx hb dM_look_52 hl (by decide) rfl (fun ls hl => ?_)
          refine lv_aload_n hx hb dM_look_54 rfl (lv_at hl 1 rfl) ?_
          refine lv_iload hx hb dM_look_55 (lv_at hl 0 rfl) ?_
          refine zq_e (zrV (rest := []) ⟨hx, hb, hml, hown, hz⟩ (c_M_isSign l dC dI cA cZ cJ a f1 g1 h r B hB hf0 (t i) (ht i c_42).2) ⟨zcB 1 hz q_557 q_9 q_560 (by decide +kernel) rfl rfl ⟨Nat.le_of_ble_eq_true rfl, Nat.le_of_ble_eq_true rfl⟩, hz _ q_559, hz _ qs_22⟩ hK hN hP 17 6 rfl rfl rfl rfl hl.1 rfl (Nat.le_of_ble_eq_true rfl) dM_look_57 ⟨Nat.zero_le _, Nat.zero_le _⟩) ?_
          refine lv_if_eq (tgt := 245) hx hb dM_look_60 (by decide) (fun c_60 => ?_) (fun c_60 => ?_)
          · have c_60 : zIsS B (t i) = false := zB_eq0.mp c_60
            refine lv_iload hx hb dM_look_245 (lv_at hl 0 rfl) ?_
            refine lv_bipush (v := nI 61) hx hb dM_look_247 (by decide) ?_
            refine lv_icmp_ne (tgt := 256) hx hb dM_look_249 (by decide) (fun c_249 => ?_) (fun c_249 => ?_)
            · have c_249 := mt (nI_eq (a := t i) (b := 61) (by have := (ht i c_42).2; omega) (by omega)).mpr c_249
              refine lv_iconst (v := nI 0) hx hb dM_look_256 (by decide) ?_
              refine zt (y := zB (decide (t i = 61))) (by rw [decide_eq_false c_249]; rfl) ?_
              refine lv_istore (lv' := [(7, .int (zB (decide (t i = 61)))), (6, .int (nI (t i))), (0, .ref (a 17)), (1, .int (nI n)), (2, .int (zB bh)), (3, .int (nI (zPc sn))), (4, .int (nI 0)), (5, .int (nI i))]) hx hb dM_look_257 hl (by decide) rfl (fun ls hl => ?_)
              refine lv_iload hx hb dM_look_259 (lv_at hl 6 rfl) ?_
              refine lv_if_ne (tgt := 293) hx hb dM_look_261 (by decide) (fun c_261 => ?_) (fun c_261 => ?_)
              · exact absurd rfl c_261
              · refine lv_iload hx hb dM_look_264 (lv_at hl 1 rfl) ?_
                refine lv_bipush (v := nI 43) hx hb dM_look_266 (by decide) ?_
                refine lv_icmp_eq (tgt := 283) hx hb dM_look_268 (by decide) (fun c_268 => ?_) (fun c_268 => ?_)
                · have c_268 := (nI_eq (a := t i) (b := 43) (by have := (ht i c_42).2; omega) (by omega)).mp c_268
                  refine lv_iload hx hb dM_look_283 (lv_at hl 0 rfl) ?_
                  refine lv_if_eq (tgt := 296) hx hb dM_look_285 (by decide) (fun c_285 => ?_) (fun c_285 => ?_)
                  · have c_285 : ¬ t i = 61 := zB_d0.mp c_285
                    refine lv_iload hx hb dM_look_296 (lv_at hl 0 rfl) ?_
                    refine lv_if_eq (tgt := 303) hx hb dM_look_298 (by decide) (fun c_298 => ?_) (fun c_298 => ?_)
                    · have c_298 : ¬ t i = 61 := zB_d0.mp c_298
                      refine lv_iconst (v := nI 1) hx hb dM_look_303 (by decide) ?_
                      refine zt (y := zB (decide (0 = 0))) (show _ = zB (decide (0 = 0)) from rfl) ?_
                      refine lv_istore (lv' := [(4, .int (zB (decide (0 = 0)))), (7, .int (zB (decide (t i = 61)))), (6, .int (nI (t i))), (0, .ref (a 17)), (1, .int (nI n)), (2, .int (zB bh)), (3, .int (nI (zPc sn))), (5, .int (nI i))]) hx hb dM_look_304 hl (by decide) rfl (fun ls hl => ?_)
                      refine lv_iinc (v := nI (i + 1)) (lv' := [(5, .int (nI (i + 1))), (4, .int (zB (decide (0 = 0)))), (7, .int (zB (decide (t i = 61)))), (6, .int (nI (t i))), (0, .ref (a 17)), (1, .int (nI n)), (2, .int (zB bh)), (3, .int (nI (zPc sn)))]) hx hb dM_look_306 hl (k := 7) rfl (nI_1 _) (by decide) rfl (fun ls hl => ?_)
                      refine lv_goto (tgt := 39) hx hb dM_look_309 (by decide) ?_
                      have hns : ¬ zSgn (t i) = true := by unfold zSgn; simp; omega
                      exact ih (i + 1) w 0 sn bh _ _ at0 ln mi sd H locs ls (by omega) (by omega) (zLR_end hLR) (by rw [← hR]; exact (zgT c_42 (gs_n3 (by omega) (by omega))).symm) (by rw [← hR2, zRk_c c_42 hns, decide_eq_false c_298, Bool.or_false]) (by rw [← hR3]; exact (zSn_a c_42 (if_neg (by omega)).symm).symm) hP hS (lv_sub hl [4, 5, 6, 7, 1, 0] rfl)
                    · have c_298 : t i = 61 := of_decide_eq_true (zB_n0 c_298)
                      refine lv_iconst (v := nI 1) hx hb dM_look_301 (by decide) ?_
                      refine zt (y := zB true) (show _ = zB true from rfl) ?_
                      refine lv_istore_n (lv' := [(2, .int (zB true)), (7, .int (zB (decide (t i = 61)))), (6, .int (nI (t i))), (0, .ref (a 17)), (1, .int (nI n)), (3, .int (nI (zPc sn))), (4, .int (nI 0)), (5, .int (nI i))]) hx hb dM_look_302 rfl hl (by decide) rfl (fun ls hl => ?_)
                      refine lv_iconst (v := nI 1) hx hb dM_look_303 (by decide) ?_
                      refine zt (y := zB (decide (0 = 0))) (show _ = zB (decide (0 = 0)) from rfl) ?_
                      refine lv_istore (lv' := [(4, .int (zB (decide (0 = 0)))), (2, .int (zB true)), (7, .int (zB (decide (t i = 61)))), (6, .int (nI (t i))), (0, .ref (a 17)), (1, .int (nI n)), (3, .int (nI (zPc sn))), (5, .int (nI i))]) hx hb dM_look_304 hl (by decide) rfl (fun ls hl => ?_)
                      refine lv_iinc (v := nI (i + 1)) (lv' := [(5, .int (nI (i + 1))), (4, .int (zB (decide (0 = 0)))), (2, .int (zB true)), (7, .int (zB (decide (t i = 61)))), (6, .int (nI (t i))), (0, .ref (a 17)), (1, .int (nI n)), (3, .int (nI (zPc sn)))]) hx hb dM_look_306 hl (k := 7) rfl (nI_1 _) (by decide) rfl (fun ls hl => ?_)
                      refine lv_goto (tgt := 39) hx hb dM_look_309 (by decide) ?_
                      have hns : ¬ zSgn (t i) = true := by unfold zSgn; simp; omega
                      exact ih (i + 1) w 0 sn true _ _ at0 ln mi sd H locs ls (by omega) (by omega) (zLR_end hLR) (by rw [← hR]; exact (zgT c_42 (gs_n4 c_298 (by cases bh; rfl; omega) (by omega))).symm) (by show zRk t (n - (i + 1)) (i + 1) w 0 true at0 ln mi sd = _; rw [← hR2, zRk_c c_42 hns, decide_eq_true c_298, Bool.or_true]) (by rw [← hR3]; exact (zSn_a c_42 (if_neg (by omega)).symm).symm) hP hS (lv_sub hl [5, 6, 2, 7, 1, 0] rfl)
                  · have c_285 : t i = 61 := of_decide_eq_true (zB_n0 c_285)
                    refine lv_iload_n hx hb dM_look_288 rfl (lv_at hl 4 rfl) ?_
                    refine lv_iconst (v := nI 1) hx hb dM_look_289 (by decide) ?_
                    refine lv_icmp_ne (tgt := 296) hx hb dM_look_290 (by decide) (fun c_290 => ?_) (fun c_290 => ?_)
                    · have c_290 : bh = false := by cases bh with | false => rfl | true => exact absurd rfl c_290
                      refine lv_iload hx hb dM_look_296 (lv_at hl 0 rfl) ?_
                      refine lv_if_eq (tgt := 303) hx hb dM_look_298 (by decide) (fun c_298 => ?_) (fun c_298 => ?_)
                      · have c_298 : ¬ t i = 61 := zB_d0.mp c_298
                        refine lv_iconst (v := nI 1) hx hb dM_look_303 (by decide) ?_
                        refine zt (y := zB (decide (0 = 0))) (show _ = zB (decide (0 = 0)) from rfl) ?_
                        refine lv_istore (lv' := [(4, .int (zB (decide (0 = 0)))), (7, .int (zB (decide (t i = 61)))), (6, .int (nI (t i))), (0, .ref (a 17)), (1, .int (nI n)), (2, .int (zB bh)), (3, .int (nI (zPc sn))), (5, .int (nI i))]) hx hb dM_look_304 hl (by decide) rfl (fun ls hl => ?_)
                        refine lv_iinc (v := nI (i + 1)) (lv' := [(5, .int (nI (i + 1))), (4, .int (zB (decide (0 = 0)))), (7, .int (zB (decide (t i = 61)))), (6, .int (nI (t i))), (0, .ref (a 17)), (1, .int (nI n)), (2, .int (zB bh)), (3, .int (nI (zPc sn)))]) hx hb dM_look_306 hl (k := 7) rfl (nI_1 _) (by decide) rfl (fun ls hl => ?_)
                        refine lv_goto (tgt := 39) hx hb dM_look_309 (by decide) ?_
                        have hns : ¬ zSgn (t i) = true := by unfold zSgn; simp; omega
                        exact ih (i + 1) w 0 sn bh _ _ at0 ln mi sd H locs ls (by omega) (by omega) (zLR_end hLR) (by rw [← hR]; exact (zgT c_42 (gs_n3 (by omega) (by omega))).symm) (by rw [← hR2, zRk_c c_42 hns, decide_eq_false c_298, Bool.or_false]) (by rw [← hR3]; exact (zSn_a c_42 (if_neg (by omega)).symm).symm) hP hS (lv_sub hl [4, 5, 6, 7, 1, 0] rfl)
                      · have c_298 : t i = 61 := of_decide_eq_true (zB_n0 c_298)
                        refine lv_iconst (v := nI 1) hx hb dM_look_301 (by decide) ?_
                        refine zt (y := zB true) (show _ = zB true from rfl) ?_
                        refine lv_istore_n (lv' := [(2, .int (zB true)), (7, .int (zB (decide (t i = 61)))), (6, .int (nI (t i))), (0, .ref (a 17)), (1, .int (nI n)), (3, .int (nI (zPc sn))), (4, .int (nI 0)), (5, .int (nI i))]) hx hb dM_look_302 rfl hl (by decide) rfl (fun ls hl => ?_)
                        refine lv_iconst (v := nI 1) hx hb dM_look_303 (by decide) ?_
                        refine zt (y := zB (decide (0 = 0))) (show _ = zB (decide (0 = 0)) from rfl) ?_
                        refine lv_istore (lv' := [(4, .int (zB (decide (0 = 0)))), (2, .int (zB true)), (7, .int (zB (decide (t i = 61)))), (6, .int (nI (t i))), (0, .ref (a 17)), (1, .int (nI n)), (3, .int (nI (zPc sn))), (5, .int (nI i))]) hx hb dM_look_304 hl (by decide) rfl (fun ls hl => ?_)
                        refine lv_iinc (v := nI (i + 1)) (lv' := [(5, .int (nI (i + 1))), (4, .int (zB (decide (0 = 0)))), (2, .int (zB true)), (7, .int (zB (decide (t i = 61)))), (6, .int (nI (t i))), (0, .ref (a 17)), (1, .int (nI n)), (3, .int (nI (zPc sn)))]) hx hb dM_look_306 hl (k := 7) rfl (nI_1 _) (by decide) rfl (fun ls hl => ?_)
                        refine lv_goto (tgt := 39) hx hb dM_look_309 (by decide) ?_
                        have hns : ¬ zSgn (t i) = true := by unfold zSgn; simp; omega
                        exact ih (i + 1) w 0 sn true _ _ at0 ln mi sd H locs ls (by omega) (by omega) (zLR_end hLR) (by rw [← hR]; exact (zgT c_42 (gs_n4 c_298 (c_290) (by omega))).symm) (by show zRk t (n - (i + 1)) (i + 1) w 0 true at0 ln mi sd = _; rw [← hR2, zRk_c c_42 hns, decide_eq_true c_298, Bool.or_true]) (by rw [← hR3]; exact (zSn_a c_42 (if_neg (by omega)).symm).symm) hP hS (lv_sub hl [5, 6, 2, 7, 1, 0] rfl)
                    · have c_290 : bh = true := zB_eq1.mp c_290
                      refine lv_iload hx hb dM_look_293 (lv_at hl 7 rfl) ?_
                      exact W.iret hx hb hr (fun zT zh _ => ⟨⟨_, (f1, g1, h, r), rfl, ⟨_, _, rfl, (by rw [← hR]; exact (zgF c_42 (gs_n2 c_285 c_290)).symm), hLR.1, hLR.2.1, fun q => absurd q (nI_nem1 (by omega))⟩, zbw zh hP⟩, hS.F zh⟩) hS.2.2 dM_look_295
                · have c_268 := mt (nI_eq (a := t i) (b := 43) (by have := (ht i c_42).2; omega) (by omega)).mpr c_268
                  refine lv_iload hx hb dM_look_271 (lv_at hl 1 rfl) ?_
                  refine lv_bipush (v := nI 45) hx hb dM_look_273 (by decide) ?_
                  refine lv_icmp_eq (tgt := 283) hx hb dM_look_275 (by decide) (fun c_275 => ?_) (fun c_275 => ?_)
                  · have c_275 := (nI_eq (a := t i) (b := 45) (by have := (ht i c_42).2; omega) (by omega)).mp c_275
                    refine lv_iload hx hb dM_look_283 (lv_at hl 0 rfl) ?_
                    refine lv_if_eq (tgt := 296) hx hb dM_look_285 (by decide) (fun c_285 => ?_) (fun c_285 => ?_)
                    · have c_285 : ¬ t i = 61 := zB_d0.mp c_285
                      refine lv_iload hx hb dM_look_296 (lv_at hl 0 rfl) ?_
                      refine lv_if_eq (tgt := 303) hx hb dM_look_298 (by decide) (fun c_298 => ?_) (fun c_298 => ?_)
                      · have c_298 : ¬ t i = 61 := zB_d0.mp c_298
                        refine lv_iconst (v := nI 1) hx hb dM_look_303 (by decide) ?_
                        refine zt (y := zB (decide (0 = 0))) (show _ = zB (decide (0 = 0)) from rfl) ?_
                        refine lv_istore (lv' := [(4, .int (zB (decide (0 = 0)))), (7, .int (zB (decide (t i = 61)))), (6, .int (nI (t i))), (0, .ref (a 17)), (1, .int (nI n)), (2, .int (zB bh)), (3, .int (nI (zPc sn))), (5, .int (nI i))]) hx hb dM_look_304 hl (by decide) rfl (fun ls hl => ?_)
                        refine lv_iinc (v := nI (i + 1)) (lv' := [(5, .int (nI (i + 1))), (4, .int (zB (decide (0 = 0)))), (7, .int (zB (decide (t i = 61)))), (6, .int (nI (t i))), (0, .ref (a 17)), (1, .int (nI n)), (2, .int (zB bh)), (3, .int (nI (zPc sn)))]) hx hb dM_look_306 hl (k := 7) rfl (nI_1 _) (by decide) rfl (fun ls hl => ?_)
                        refine lv_goto (tgt := 39) hx hb dM_look_309 (by decide) ?_
                        have hns : ¬ zSgn (t i) = true := by unfold zSgn; simp; omega
                        exact ih (i + 1) w 0 sn bh _ _ at0 ln mi sd H locs ls (by omega) (by omega) (zLR_end hLR) (by rw [← hR]; exact (zgT c_42 (gs_n3 (by omega) (by omega))).symm) (by rw [← hR2, zRk_c c_42 hns, decide_eq_false c_298, Bool.or_false]) (by rw [← hR3]; exact (zSn_a c_42 (if_neg (by omega)).symm).symm) hP hS (lv_sub hl [4, 5, 6, 7, 1, 0] rfl)
                      · have c_298 : t i = 61 := of_decide_eq_true (zB_n0 c_298)
                        refine lv_iconst (v := nI 1) hx hb dM_look_301 (by decide) ?_
                        refine zt (y := zB true) (show _ = zB true from rfl) ?_
                        refine lv_istore_n (lv' := [(2, .int (zB true)), (7, .int (zB (decide (t i = 61)))), (6, .int (nI (t i))), (0, .ref (a 17)), (1, .int (nI n)), (3, .int (nI (zPc sn))), (4, .int (nI 0)), (5, .int (nI i))]) hx hb dM_look_302 rfl hl (by decide) rfl (fun ls hl => ?_)
                        refine lv_iconst (v := nI 1) hx hb dM_look_303 (by decide) ?_
                        refine zt (y := zB (decide (0 = 0))) (show _ = zB (decide (0 = 0)) from rfl) ?_
                        refine lv_istore (lv' := [(4, .int (zB (decide (0 = 0)))), (2, .int (zB true)), (7, .int (zB (decide (t i = 61)))), (6, .int (nI (t i))), (0, .ref (a 17)), (1, .int (nI n)), (3, .int (nI (zPc sn))), (5, .int (nI i))]) hx hb dM_look_304 hl (by decide) rfl (fun ls hl => ?_)
                        refine lv_iinc (v := nI (i + 1)) (lv' := [(5, .int (nI (i + 1))), (4, .int (zB (decide (0 = 0)))), (2, .int (zB true)), (7, .int (zB (decide (t i = 61)))), (6, .int (nI (t i))), (0, .ref (a 17)), (1, .int (nI n)), (3, .int (nI (zPc sn)))]) hx hb dM_look_306 hl (k := 7) rfl (nI_1 _) (by decide) rfl (fun ls hl => ?_)
                        refine lv_goto (tgt := 39) hx hb dM_look_309 (by decide) ?_
                        have hns : ¬ zSgn (t i) = true := by unfold zSgn; simp; omega
                        exact ih (i + 1) w 0 sn true _ _ at0 ln mi sd H locs ls (by omega) (by omega) (zLR_end hLR) (by rw [← hR]; exact (zgT c_42 (gs_n4 c_298 (by cases bh; rfl; omega) (by omega))).symm) (by show zRk t (n - (i + 1)) (i + 1) w 0 true at0 ln mi sd = _; rw [← hR2, zRk_c c_42 hns, decide_eq_true c_298, Bool.or_true]) (by rw [← hR3]; exact (zSn_a c_42 (if_neg (by omega)).symm).symm) hP hS (lv_sub hl [5, 6, 2, 7, 1, 0] rfl)
                    · have c_285 : t i = 61 := of_decide_eq_true (zB_n0 c_285)
                      refine lv_iload_n hx hb dM_look_288 rfl (lv_at hl 4 rfl) ?_
                      refine lv_iconst (v := nI 1) hx hb dM_look_289 (by decide) ?_
                      refine lv_icmp_ne (tgt := 296) hx hb dM_look_290 (by decide) (fun c_290 => ?_) (fun c_290 => ?_)
                      · have c_290 : bh = false := by cases bh with | false => rfl | true => exact absurd rfl c_290
                        refine lv_iload hx hb dM_look_296 (lv_at hl 0 rfl) ?_
                        refine lv_if_eq (tgt := 303) hx hb dM_look_298 (by decide) (fun c_298 => ?_) (fun c_298 => ?_)
                        · have c_298 : ¬ t i = 61 := zB_d0.mp c_298
                          refine lv_iconst (v := nI 1) hx hb dM_look_303 (by decide) ?_
                          refine zt (y := zB (decide (0 = 0))) (show _ = zB (decide (0 = 0)) from rfl) ?_
                          refine lv_istore (lv' := [(4, .int (zB (decide (0 = 0)))), (7, .int (zB (decide (t i = 61)))), (6, .int (nI (t i))), (0, .ref (a 17)), (1, .int (nI n)), (2, .int (zB bh)), (3, .int (nI (zPc sn))), (5, .int (nI i))]) hx hb dM_look_304 hl (by decide) rfl (fun ls hl => ?_)
                          refine lv_iinc (v := nI (i + 1)) (lv' := [(5, .int (nI (i + 1))), (4, .int (zB (decide (0 = 0)))), (7, .int (zB (decide (t i = 61)))), (6, .int (nI (t i))), (0, .ref (a 17)), (1, .int (nI n)), (2, .int (zB bh)), (3, .int (nI (zPc sn)))]) hx hb dM_look_306 hl (k := 7) rfl (nI_1 _) (by decide) rfl (fun ls hl => ?_)
                          refine lv_goto (tgt := 39) hx hb dM_look_309 (by decide) ?_
                          have hns : ¬ zSgn (t i) = true := by unfold zSgn; simp; omega
                          exact ih (i + 1) w 0 sn bh _ _ at0 ln mi sd H locs ls (by omega) (by omega) (zLR_end hLR) (by rw [← hR]; exact (zgT c_42 (gs_n3 (by omega) (by omega))).symm) (by rw [← hR2, zRk_c c_42 hns, decide_eq_false c_298, Bool.or_false]) (by rw [← hR3]; exact (zSn_a c_42 (if_neg (by omega)).symm).symm) hP hS (lv_sub hl [4, 5, 6, 7, 1, 0] rfl)
                        · have c_298 : t i = 61 := of_decide_eq_true (zB_n0 c_298)
                          refine lv_iconst (v := nI 1) hx hb dM_look_301 (by decide) ?_
                          refine zt (y := zB true) (show _ = zB true from rfl) ?_
                          refine lv_istore_n (lv' := [(2, .int (zB true)), (7, .int (zB (decide (t i = 61)))), (6, .int (nI (t i))), (0, .ref (a 17)), (1, .int (nI n)), (3, .int (nI (zPc sn))), (4, .int (nI 0)), (5, .int (nI i))]) hx hb dM_look_302 rfl hl (by decide) rfl (fun ls hl => ?_)
                          refine lv_iconst (v := nI 1) hx hb dM_look_303 (by decide) ?_
                          refine zt (y := zB (decide (0 = 0))) (show _ = zB (decide (0 = 0)) from rfl) ?_
                          refine lv_istore (lv' := [(4, .int (zB (decide (0 = 0)))), (2, .int (zB true)), (7, .int (zB (decide (t i = 61)))), (6, .int (nI (t i))), (0, .ref (a 17)), (1, .int (nI n)), (3, .int (nI (zPc sn))), (5, .int (nI i))]) hx hb dM_look_304 hl (by decide) rfl (fun ls hl => ?_)
                          refine lv_iinc (v := nI (i + 1)) (lv' := [(5, .int (nI (i + 1))), (4, .int (zB (decide (0 = 0)))), (2, .int (zB true)), (7, .int (zB (decide (t i = 61)))), (6, .int (nI (t i))), (0, .ref (a 17)), (1, .int (nI n)), (3, .int (nI (zPc sn)))]) hx hb dM_look_306 hl (k := 7) rfl (nI_1 _) (by decide) rfl (fun ls hl => ?_)
                          refine lv_goto (tgt := 39) hx hb dM_look_309 (by decide) ?_
                          have hns : ¬ zSgn (t i) = true := by unfold zSgn; simp; omega
                          exact ih (i + 1) w 0 sn true _ _ at0 ln mi sd H locs ls (by omega) (by omega) (zLR_end hLR) (by rw [← hR]; exact (zgT c_42 (gs_n4 c_298 (c_290) (by omega))).symm) (by show zRk t (n - (i + 1)) (i + 1) w 0 true at0 ln mi sd = _; rw [← hR2, zRk_c c_42 hns, decide_eq_true c_298, Bool.or_true]) (by rw [← hR3]; exact (zSn_a c_42 (if_neg (by omega)).symm).symm) hP hS (lv_sub hl [5, 6, 2, 7, 1, 0] rfl)
                      · have c_290 : bh = true := zB_eq1.mp c_290
                        refine lv_iload hx hb dM_look_293 (lv_at hl 7 rfl) ?_
                        exact W.iret hx hb hr (fun zT zh _ => ⟨⟨_, (f1, g1, h, r), rfl, ⟨_, _, rfl, (by rw [← hR]; exact (zgF c_42 (gs_n2 c_285 c_290)).symm), hLR.1, hLR.2.1, fun q => absurd q (nI_nem1 (by omega))⟩, zbw zh hP⟩, hS.F zh⟩) hS.2.2 dM_look_295
                  · have c_275 := mt (nI_eq (a := t i) (b := 45) (by have := (ht i c_42).2; omega) (by omega)).mpr c_275
                    refine lv_iload hx hb dM_look_278 (lv_at hl 0 rfl) ?_
                    refine lv_if_eq (tgt := 293) hx hb dM_look_280 (by decide) (fun c_280 => ?_) (fun c_280 => ?_)
                    · have c_280 : ¬ t i = 61 := zB_d0.mp c_280
                      refine lv_iload hx hb dM_look_293 (lv_at hl 7 rfl) ?_
                      exact W.iret hx hb hr (fun zT zh _ => ⟨⟨_, (f1, g1, h, r), rfl, ⟨_, _, rfl, (by rw [← hR]; exact (zgF c_42 (gs_n1 hB c_60 (by omega))).symm), hLR.1, hLR.2.1, fun q => absurd q (nI_nem1 (by omega))⟩, zbw zh hP⟩, hS.F zh⟩) hS.2.2 dM_look_295
                    · have c_280 : t i = 61 := of_decide_eq_true (zB_n0 c_280)
                      refine lv_iload hx hb dM_look_283 (lv_at hl 0 rfl) ?_
                      refine lv_if_eq (tgt := 296) hx hb dM_look_285 (by decide) (fun c_285 => ?_) (fun c_285 => ?_)
                      · have c_285 : ¬ t i = 61 := zB_d0.mp c_285
                        refine lv_iload hx hb dM_look_296 (lv_at hl 0 rfl) ?_
                        refine lv_if_eq (tgt := 303) hx hb dM_look_298 (by decide) (fun c_298 => ?_) (fun c_298 => ?_)
                        · have c_298 : ¬ t i = 61 := zB_d0.mp c_298
                          refine lv_iconst (v := nI 1) hx hb dM_look_303 (by decide) ?_
                          refine zt (y := zB (decide (0 = 0))) (show _ = zB (decide (0 = 0)) from rfl) ?_
                          refine lv_istore (lv' := [(4, .int (zB (decide (0 = 0)))), (7, .int (zB (decide (t i = 61)))), (6, .int (nI (t i))), (0, .ref (a 17)), (1, .int (nI n)), (2, .int (zB bh)), (3, .int (nI (zPc sn))), (5, .int (nI i))]) hx hb dM_look_304 hl (by decide) rfl (fun ls hl => ?_)
                          refine lv_iinc (v := nI (i + 1)) (lv' := [(5, .int (nI (i + 1))), (4, .int (zB (decide (0 = 0)))), (7, .int (zB (decide (t i = 61)))), (6, .int (nI (t i))), (0, .ref (a 17)), (1, .int (nI n)), (2, .int (zB bh)), (3, .int (nI (zPc sn)))]) hx hb dM_look_306 hl (k := 7) rfl (nI_1 _) (by decide) rfl (fun ls hl => ?_)
                          refine lv_goto (tgt := 39) hx hb dM_look_309 (by decide) ?_
                          have hns : ¬ zSgn (t i) = true := by unfold zSgn; simp; omega
                          exact ih (i + 1) w 0 sn bh _ _ at0 ln mi sd H locs ls (by omega) (by omega) (zLR_end hLR) (by rw [← hR]; exact (zgT c_42 (gs_n3 (by omega) (by omega))).symm) (by rw [← hR2, zRk_c c_42 hns, decide_eq_false c_298, Bool.or_false]) (by rw [← hR3]; exact (zSn_a c_42 (if_neg (by omega)).symm).symm) hP hS (lv_sub hl [4, 5, 6, 7, 1, 0] rfl)
                        · have c_298 : t i = 61 := of_decide_eq_true (zB_n0 c_298)
                          refine lv_iconst (v := nI 1) hx hb dM_look_301 (by decide) ?_
                          refine zt (y := zB true) (show _ = zB true from rfl) ?_
                          refine lv_istore_n (lv' := [(2, .int (zB true)), (7, .int (zB (decide (t i = 61)))), (6, .int (nI (t i))), (0, .ref (a 17)), (1, .int (nI n)), (3, .int (nI (zPc sn))), (4, .int (nI 0)), (5, .int (nI i))]) hx hb dM_look_302 rfl hl (by decide) rfl (fun ls hl => ?_)
                          refine lv_iconst (v := nI 1) hx hb dM_look_303 (by decide) ?_
                          refine zt (y := zB (decide (0 = 0))) (show _ = zB (decide (0 = 0)) from rfl) ?_
                          refine lv_istore (lv' := [(4, .int (zB (decide (0 = 0)))), (2, .int (zB true)), (7, .int (zB (decide (t i = 61)))), (6, .int (nI (t i))), (0, .ref (a 17)), (1, .int (nI n)), (3, .int (nI (zPc sn))), (5, .int (nI i))]) hx hb dM_look_304 hl (by decide) rfl (fun ls hl => ?_)
                          refine lv_iinc (v := nI (i + 1)) (lv' := [(5, .int (nI (i + 1))), (4, .int (zB (decide (0 = 0)))), (2, .int (zB true)), (7, .int (zB (decide (t i = 61)))), (6, .int (nI (t i))), (0, .ref (a 17)), (1, .int (nI n)), (3, .int (nI (zPc sn)))]) hx hb dM_look_306 hl (k := 7) rfl (nI_1 _) (by decide) rfl (fun ls hl => ?_)
                          refine lv_goto (tgt := 39) hx hb dM_look_309 (by decide) ?_
                          have hns : ¬ zSgn (t i) = true := by unfold zSgn; simp; omega
                          exact ih (i + 1) w 0 sn true _ _ at0 ln mi sd H locs ls (by omega) (by omega) (zLR_end hLR) (by rw [← hR]; exact (zgT c_42 (gs_n4 c_298 (by cases bh; rfl; omega) (by omega))).symm) (by show zRk t (n - (i + 1)) (i + 1) w 0 true at0 ln mi sd = _; rw [← hR2, zRk_c c_42 hns, decide_eq_true c_298, Bool.or_true]) (by rw [← hR3]; exact (zSn_a c_42 (if_neg (by omega)).symm).symm) hP hS (lv_sub hl [5, 6, 2, 7, 1, 0] rfl)
                      · have c_285 : t i = 61 := of_decide_eq_true (zB_n0 c_285)
                        refine lv_iload_n hx hb dM_look_288 rfl (lv_at hl 4 rfl) ?_
                        refine lv_iconst (v := nI 1) hx hb dM_look_289 (by decide) ?_
                        refine lv_icmp_ne (tgt := 296) hx hb dM_look_290 (by decide) (fun c_290 => ?_) (fun c_290 => ?_)
                        · have c_290 : bh = false := by cases bh with | false => rfl | true => exact absurd rfl c_290
                          refine lv_iload hx hb dM_look_296 (lv_at hl 0 rfl) ?_
                          refine lv_if_eq (tgt := 303) hx hb dM_look_298 (by decide) (fun c_298 => ?_) (fun c_298 => ?_)
                          · have c_298 : ¬ t i = 61 := zB_d0.mp c_298
                            refine lv_iconst (v := nI 1) hx hb dM_look_303 (by decide) ?_
                            refine zt (y := zB (decide (0 = 0))) (show _ = zB (decide (0 = 0)) from rfl) ?_
                            refine lv_istore (lv' := [(4, .int (zB (decide (0 = 0)))), (7, .int (zB (decide (t i = 61)))), (6, .int (nI (t i))), (0, .ref (a 17)), (1, .int (nI n)), (2, .int (zB bh)), (3, .int (nI (zPc sn))), (5, .int (nI i))]) hx hb dM_look_304 hl (by decide) rfl (fun ls hl => ?_)
                            refine lv_iinc (v := nI (i + 1)) (lv' := [(5, .int (nI (i + 1))), (4, .int (zB (decide (0 = 0)))), (7, .int (zB (decide (t i = 61)))), (6, .int (nI (t i))), (0, .ref (a 17)), (1, .int (nI n)), (2, .int (zB bh)), (3, .int (nI (zPc sn)))]) hx hb dM_look_306 hl (k := 7) rfl (nI_1 _) (by decide) rfl (fun ls hl => ?_)
                            refine lv_goto (tgt := 39) hx hb dM_look_309 (by decide) ?_
                            have hns : ¬ zSgn (t i) = true := by unfold zSgn; simp; omega
                            exact ih (i + 1) w 0 sn bh _ _ at0 ln mi sd H locs ls (by omega) (by omega) (zLR_end hLR) (by rw [← hR]; exact (zgT c_42 (gs_n3 (by omega) (by omega))).symm) (by rw [← hR2, zRk_c c_42 hns, decide_eq_false c_298, Bool.or_false]) (by rw [← hR3]; exact (zSn_a c_42 (if_neg (by omega)).symm).symm) hP hS (lv_sub hl [4, 5, 6, 7, 1, 0] rfl)
                          · have c_298 : t i = 61 := of_decide_eq_true (zB_n0 c_298)
                            refine lv_iconst (v := nI 1) hx hb dM_look_301 (by decide) ?_
                            refine zt (y := zB true) (show _ = zB true from rfl) ?_
                            refine lv_istore_n (lv' := [(2, .int (zB true)), (7, .int (zB (decide (t i = 61)))), (6, .int (nI (t i))), (0, .ref (a 17)), (1, .int (nI n)), (3, .int (nI (zPc sn))), (4, .int (nI 0)), (5, .int (nI i))]) hx hb dM_look_302 rfl hl (by decide) rfl (fun ls hl => ?_)
                            refine lv_iconst (v := nI 1) hx hb dM_look_303 (by decide) ?_
                            refine zt (y := zB (decide (0 = 0))) (show _ = zB (decide (0 = 0)) from rfl) ?_
                            refine lv_istore (lv' := [(4, .int (zB (decide (0 = 0)))), (2, .int (zB true)), (7, .int (zB (decide (t i = 61)))), (6, .int (nI (t i))), (0, .ref (a 17)), (1, .int (nI n)), (3, .int (nI (zPc sn))), (5, .int (nI i))]) hx hb dM_look_304 hl (by decide) rfl (fun ls hl => ?_)
                            refine lv_iinc (v := nI (i + 1)) (lv' := [(5, .int (nI (i + 1))), (4, .int (zB (decide (0 = 0)))), (2, .int (zB true)), (7, .int (zB (decide (t i = 61)))), (6, .int (nI (t i))), (0, .ref (a 17)), (1, .int (nI n)), (3, .int (nI (zPc sn)))]) hx hb dM_look_306 hl (k := 7) rfl (nI_1 _) (by decide) rfl (fun ls hl => ?_)
                            refine lv_goto (tgt := 39) hx hb dM_look_309 (by decide) ?_
                            have hns : ¬ zSgn (t i) = true := by unfold zSgn; simp; omega
                            exact ih (i + 1) w 0 sn true _ _ at0 ln mi sd H locs ls (by omega) (by omega) (zLR_end hLR) (by rw [← hR]; exact (zgT c_42 (gs_n4 c_298 (c_290) (by omega))).symm) (by show zRk t (n - (i + 1)) (i + 1) w 0 true at0 ln mi sd = _; rw [← hR2, zRk_c c_42 hns, decide_eq_true c_298, Bool.or_true]) (by rw [← hR3]; exact (zSn_a c_42 (if_neg (by omega)).symm).symm) hP hS (lv_sub hl [5, 6, 2, 7, 1, 0] rfl)
                        · have c_290 : bh = true := zB_eq1.mp c_290
                          refine lv_iload hx hb dM_look_293 (lv_at hl 7 rfl) ?_
                          exact W.iret hx hb hr (fun zT zh _ => ⟨⟨_, (f1, g1, h, r), rfl, ⟨_, _, rfl, (by rw [← hR]; exact (zgF c_42 (gs_n2 c_285 c_290)).symm), hLR.1, hLR.2.1, fun q => absurd q (nI_nem1 (by omega))⟩, zbw zh hP⟩, hS.F zh⟩) hS.2.2 dM_look_295
            · have c_249 := (nI_eq (a := t i) (b := 61) (by have := (ht i c_42).2; omega) (by omega)).mp c_249
              refine lv_iconst (v := nI 1) hx hb dM_look_252 (by decide) ?_
              refine zt (y := zB (decide (t i = 61))) (by rw [decide_eq_true c_249]; rfl) ?_
              refine lv_goto (tgt := 257) hx hb dM_look_253 (by decide) ?_
              refine lv_istore (lv' := [(7, .int (zB (decide (t i = 61)))), (6, .int (nI (t i))), (0, .ref (a 17)), (1, .int (nI n)), (2, .int (zB bh)), (3, .int (nI (zPc sn))), (4, .int (nI 0)), (5, .int (nI i))]) hx hb dM_look_257 hl (by decide) rfl (fun ls hl => ?_)
              refine lv_iload hx hb dM_look_259 (lv_at hl 6 rfl) ?_
              refine lv_if_ne (tgt := 293) hx hb dM_look_261 (by decide) (fun c_261 => ?_) (fun c_261 => ?_)
              · exact absurd rfl c_261
              · refine lv_iload hx hb dM_look_264 (lv_at hl 1 rfl) ?_
                refine lv_bipush (v := nI 43) hx hb dM_look_266 (by decide) ?_
                refine lv_icmp_eq (tgt := 283) hx hb dM_look_268 (by decide) (fun c_268 => ?_) (fun c_268 => ?_)
                · have c_268 := (nI_eq (a := t i) (b := 43) (by have := (ht i c_42).2; omega) (by omega)).mp c_268
                  refine lv_iload hx hb dM_look_283 (lv_at hl 0 rfl) ?_
                  refine lv_if_eq (tgt := 296) hx hb dM_look_285 (by decide) (fun c_285 => ?_) (fun c_285 => ?_)
                  · have c_285 : ¬ t i = 61 := zB_d0.mp c_285
                    refine lv_iload hx hb dM_look_296 (lv_at hl 0 rfl) ?_
                    refine lv_if_eq (tgt := 303) hx hb dM_look_298 (by decide) (fun c_298 => ?_) (fun c_298 => ?_)
                    · have c_298 : ¬ t i = 61 := zB_d0.mp c_298
                      refine lv_iconst (v := nI 1) hx hb dM_look_303 (by decide) ?_
                      refine zt (y := zB (decide (0 = 0))) (show _ = zB (decide (0 = 0)) from rfl) ?_
                      refine lv_istore (lv' := [(4, .int (zB (decide (0 = 0)))), (7, .int (zB (decide (t i = 61)))), (6, .int (nI (t i))), (0, .ref (a 17)), (1, .int (nI n)), (2, .int (zB bh)), (3, .int (nI (zPc sn))), (5, .int (nI i))]) hx hb dM_look_304 hl (by decide) rfl (fun ls hl => ?_)
                      refine lv_iinc (v := nI (i + 1)) (lv' := [(5, .int (nI (i + 1))), (4, .int (zB (decide (0 = 0)))), (7, .int (zB (decide (t i = 61)))), (6, .int (nI (t i))), (0, .ref (a 17)), (1, .int (nI n)), (2, .int (zB bh)), (3, .int (nI (zPc sn)))]) hx hb dM_look_306 hl (k := 7) rfl (nI_1 _) (by decide) rfl (fun ls hl => ?_)
                      refine lv_goto (tgt := 39) hx hb dM_look_309 (by decide) ?_
                      have hns : ¬ zSgn (t i) = true := by unfold zSgn; simp; omega
                      exact ih (i + 1) w 0 sn bh _ _ at0 ln mi sd H locs ls (by omega) (by omega) (zLR_end hLR) (by rw [← hR]; exact (zgT c_42 (gs_n3 (by omega) (by omega))).symm) (by rw [← hR2, zRk_c c_42 hns, decide_eq_false c_298, Bool.or_false]) (by rw [← hR3]; exact (zSn_a c_42 (if_neg (by omega)).symm).symm) hP hS (lv_sub hl [4, 5, 6, 7, 1, 0] rfl)
                    · have c_298 : t i = 61 := of_decide_eq_true (zB_n0 c_298)
                      refine lv_iconst (v := nI 1) hx hb dM_look_301 (by decide) ?_
                      refine zt (y := zB true) (show _ = zB true from rfl) ?_
                      refine lv_istore_n (lv' := [(2, .int (zB true)), (7, .int (zB (decide (t i = 61)))), (6, .int (nI (t i))), (0, .ref (a 17)), (1, .int (nI n)), (3, .int (nI (zPc sn))), (4, .int (nI 0)), (5, .int (nI i))]) hx hb dM_look_302 rfl hl (by decide) rfl (fun ls hl => ?_)
                      refine lv_iconst (v := nI 1) hx hb dM_look_303 (by decide) ?_
                      refine zt (y := zB (decide (0 = 0))) (show _ = zB (decide (0 = 0)) from rfl) ?_
                      refine lv_istore (lv' := [(4, .int (zB (decide (0 = 0)))), (2, .int (zB true)), (7, .int (zB (decide (t i = 61)))), (6, .int (nI (t i))), (0, .ref (a 17)), (1, .int (nI n)), (3, .int (nI (zPc sn))), (5, .int (nI i))]) hx hb dM_look_304 hl (by decide) rfl (fun ls hl => ?_)
                      refine lv_iinc (v := nI (i + 1)) (lv' := [(5, .int (nI (i + 1))), (4, .int (zB (decide (0 = 0)))), (2, .int (zB true)), (7, .int (zB (decide (t i = 61)))), (6, .int (nI (t i))), (0, .ref (a 17)), (1, .int (nI n)), (3, .int (nI (zPc sn)))]) hx hb dM_look_306 hl (k := 7) rfl (nI_1 _) (by decide) rfl (fun ls hl => ?_)
                      refine lv_goto (tgt := 39) hx hb dM_look_309 (by decide) ?_
                      have hns : ¬ zSgn (t i) = true := by unfold zSgn; simp; omega
                      exact ih (i + 1) w 0 sn true _ _ at0 ln mi sd H locs ls (by omega) (by omega) (zLR_end hLR) (by rw [← hR]; exact (zgT c_42 (gs_n4 c_298 (by cases bh; rfl; omega) (by omega))).symm) (by show zRk t (n - (i + 1)) (i + 1) w 0 true at0 ln mi sd = _; rw [← hR2, zRk_c c_42 hns, decide_eq_true c_298, Bool.or_true]) (by rw [← hR3]; exact (zSn_a c_42 (if_neg (by omega)).symm).symm) hP hS (lv_sub hl [5, 6, 2, 7, 1, 0] rfl)
                  · have c_285 : t i = 61 := of_decide_eq_true (zB_n0 c_285)
                    refine lv_iload_n hx hb dM_look_288 rfl (lv_at hl 4 rfl) ?_
                    refine lv_iconst (v := nI 1) hx hb dM_look_289 (by decide) ?_
                    refine lv_icmp_ne (tgt := 296) hx hb dM_look_290 (by decide) (fun c_290 => ?_) (fun c_290 => ?_)
                    · have c_290 : bh = false := by cases bh with | false => rfl | true => exact absurd rfl c_290
                      refine lv_iload hx hb dM_look_296 (lv_at hl 0 rfl) ?_
                      refine lv_if_eq (tgt := 303) hx hb dM_look_298 (by decide) (fun c_298 => ?_) (fun c_298 => ?_)
                      · have c_298 : ¬ t i = 61 := zB_d0.mp c_298
                        refine lv_iconst (v := nI 1) hx hb dM_look_303 (by decide) ?_
                        refine zt (y := zB (decide (0 = 0))) (show _ = zB (decide (0 = 0)) from rfl) ?_
                        refine lv_istore (lv' := [(4, .int (zB (decide (0 = 0)))), (7, .int (zB (decide (t i = 61)))), (6, .int (nI (t i))), (0, .ref (a 17)), (1, .int (nI n)), (2, .int (zB bh)), (3, .int (nI (zPc sn))), (5, .int (nI i))]) hx hb dM_look_304 hl (by decide) rfl (fun ls hl => ?_)
                        refine lv_iinc (v := nI (i + 1)) (lv' := [(5, .int (nI (i + 1))), (4, .int (zB (decide (0 = 0)))), (7, .int (zB (decide (t i = 61)))), (6, .int (nI (t i))), (0, .ref (a 17)), (1, .int (nI n)), (2, .int (zB bh)), (3, .int (nI (zPc sn)))]) hx hb dM_look_306 hl (k := 7) rfl (nI_1 _) (by decide) rfl (fun ls hl => ?_)
                        refine lv_goto (tgt := 39) hx hb dM_look_309 (by decide) ?_
                        have hns : ¬ zSgn (t i) = true := by unfold zSgn; simp; omega
                        exact ih (i + 1) w 0 sn bh _ _ at0 ln mi sd H locs ls (by omega) (by omega) (zLR_end hLR) (by rw [← hR]; exact (zgT c_42 (gs_n3 (by omega) (by omega))).symm) (by rw [← hR2, zRk_c c_42 hns, decide_eq_false c_298, Bool.or_false]) (by rw [← hR3]; exact (zSn_a c_42 (if_neg (by omega)).symm).symm) hP hS (lv_sub hl [4, 5, 6, 7, 1, 0] rfl)
                      · have c_298 : t i = 61 := of_decide_eq_true (zB_n0 c_298)
                        refine lv_iconst (v := nI 1) hx hb dM_look_301 (by decide) ?_
                        refine zt (y := zB true) (show _ = zB true from rfl) ?_
                        refine lv_istore_n (lv' := [(2, .int (zB true)), (7, .int (zB (decide (t i = 61)))), (6, .int (nI (t i))), (0, .ref (a 17)), (1, .int (nI n)), (3, .int (nI (zPc sn))), (4, .int (nI 0)), (5, .int (nI i))]) hx hb dM_look_302 rfl hl (by decide) rfl (fun ls hl => ?_)
                        refine lv_iconst (v := nI 1) hx hb dM_look_303 (by decide) ?_
                        refine zt (y := zB (decide (0 = 0))) (show _ = zB (decide (0 = 0)) from rfl) ?_
                        refine lv_istore (lv' := [(4, .int (zB (decide (0 = 0)))), (2, .int (zB true)), (7, .int (zB (decide (t i = 61)))), (6, .int (nI (t i))), (0, .ref (a 17)), (1, .int (nI n)), (3, .int (nI (zPc sn))), (5, .int (nI i))]) hx hb dM_look_304 hl (by decide) rfl (fun ls hl => ?_)
                        refine lv_iinc (v := nI (i + 1)) (lv' := [(5, .int (nI (i + 1))), (4, .int (zB (decide (0 = 0)))), (2, .int (zB true)), (7, .int (zB (decide (t i = 61)))), (6, .int (nI (t i))), (0, .ref (a 17)), (1, .int (nI n)), (3, .int (nI (zPc sn)))]) hx hb dM_look_306 hl (k := 7) rfl (nI_1 _) (by decide) rfl (fun ls hl => ?_)
                        refine lv_goto (tgt := 39) hx hb dM_look_309 (by decide) ?_
                        have hns : ¬ zSgn (t i) = true := by unfold zSgn; simp; omega
                        exact ih (i + 1) w 0 sn true _ _ at0 ln mi sd H locs ls (by omega) (by omega) (zLR_end hLR) (by rw [← hR]; exact (zgT c_42 (gs_n4 c_298 (c_290) (by omega))).symm) (by show zRk t (n - (i + 1)) (i + 1) w 0 true at0 ln mi sd = _; rw [← hR2, zRk_c c_42 hns, decide_eq_true c_298, Bool.or_true]) (by rw [← hR3]; exact (zSn_a c_42 (if_neg (by omega)).symm).symm) hP hS (lv_sub hl [5, 6, 2, 7, 1, 0] rfl)
                    · have c_290 : bh = true := zB_eq1.mp c_290
                      refine lv_iload hx hb dM_look_293 (lv_at hl 7 rfl) ?_
                      exact W.iret hx hb hr (fun zT zh _ => ⟨⟨_, (f1, g1, h, r), rfl, ⟨_, _, rfl, (by rw [← hR]; exact (zgF c_42 (gs_n2 c_285 c_290)).symm), hLR.1, hLR.2.1, fun q => absurd q (nI_nem1 (by omega))⟩, zbw zh hP⟩, hS.F zh⟩) hS.2.2 dM_look_295
                · have c_268 := mt (nI_eq (a := t i) (b := 43) (by have := (ht i c_42).2; omega) (by omega)).mpr c_268
                  refine lv_iload hx hb dM_look_271 (lv_at hl 1 rfl) ?_
                  refine lv_bipush (v := nI 45) hx hb dM_look_273 (by decide) ?_
                  refine lv_icmp_eq (tgt := 283) hx hb dM_look_275 (by decide) (fun c_275 => ?_) (fun c_275 => ?_)
                  · have c_275 := (nI_eq (a := t i) (b := 45) (by have := (ht i c_42).2; omega) (by omega)).mp c_275
                    refine lv_iload hx hb dM_look_283 (lv_at hl 0 rfl) ?_
                    refine lv_if_eq (tgt := 296) hx hb dM_look_285 (by decide) (fun c_285 => ?_) (fun c_285 => ?_)
                    · have c_285 : ¬ t i = 61 := zB_d0.mp c_285
                      refine lv_iload hx hb dM_look_296 (lv_at hl 0 rfl) ?_
                      refine lv_if_eq (tgt := 303) hx hb dM_look_298 (by decide) (fun c_298 => ?_) (fun c_298 => ?_)
                      · have c_298 : ¬ t i = 61 := zB_d0.mp c_298
                        refine lv_iconst (v := nI 1) hx hb dM_look_303 (by decide) ?_
                        refine zt (y := zB (decide (0 = 0))) (show _ = zB (decide (0 = 0)) from rfl) ?_
                        refine lv_istore (lv' := [(4, .int (zB (decide (0 = 0)))), (7, .int (zB (decide (t i = 61)))), (6, .int (nI (t i))), (0, .ref (a 17)), (1, .int (nI n)), (2, .int (zB bh)), (3, .int (nI (zPc sn))), (5, .int (nI i))]) hx hb dM_look_304 hl (by decide) rfl (fun ls hl => ?_)
                        refine lv_iinc (v := nI (i + 1)) (lv' := [(5, .int (nI (i + 1))), (4, .int (zB (decide (0 = 0)))), (7, .int (zB (decide (t i = 61)))), (6, .int (nI (t i))), (0, .ref (a 17)), (1, .int (nI n)), (2, .int (zB bh)), (3, .int (nI (zPc sn)))]) hx hb dM_look_306 hl (k := 7) rfl (nI_1 _) (by decide) rfl (fun ls hl => ?_)
                        refine lv_goto (tgt := 39) hx hb dM_look_309 (by decide) ?_
                        have hns : ¬ zSgn (t i) = true := by unfold zSgn; simp; omega
                        exact ih (i + 1) w 0 sn bh _ _ at0 ln mi sd H locs ls (by omega) (by omega) (zLR_end hLR) (by rw [← hR]; exact (zgT c_42 (gs_n3 (by omega) (by omega))).symm) (by rw [← hR2, zRk_c c_42 hns, decide_eq_false c_298, Bool.or_false]) (by rw [← hR3]; exact (zSn_a c_42 (if_neg (by omega)).symm).symm) hP hS (lv_sub hl [4, 5, 6, 7, 1, 0] rfl)
                      · have c_298 : t i = 61 := of_decide_eq_true (zB_n0 c_298)
                        refine lv_iconst (v := nI 1) hx hb dM_look_301 (by decide) ?_
                        refine zt (y := zB true) (show _ = zB true from rfl) ?_
                        refine lv_istore_n (lv' := [(2, .int (zB true)), (7, .int (zB (decide (t i = 61)))), (6, .int (nI (t i))), (0, .ref (a 17)), (1, .int (nI n)), (3, .int (nI (zPc sn))), (4, .int (nI 0)), (5, .int (nI i))]) hx hb dM_look_302 rfl hl (by decide) rfl (fun ls hl => ?_)
                        refine lv_iconst (v := nI 1) hx hb dM_look_303 (by decide) ?_
                        refine zt (y := zB (decide (0 = 0))) (show _ = zB (decide (0 = 0)) from rfl) ?_
                        refine lv_istore (lv' := [(4, .int (zB (decide (0 = 0)))), (2, .int (zB true)), (7, .int (zB (decide (t i = 61)))), (6, .int (nI (t i))), (0, .ref (a 17)), (1, .int (nI n)), (3, .int (nI (zPc sn))), (5, .int (nI i))]) hx hb dM_look_304 hl (by decide) rfl (fun ls hl => ?_)
                        refine lv_iinc (v := nI (i + 1)) (lv' := [(5, .int (nI (i + 1))), (4, .int (zB (decide (0 = 0)))), (2, .int (zB true)), (7, .int (zB (decide (t i = 61)))), (6, .int (nI (t i))), (0, .ref (a 17)), (1, .int (nI n)), (3, .int (nI (zPc sn)))]) hx hb dM_look_306 hl (k := 7) rfl (nI_1 _) (by decide) rfl (fun ls hl => ?_)
                        refine lv_goto (tgt := 39) hx hb dM_look_309 (by decide) ?_
                        have hns : ¬ zSgn (t i) = true := by unfold zSgn; simp; omega
                        exact ih (i + 1) w 0 sn true _ _ at0 ln mi sd H locs ls (by omega) (by omega) (zLR_end hLR) (by rw [← hR]; exact (zgT c_42 (gs_n4 c_298 (by cases bh; rfl; omega) (by omega))).symm) (by show zRk t (n - (i + 1)) (i + 1) w 0 true at0 ln mi sd = _; rw [← hR2, zRk_c c_42 hns, decide_eq_true c_298, Bool.or_true]) (by rw [← hR3]; exact (zSn_a c_42 (if_neg (by omega)).symm).symm) hP hS (lv_sub hl [5, 6, 2, 7, 1, 0] rfl)
                    · have c_285 : t i = 61 := of_decide_eq_true (zB_n0 c_285)
                      refine lv_iload_n hx hb dM_look_288 rfl (lv_at hl 4 rfl) ?_
                      refine lv_iconst (v := nI 1) hx hb dM_look_289 (by decide) ?_
                      refine lv_icmp_ne (tgt := 296) hx hb dM_look_290 (by decide) (fun c_290 => ?_) (fun c_290 => ?_)
                      · have c_290 : bh = false := by cases bh with | false => rfl | true => exact absurd rfl c_290
                        refine lv_iload hx hb dM_look_296 (lv_at hl 0 rfl) ?_
                        refine lv_if_eq (tgt := 303) hx hb dM_look_298 (by decide) (fun c_298 => ?_) (fun c_298 => ?_)
                        · have c_298 : ¬ t i = 61 := zB_d0.mp c_298
                          refine lv_iconst (v := nI 1) hx hb dM_look_303 (by decide) ?_
                          refine zt (y := zB (decide (0 = 0))) (show _ = zB (decide (0 = 0)) from rfl) ?_
                          refine lv_istore (lv' := [(4, .int (zB (decide (0 = 0)))), (7, .int (zB (decide (t i = 61)))), (6, .int (nI (t i))), (0, .ref (a 17)), (1, .int (nI n)), (2, .int (zB bh)), (3, .int (nI (zPc sn))), (5, .int (nI i))]) hx hb dM_look_304 hl (by decide) rfl (fun ls hl => ?_)
                          refine lv_iinc (v := nI (i + 1)) (lv' := [(5, .int (nI (i + 1))), (4, .int (zB (decide (0 = 0)))), (7, .int (zB (decide (t i = 61)))), (6, .int (nI (t i))), (0, .ref (a 17)), (1, .int (nI n)), (2, .int (zB bh)), (3, .int (nI (zPc sn)))]) hx hb dM_look_306 hl (k := 7) rfl (nI_1 _) (by decide) rfl (fun ls hl => ?_)
                          refine lv_goto (tgt := 39) hx hb dM_look_309 (by decide) ?_
                          have hns : ¬ zSgn (t i) = true := by unfold zSgn; simp; omega
                          exact ih (i + 1) w 0 sn bh _ _ at0 ln mi sd H locs ls (by omega) (by omega) (zLR_end hLR) (by rw [← hR]; exact (zgT c_42 (gs_n3 (by omega) (by omega))).symm) (by rw [← hR2, zRk_c c_42 hns, decide_eq_false c_298, Bool.or_false]) (by rw [← hR3]; exact (zSn_a c_42 (if_neg (by omega)).symm).symm) hP hS (lv_sub hl [4, 5, 6, 7, 1, 0] rfl)
                        · have c_298 : t i = 61 := of_decide_eq_true (zB_n0 c_298)
                          refine lv_iconst (v := nI 1) hx hb dM_look_301 (by decide) ?_
                          refine zt (y := zB true) (show _ = zB true from rfl) ?_
                          refine lv_istore_n (lv' := [(2, .int (zB true)), (7, .int (zB (decide (t i = 61)))), (6, .int (nI (t i))), (0, .ref (a 17)), (1, .int (nI n)), (3, .int (nI (zPc sn))), (4, .int (nI 0)), (5, .int (nI i))]) hx hb dM_look_302 rfl hl (by decide) rfl (fun ls hl => ?_)
                          refine lv_iconst (v := nI 1) hx hb dM_look_303 (by decide) ?_
                          refine zt (y := zB (decide (0 = 0))) (show _ = zB (decide (0 = 0)) from rfl) ?_
                          refine lv_istore (lv' := [(4, .int (zB (decide (0 = 0)))), (2, .int (zB true)), (7, .int (zB (decide (t i = 61)))), (6, .int (nI (t i))), (0, .ref (a 17)), (1, .int (nI n)), (3, .int (nI (zPc sn))), (5, .int (nI i))]) hx hb dM_look_304 hl (by decide) rfl (fun ls hl => ?_)
                          refine lv_iinc (v := nI (i + 1)) (lv' := [(5, .int (nI (i + 1))), (4, .int (zB (decide (0 = 0)))), (2, .int (zB true)), (7, .int (zB (decide (t i = 61)))), (6, .int (nI (t i))), (0, .ref (a 17)), (1, .int (nI n)), (3, .int (nI (zPc sn)))]) hx hb dM_look_306 hl (k := 7) rfl (nI_1 _) (by decide) rfl (fun ls hl => ?_)
                          refine lv_goto (tgt := 39) hx hb dM_look_309 (by decide) ?_
                          have hns : ¬ zSgn (t i) = true := by unfold zSgn; simp; omega
                          exact ih (i + 1) w 0 sn true _ _ at0 ln mi sd H locs ls (by omega) (by omega) (zLR_end hLR) (by rw [← hR]; exact (zgT c_42 (gs_n4 c_298 (c_290) (by omega))).symm) (by show zRk t (n - (i + 1)) (i + 1) w 0 true at0 ln mi sd = _; rw [← hR2, zRk_c c_42 hns, decide_eq_true c_298, Bool.or_true]) (by rw [← hR3]; exact (zSn_a c_42 (if_neg (by omega)).symm).symm) hP hS (lv_sub hl [5, 6, 2, 7, 1, 0] rfl)
                      · have c_290 : bh = true := zB_eq1.mp c_290
                        refine lv_iload hx hb dM_look_293 (lv_at hl 7 rfl) ?_
                        exact W.iret hx hb hr (fun zT zh _ => ⟨⟨_, (f1, g1, h, r), rfl, ⟨_, _, rfl, (by rw [← hR]; exact (zgF c_42 (gs_n2 c_285 c_290)).symm), hLR.1, hLR.2.1, fun q => absurd q (nI_nem1 (by omega))⟩, zbw zh hP⟩, hS.F zh⟩) hS.2.2 dM_look_295
                  · have c_275 := mt (nI_eq (a := t i) (b := 45) (by have := (ht i c_42).2; omega) (by omega)).mpr c_275
                    refine lv_iload hx hb dM_look_278 (lv_at hl 0 rfl) ?_
                    refine lv_if_eq (tgt := 293) hx hb dM_look_280 (by decide) (fun c_280 => ?_) (fun c_280 => ?_)
                    · have c_280 : ¬ t i = 61 := zB_d0.mp c_280
                      refine lv_iload hx hb dM_look_293 (lv_at hl 7 rfl) ?_
                      exact W.iret hx hb hr (fun zT zh _ => ⟨⟨_, (f1, g1, h, r), rfl, ⟨_, _, rfl, (by rw [← hR]; exact (zgF c_42 (gs_n1 hB c_60 (by omega))).symm), hLR.1, hLR.2.1, fun q => absurd q (nI_nem1 (by omega))⟩, zbw zh hP⟩, hS.F zh⟩) hS.2.2 dM_look_295
                    · have c_280 : t i = 61 := of_decide_eq_true (zB_n0 c_280)
                      refine lv_iload hx hb dM_look_283 (lv_at hl 0 rfl) ?_
                      refine lv_if_eq (tgt := 296) hx hb dM_look_285 (by decide) (fun c_285 => ?_) (fun c_285 => ?_)
                      · have c_285 : ¬ t i = 61 := zB_d0.mp c_285
                        refine lv_iload hx hb dM_look_296 (lv_at hl 0 rfl) ?_
                        refine lv_if_eq (tgt := 303) hx hb dM_look_298 (by decide) (fun c_298 => ?_) (fun c_298 => ?_)
                        · have c_298 : ¬ t i = 61 := zB_d0.mp c_298
                          refine lv_iconst (v := nI 1) hx hb dM_look_303 (by decide) ?_
                          refine zt (y := zB (decide (0 = 0))) (show _ = zB (decide (0 = 0)) from rfl) ?_
                          refine lv_istore (lv' := [(4, .int (zB (decide (0 = 0)))), (7, .int (zB (decide (t i = 61)))), (6, .int (nI (t i))), (0, .ref (a 17)), (1, .int (nI n)), (2, .int (zB bh)), (3, .int (nI (zPc sn))), (5, .int (nI i))]) hx hb dM_look_304 hl (by decide) rfl (fun ls hl => ?_)
                          refine lv_iinc (v := nI (i + 1)) (lv' := [(5, .int (nI (i + 1))), (4, .int (zB (decide (0 = 0)))), (7, .int (zB (decide (t i = 61)))), (6, .int (nI (t i))), (0, .ref (a 17)), (1, .int (nI n)), (2, .int (zB bh)), (3, .int (nI (zPc sn)))]) hx hb dM_look_306 hl (k := 7) rfl (nI_1 _) (by decide) rfl (fun ls hl => ?_)
                          refine lv_goto (tgt := 39) hx hb dM_look_309 (by decide) ?_
                          have hns : ¬ zSgn (t i) = true := by unfold zSgn; simp; omega
                          exact ih (i + 1) w 0 sn bh _ _ at0 ln mi sd H locs ls (by omega) (by omega) (zLR_end hLR) (by rw [← hR]; exact (zgT c_42 (gs_n3 (by omega) (by omega))).symm) (by rw [← hR2, zRk_c c_42 hns, decide_eq_false c_298, Bool.or_false]) (by rw [← hR3]; exact (zSn_a c_42 (if_neg (by omega)).symm).symm) hP hS (lv_sub hl [4, 5, 6, 7, 1, 0] rfl)
                        · have c_298 : t i = 61 := of_decide_eq_true (zB_n0 c_298)
                          refine lv_iconst (v := nI 1) hx hb dM_look_301 (by decide) ?_
                          refine zt (y := zB true) (show _ = zB true from rfl) ?_
                          refine lv_istore_n (lv' := [(2, .int (zB true)), (7, .int (zB (decide (t i = 61)))), (6, .int (nI (t i))), (0, .ref (a 17)), (1, .int (nI n)), (3, .int (nI (zPc sn))), (4, .int (nI 0)), (5, .int (nI i))]) hx hb dM_look_302 rfl hl (by decide) rfl (fun ls hl => ?_)
                          refine lv_iconst (v := nI 1) hx hb dM_look_303 (by decide) ?_
                          refine zt (y := zB (decide (0 = 0))) (show _ = zB (decide (0 = 0)) from rfl) ?_
                          refine lv_istore (lv' := [(4, .int (zB (decide (0 = 0)))), (2, .int (zB true)), (7, .int (zB (decide (t i = 61)))), (6, .int (nI (t i))), (0, .ref (a 17)), (1, .int (nI n)), (3, .int (nI (zPc sn))), (5, .int (nI i))]) hx hb dM_look_304 hl (by decide) rfl (fun ls hl => ?_)
                          refine lv_iinc (v := nI (i + 1)) (lv' := [(5, .int (nI (i + 1))), (4, .int (zB (decide (0 = 0)))), (2, .int (zB true)), (7, .int (zB (decide (t i = 61)))), (6, .int (nI (t i))), (0, .ref (a 17)), (1, .int (nI n)), (3, .int (nI (zPc sn)))]) hx hb dM_look_306 hl (k := 7) rfl (nI_1 _) (by decide) rfl (fun ls hl => ?_)
                          refine lv_goto (tgt := 39) hx hb dM_look_309 (by decide) ?_
                          have hns : ¬ zSgn (t i) = true := by unfold zSgn; simp; omega
                          exact ih (i + 1) w 0 sn true _ _ at0 ln mi sd H locs ls (by omega) (by omega) (zLR_end hLR) (by rw [← hR]; exact (zgT c_42 (gs_n4 c_298 (by cases bh; rfl; omega) (by omega))).symm) (by show zRk t (n - (i + 1)) (i + 1) w 0 true at0 ln mi sd = _; rw [← hR2, zRk_c c_42 hns, decide_eq_true c_298, Bool.or_true]) (by rw [← hR3]; exact (zSn_a c_42 (if_neg (by omega)).symm).symm) hP hS (lv_sub hl [5, 6, 2, 7, 1, 0] rfl)
                      · have c_285 : t i = 61 := of_decide_eq_true (zB_n0 c_285)
                        refine lv_iload_n hx hb dM_look_288 rfl (lv_at hl 4 rfl) ?_
                        refine lv_iconst (v := nI 1) hx hb dM_look_289 (by decide) ?_
                        refine lv_icmp_ne (tgt := 296) hx hb dM_look_290 (by decide) (fun c_290 => ?_) (fun c_290 => ?_)
                        · have c_290 : bh = false := by cases bh with | false => rfl | true => exact absurd rfl c_290
                          refine lv_iload hx hb dM_look_296 (lv_at hl 0 rfl) ?_
                          refine lv_if_eq (tgt := 303) hx hb dM_look_298 (by decide) (fun c_298 => ?_) (fun c_298 => ?_)
                          · have c_298 : ¬ t i = 61 := zB_d0.mp c_298
                            refine lv_iconst (v := nI 1) hx hb dM_look_303 (by decide) ?_
                            refine zt (y := zB (decide (0 = 0))) (show _ = zB (decide (0 = 0)) from rfl) ?_
                            refine lv_istore (lv' := [(4, .int (zB (decide (0 = 0)))), (7, .int (zB (decide (t i = 61)))), (6, .int (nI (t i))), (0, .ref (a 17)), (1, .int (nI n)), (2, .int (zB bh)), (3, .int (nI (zPc sn))), (5, .int (nI i))]) hx hb dM_look_304 hl (by decide) rfl (fun ls hl => ?_)
                            refine lv_iinc (v := nI (i + 1)) (lv' := [(5, .int (nI (i + 1))), (4, .int (zB (decide (0 = 0)))), (7, .int (zB (decide (t i = 61)))), (6, .int (nI (t i))), (0, .ref (a 17)), (1, .int (nI n)), (2, .int (zB bh)), (3, .int (nI (zPc sn)))]) hx hb dM_look_306 hl (k := 7) rfl (nI_1 _) (by decide) rfl (fun ls hl => ?_)
                            refine lv_goto (tgt := 39) hx hb dM_look_309 (by decide) ?_
                            have hns : ¬ zSgn (t i) = true := by unfold zSgn; simp; omega
                            exact ih (i + 1) w 0 sn bh _ _ at0 ln mi sd H locs ls (by omega) (by omega) (zLR_end hLR) (by rw [← hR]; exact (zgT c_42 (gs_n3 (by omega) (by omega))).symm) (by rw [← hR2, zRk_c c_42 hns, decide_eq_false c_298, Bool.or_false]) (by rw [← hR3]; exact (zSn_a c_42 (if_neg (by omega)).symm).symm) hP hS (lv_sub hl [4, 5, 6, 7, 1, 0] rfl)
                          · have c_298 : t i = 61 := of_decide_eq_true (zB_n0 c_298)
                            refine lv_iconst (v := nI 1) hx hb dM_look_301 (by decide) ?_
                            refine zt (y := zB true) (show _ = zB true from rfl) ?_
                            refine lv_istore_n (lv' := [(2, .int (zB true)), (7, .int (zB (decide (t i = 61)))), (6, .int (nI (t i))), (0, .ref (a 17)), (1, .int (nI n)), (3, .int (nI (zPc sn))), (4, .int (nI 0)), (5, .int (nI i))]) hx hb dM_look_302 rfl hl (by decide) rfl (fun ls hl => ?_)
                            refine lv_iconst (v := nI 1) hx hb dM_look_303 (by decide) ?_
                            refine zt (y := zB (decide (0 = 0))) (show _ = zB (decide (0 = 0)) from rfl) ?_
                            refine lv_istore (lv' := [(4, .int (zB (decide (0 = 0)))), (2, .int (zB true)), (7, .int (zB (decide (t i = 61)))), (6, .int (nI (t i))), (0, .ref (a 17)), (1, .int (nI n)), (3, .int (nI (zPc sn))), (5, .int (nI i))]) hx hb dM_look_304 hl (by decide) rfl (fun ls hl => ?_)
                            refine lv_iinc (v := nI (i + 1)) (lv' := [(5, .int (nI (i + 1))), (4, .int (zB (decide (0 = 0)))), (2, .int (zB true)), (7, .int (zB (decide (t i = 61)))), (6, .int (nI (t i))), (0, .ref (a 17)), (1, .int (nI n)), (3, .int (nI (zPc sn)))]) hx hb dM_look_306 hl (k := 7) rfl (nI_1 _) (by decide) rfl (fun ls hl => ?_)
                            refine lv_goto (tgt := 39) hx hb dM_look_309 (by decide) ?_
                            have hns : ¬ zSgn (t i) = true := by unfold zSgn; simp; omega
                            exact ih (i + 1) w 0 sn true _ _ at0 ln mi sd H locs ls (by omega) (by omega) (zLR_end hLR) (by rw [← hR]; exact (zgT c_42 (gs_n4 c_298 (c_290) (by omega))).symm) (by show zRk t (n - (i + 1)) (i + 1) w 0 true at0 ln mi sd = _; rw [← hR2, zRk_c c_42 hns, decide_eq_true c_298, Bool.or_true]) (by rw [← hR3]; exact (zSn_a c_42 (if_neg (by omega)).symm).symm) hP hS (lv_sub hl [5, 6, 2, 7, 1, 0] rfl)
                        · have c_290 : bh = true := zB_eq1.mp c_290
                          refine lv_iload hx hb dM_look_293 (lv_at hl 7 rfl) ?_
                          exact W.iret hx hb hr (fun zT zh _ => ⟨⟨_, (f1, g1, h, r), rfl, ⟨_, _, rfl, (by rw [← hR]; exact (zgF c_42 (gs_n2 c_285 c_290)).symm), hLR.1, hLR.2.1, fun q => absurd q (nI_nem1 (by omega))⟩, zbw zh hP⟩, hS.F zh⟩) hS.2.2 dM_look_295
          · have c_60 : zIsS B (t i) = true := zB_n0 c_60
            refine lv_iload hx hb dM_look_63 (lv_at hl 5 rfl) ?_
            refine lv_if_eq (tgt := 77) hx hb dM_look_65 (by decide) (fun c_65 => ?_) (fun c_65 => ?_)
            · refine lv_iload hx hb dM_look_77 (lv_at hl 5 rfl) ?_
              refine lv_if_ne (tgt := 101) hx hb dM_look_79 (by decide) (fun c_79 => ?_) (fun c_79 => ?_)
              · exact absurd rfl c_79
              · refine lv_aload_n hx hb dM_look_82 rfl (lv_at hl 1 rfl) ?_
                refine mgr_newLong hx hb hz hi_M hown hK hP (hz _ q_474) dM_look_83 ?_
                refine lv_aload_n hx hb dM_look_86 rfl (lv_at hl 1 rfl) ?_
                refine mgf_9 (v := nI w) hx hb hz hi_M hown hK hP (hz _ q_485) hf9 dM_look_87 ?_
                refine lv_iconst (v := nI 1) hx hb dM_look_90 (by decide) ?_
                refine lv_isub hx hb dM_look_91 ?_
                refine zald (v := nI sg) hx hb hK hP 8 0 rfl rfl (w - 1) (pk_sub hw1) (by omega) (by decide) (by rw [(hLR.2.2.2.2.1 (w - 1) (by omega)).2.1, hlw]) dM_look_92 ?_
                refine lv_bipush (v := nI 8) hx hb dM_look_93 (by decide) ?_
                refine lv_icmp_ne (tgt := 101) hx hb dM_look_95 (by decide) (fun c_95 => ?_) (fun c_95 => ?_)
                · have c_95 := mt (nI_eq (a := sg) (b := 8) (by omega) (by omega)).mpr c_95
                  refine lv_iload hx hb dM_look_101 (lv_at hl 0 rfl) ?_
                  refine zq_e (zrS0 (rest := []) ⟨hx, hb, hml, hown, hz⟩ (c_M_isLetter l  (nI (t i))) ⟨zcB 1 hz q_561 q_9 q_563 (by decide +kernel) rfl rfl ⟨Nat.le_of_ble_eq_true rfl, Nat.le_of_ble_eq_true rfl⟩, hz _ q_562⟩ rfl hl.1 rfl (Nat.le_of_ble_eq_true rfl) dM_look_103 ⟨Nat.zero_le _, Nat.zero_le _⟩) ?_
                  refine lv_if_eq (tgt := 145) hx hb dM_look_106 (by decide) (fun c_106 => ?_) (fun c_106 => ?_)
                  · have c_106 := zLet_f (by have := (ht i c_42).2; omega) c_106
                    exact t145 sn _ H locs ls c_42 (zIsS_sgn hB c_60) (by omega) hLR (zgT c_42 (gs_ok hB c_60 ((if_neg c_106).symm) hpc (by rw [if_neg hsg]; omega) (by omega))) (zSn_a c_42 (if_neg c_106).symm) hP hS (lv_sub hl [1, 2, 3, 4, 5, 6] rfl)
                  · have c_106 := zLet_t (by have := (ht i c_42).2; omega) c_106
                    refine lv_aload_n hx hb dM_look_109 rfl (lv_at hl 1 rfl) ?_
                    refine mgr_seen hx hb hz hi_M hown hK hP (hz _ q_477) dM_look_110 ?_
                    refine lv_iload hx hb dM_look_113 (lv_at hl 0 rfl) ?_
                    refine lv_bipush (v := nI 97) hx hb dM_look_115 (by decide) ?_
                    refine lv_isub hx hb dM_look_117 ?_
                    refine zbld (v := zB (sn.testBit (t i - 97))) hx hb hK hP 11 1 rfl rfl (t i - 97) (pk_sub c_106.1) (by omega) (by decide) (hLR.2.2.2.1 (t i - 97) (by omega)) dM_look_118 ?_
                    refine lv_if_ne (tgt := 145) hx hb dM_look_119 (by decide) (fun c_119 => ?_) (fun c_119 => ?_)
                    · have c_119 : sn.testBit (t i - 97) = true := zB_n0 c_119
                      exact t145 sn _ H locs ls c_42 (zIsS_sgn hB c_60) (by omega) hLR (zgT c_42 (gs_ok hB c_60 ((by rw [if_pos c_106, zOr_in c_119])) hpc (by rw [if_neg hsg]; omega) (by omega))) (zSn_a c_42 (by rw [if_pos c_106, zOr_in c_119])) hP hS (lv_sub hl [1, 2, 3, 4, 5, 6] rfl)
                    · have c_119 : sn.testBit (t i - 97) = false := zB_eq0.mp c_119
                      refine lv_iload_n hx hb dM_look_122 rfl (lv_at hl 4 rfl) ?_
                      refine lv_bipush (v := nI 8) hx hb dM_look_123 (by decide) ?_
                      refine lv_icmp_ne (tgt := 131) hx hb dM_look_125 (by decide) (fun c_125 => ?_) (fun c_125 => ?_)
                      · have c_125 := mt (nI_eq (a := (zPc sn)) (b := 8) (by omega) (by omega)).mpr c_125
                        refine lv_aload_n hx hb dM_look_131 rfl (lv_at hl 1 rfl) ?_
                        refine mgr_seen hx hb hz hi_M hown hK hP (hz _ q_477) dM_look_132 ?_
                        refine lv_iload hx hb dM_look_135 (lv_at hl 0 rfl) ?_
                        refine lv_bipush (v := nI 97) hx hb dM_look_137 (by decide) ?_
                        refine lv_isub hx hb dM_look_139 ?_
                        refine lv_iconst (v := nI 1) hx hb dM_look_140 (by decide) ?_
                        refine zbst (wd' := WM cA cZ cJ a f1 (updA g1 11 (t i - 97) (nI 1)) h r) hx hb hK hP (hD _ _ _ _) hS 11 1 rfl rfl (t i - 97) (pk_sub c_106.1) (by omega) (by decide) (by decide) rfl dM_look_141 (fun H locs hP hS => ?_)
                        refine lv_iinc (v := nI (zPc (sn ||| 2 ^ (t i - 97)))) (lv' := [(3, .int (nI (zPc (sn ||| 2 ^ (t i - 97))))), (6, .int (nI (t i))), (0, .ref (a 17)), (1, .int (nI n)), (2, .int (zB bh)), (4, .int (nI 0)), (5, .int (nI i))]) hx hb dM_look_142 hl (k := 4) rfl (by rw [zPc_new (by omega) c_119]; exact nI_1 _) (by decide) rfl (fun ls hl => ?_)
                        exact t145 (sn ||| 2 ^ (t i - 97)) _ H locs ls c_42 (zIsS_sgn hB c_60) (by omega) (zLR_see hLR (by omega) (by rw [zPc_new (by omega) c_119]; omega)) (zgT c_42 (gs_ok hB c_60 ((if_pos c_106).symm) (by rw [zPc_new (by omega) c_119]; omega) (by rw [if_neg hsg]; omega) (by omega))) (zSn_a c_42 (if_pos c_106).symm) hP hS (lv_sub hl [2, 3, 4, 0, 5, 6] rfl)
                      · have c_125 := (nI_eq (a := (zPc sn)) (b := 8) (by omega) (by omega)).mp c_125
                        refine lv_iload hx hb dM_look_128 (lv_at hl 6 rfl) ?_
                        exact W.iret hx hb hr (fun zT zh _ => ⟨⟨_, (f1, g1, h, r), rfl, ⟨_, _, rfl, (by rw [← hR]; exact (zgF c_42 (gs_let8 c_106 (by rw [zPc_new (by omega) c_119]; omega))).symm), hLR.1, hLR.2.1, fun q => absurd q (nI_nem1 (by omega))⟩, zbw zh hP⟩, hS.F zh⟩) hS.2.2 dM_look_130
                · have c_95 := (nI_eq (a := sg) (b := 8) (by omega) (by omega)).mp c_95
                  refine lv_iload hx hb dM_look_98 (lv_at hl 6 rfl) ?_
                  exact W.iret hx hb hr (fun zT zh _ => ⟨⟨_, (f1, g1, h, r), rfl, ⟨_, _, rfl, (by rw [← hR]; exact (zgF c_42 (gs_fail hB c_60 (Or.inr (by omega)))).symm), hLR.1, hLR.2.1, fun q => absurd q (nI_nem1 (by omega))⟩, zbw zh hP⟩, hS.F zh⟩) hS.2.2 dM_look_100
            · exact absurd rfl c_65
  have st36 : ∀ (g1 : Nat → Nat → Int32) (H : Heap) (locs : List Loc) (ls : Array Slot), (∀ j, j < 11 ∨ 11 < j → g1 j = g j) → (∀ j, j < 26 → g1 11 j = nI 0) → va_P (dC, dI) vwCl (WM cA cZ cJ a (upd f 9 (nI 0)) g1 h r) H → va_S (AM a) s.heap H locs → lv_has ls 8 [(0, .ref (a 17)), (1, .int (nI n)), (2, .int (nI 0)), (3, .int (nI 0)), (4, .int (nI 1))] → W zp l ze (headSpec wsM_look ({ frames := 2, cells := 0, slots := 0, locals := 41 })).room s zm ([.ref (a 17), .int (nI n)] : List Value).toArray below meth zc H locs 0 0 (MQ below (va_Qi (fun (z : Int32) (s : zMt) => ∃ f1 g1, s = (f1, g1, h, r) ∧ z = gRun B t n 0 0 0 0 false ∧ (∀ j, j ≠ 9 → f1 j = f j) ∧ (∀ j, j < 7 ∨ 11 < j → g1 j = g j) ∧ (z = -1 → zLE f1 g1 (zR0 t n) (zSn t n 0 0))) (zBW (dC, dI) vwCl (fun u : zMt => WM cA cZ cJ a u.1 u.2.1 u.2.2.1 u.2.2.2)) (AM a)) ([.ref (a 17), .int (nI n)] : List Value).toArray s 0 0 (AM a)) (F0 zm 36 ls []) := by
    intro g1 H locs ls hg1 hz1 hP hS hl
    refine lv_iconst (v := nI 0) hx hb dM_look_36 (by decide) ?_
    refine lv_istore (lv' := [(5, .int (nI 0)), (0, .ref (a 17)), (1, .int (nI n)), (2, .int (nI 0)), (3, .int (nI 0)), (4, .int (nI 1))]) hx hb dM_look_37 hl (by decide) rfl (fun ls hl => ?_)
    exact loop (n + 1) 0 0 0 0 false _ g1 (fun _ => 0) (fun _ => 0) (fun _ => false) (fun _ => false) H locs ls (by omega) (by omega) ⟨fun j hj => pk_un hj, fun j hj => hg1 j (by omega), pk_us, fun k hk => by rw [hz1 k hk, Nat.zero_testBit]; rfl, fun j hj => by omega, fun q => by omega, by omega, by omega, by decide, by decide⟩ rfl rfl rfl hP hS (lv_sub hl [1, 2, 3, 4, 5, 0] rfl)
  refine lv_iconst (v := nI 0) hx hb dM_look_0 (by decide) ?_
  refine lv_istore_n (lv' := [(2, .int (nI 0)), (0, .ref (a 17)), (1, .int (nI n))]) hx hb dM_look_1 rfl hl (by decide) rfl (fun ls hl => ?_)
  refine lv_iconst (v := nI 0) hx hb dM_look_2 (by decide) ?_
  refine lv_istore_n (lv' := [(3, .int (nI 0)), (2, .int (nI 0)), (0, .ref (a 17)), (1, .int (nI n))]) hx hb dM_look_3 rfl hl (by decide) rfl (fun ls hl => ?_)
  refine lv_iconst (v := nI 1) hx hb dM_look_4 (by decide) ?_
  refine lv_istore (lv' := [(4, .int (nI 1)), (3, .int (nI 0)), (2, .int (nI 0)), (0, .ref (a 17)), (1, .int (nI n))]) hx hb dM_look_5 hl (by decide) rfl (fun ls hl => ?_)
  refine lv_aload_n hx hb dM_look_7 rfl (lv_at hl 3 rfl) ?_
  refine lv_iconst (v := nI 0) hx hb dM_look_8 (by decide) ?_
  refine mpf_9 hx hb hz hi_M hown hK hP (hD _ _ _ _) hS (hz _ q_485) dM_look_9 (fun H locs hP hS => ?_)
  refine lv_iconst (v := nI 0) hx hb dM_look_12 (by decide) ?_
  refine lv_istore (lv' := [(5, .int (nI 0)), (4, .int (nI 1)), (3, .int (nI 0)), (2, .int (nI 0)), (0, .ref (a 17)), (1, .int (nI n))]) hx hb dM_look_13 hl (by decide) rfl (fun ls hl => ?_)
  exact clr 27 0 g H locs ls (by omega) (by omega) (fun _ _ => rfl) (fun j hj => by omega) hP hS (lv_sub hl [4, 5, 3, 2, 1, 0] rfl) st36
