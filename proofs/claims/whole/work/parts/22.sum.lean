set_option maxHeartbeats 4000000 in
set_option maxRecDepth 100000 in
theorem c_hasCarries (l : Launch) (dC : Nat → ClassId) (dI : Nat → Nat → Nat) (cA : ClassId) (a : Nat → Nat) (f : Nat → Int32) (g : Nat → Nat → Int32) (n : Nat) (hn : n ≤ 80) (h9 : f 9 = nI n) (nw : Nat) (hnw : nw ≤ 8) (h11 : f 11 = nI nw) : Met l yS_hasCarries wsS_hasCarries ({ frames := 2, cells := 0, slots := 0, locals := 42 }) (va_Pc [.ref (a 2)] (zPW (dC, dI) vwCl [(cA, .int)] (WT cA a f g))) (vp_Si (fun r => r = (zB (zHc (zTk g n) (zBh f g) nw 0 0)))) 0 0 (fun _ => False) := by
  refine Met.ofW (cc := prog_5_method_11_code) (maxL := 3) (ret := (some .boolean)) (by decide) rfl ?_
  intro zp ze s zm args below meth zc s₁ zBL hml hv
  obtain ⟨rfl, hP, hK, hN⟩ := hv
  have hx := zBL.exec
  have hb := zBL.bytes
  have hr := zBL.returns
  have hts := atoms_spec (ws := wsS_hasCarries) zBL.pre
  have hz : ∀ w ∈ zBig, w.before _ s = true := fun w h => hts w (List.mem_cons_of_mem _ h)
  have hown : s.vm.findClass "LetterSums$Sum" = some zm.cls := findClass_of_methodNamed zBL.named
  have hlocks := zBL.notSynchronized
  have hl := lv_entry ([.ref (a 2)]) (n := 3) (Nat.le_of_ble_eq_true rfl)
  rw [lg_entry_eq]
  generalize (lg_sl ([.ref (a 2)]) ++ List.replicate (3 - (lg_sl ([.ref (a 2)])).length) Slot.unset).toArray = ls at hl ⊢
  have hl : lv_has ls 3 [(0, .ref (a 2))] := hl
  have loop : ∀ (k0 : Nat) (i c : Nat) (ls : Array Slot), nw + 1 ≤ i + k0 → i ≤ nw → c ≤ i → zHc (zTk g n) (zBh f g) (nw - i) i c = zHc (zTk g n) (zBh f g) nw 0 0 → lv_has ls 3 [(0, .ref (a 2)), (1, .int (nI c)), (2, .int (nI i))] → W zp l ze (headSpec wsS_hasCarries ({ frames := 2, cells := 0, slots := 0, locals := 42 })).room s zm ([.ref (a 2)] : List Value).toArray below meth zc s.heap [] 0 0 (MQ below (vp_Si (fun r => r = (zB (zHc (zTk g n) (zBh f g) nw 0 0)))) ([.ref (a 2)] : List Value).toArray s 0 0 (fun _ => False)) (F0 zm 4 ls []) := by
    intro k0
    induction k0 with
    | zero => intro i c ls q1 q2; omega
    | succ k0 ih =>
      intro i c ls hik hin hc hR hl
      refine lv_iload_n hx hb dS_hasCarries_4 rfl (lv_at hl 2 rfl) ?_
      refine lv_aload_n hx hb dS_hasCarries_5 rfl (lv_at hl 0 rfl) ?_
      refine gf_11 (v := nI nw) hx hb hz hi_S hown hK hP (hz _ q_83) h11 dS_hasCarries_6 ?_
      refine lv_icmp_ge (tgt := 39) hx hb dS_hasCarries_9 (by decide) (fun c_9 => ?_) (fun c_9 => ?_)
      · have c_9 := (nI_leI (a := nw) (b := i) (by omega) (by omega)).mp c_9
        refine lv_iload_n hx hb dS_hasCarries_39 rfl (lv_at hl 1 rfl) ?_
        refine lv_iconst (v := nI 1) hx hb dS_hasCarries_40 (by decide) ?_
        refine lv_icmp_ne (tgt := 48) hx hb dS_hasCarries_41 (by decide) (fun c_41 => ?_) (fun c_41 => ?_)
        · have c_41 := mt (nI_eq (a := c) (b := 1) (by omega) (by omega)).mpr c_41
          refine lv_iconst (v := nI 0) hx hb dS_hasCarries_48 (by decide) ?_
          exact W.zret hx hb hr rfl (fun zT zh _ => ⟨_, rfl, (by rw [← hR, show nw - i = 0 by omega]; simp only [zHc]; rw [decide_eq_false (by omega)]; rfl), zh⟩) t_nil dS_hasCarries_49
        · have c_41 := (nI_eq (a := c) (b := 1) (by omega) (by omega)).mp c_41
          refine lv_iconst (v := nI 1) hx hb dS_hasCarries_44 (by decide) ?_
          refine lv_goto (tgt := 49) hx hb dS_hasCarries_45 (by decide) ?_
          exact W.zret hx hb hr rfl (fun zT zh _ => ⟨_, rfl, (by rw [← hR, show nw - i = 0 by omega]; simp only [zHc]; rw [decide_eq_true (by omega)]; rfl), zh⟩) t_nil dS_hasCarries_49
      · have c_9 := mt (nI_leI (a := nw) (b := i) (by omega) (by omega)).mpr c_9
        refine lv_aload_n hx hb dS_hasCarries_12 rfl (lv_at hl 0 rfl) ?_
        refine lv_iload_n hx hb dS_hasCarries_13 rfl (lv_at hl 2 rfl) ?_
        refine zq_e (zrV (rest := []) ⟨hx, hb, hml, hown, hz⟩ (c_isTakenAway l dC dI cA a f g i (by omega) n hn h9) ⟨zcB 1 hz q_417 q_5 q_317 (by decide +kernel) rfl rfl ⟨Nat.le_of_ble_eq_true rfl, Nat.le_of_ble_eq_true rfl⟩, hz _ q_315, hz _ q_316⟩ hK hN hP 2 4 rfl rfl rfl rfl hl.1 rfl (Nat.le_of_ble_eq_true rfl) dS_hasCarries_14 ⟨Nat.zero_le _, Nat.zero_le _⟩) ?_
        refine lv_if_eq (tgt := 22) hx hb dS_hasCarries_17 (by decide) (fun c_17 => ?_) (fun c_17 => ?_)
        · have c_17 : zTk g n i = false := zB_eq0.mp c_17
          refine lv_aload_n hx hb dS_hasCarries_22 rfl (lv_at hl 0 rfl) ?_
          refine lv_iload_n hx hb dS_hasCarries_23 rfl (lv_at hl 2 rfl) ?_
          refine zq_e (zrV (rest := []) ⟨hx, hb, hml, hown, hz⟩ (c_isBehind l dC dI cA a f g i (by omega)) ⟨zcB 1 hz q_405 q_5 q_313 (by decide +kernel) rfl rfl ⟨Nat.le_of_ble_eq_true rfl, Nat.le_of_ble_eq_true rfl⟩, hz _ q_311, hz _ q_312⟩ hK hN hP 2 4 rfl rfl rfl rfl hl.1 rfl (Nat.le_of_ble_eq_true rfl) dS_hasCarries_24 ⟨Nat.zero_le _, Nat.zero_le _⟩) ?_
          refine lv_if_eq (tgt := 33) hx hb dS_hasCarries_27 (by decide) (fun c_27 => ?_) (fun c_27 => ?_)
          · have c_27 : zBh f g i = false := zB_eq0.mp c_27
            refine lv_iinc (v := nI (i + 1)) (lv' := [(2, .int (nI (i + 1))), (0, .ref (a 2)), (1, .int (nI c))]) hx hb dS_hasCarries_33 hl (k := 2) rfl (nI_1 _) (by decide) rfl (fun ls hl => ?_)
            refine lv_goto (tgt := 4) hx hb dS_hasCarries_36 (by decide) ?_
            exact ih (i + 1) c ls (by omega) (by omega) (by omega) (by rw [← hR, show nw - i = (nw - (i + 1)) + 1 by omega]; simp only [zHc]; rw [if_neg (by rw [c_17]; decide), if_neg (by rw [c_27]; decide)]) (lv_sub hl [1, 2, 0] rfl)
          · have c_27 : zBh f g i = true := zB_n0 c_27
            refine lv_iinc (v := nI (c + 1)) (lv' := [(1, .int (nI (c + 1))), (0, .ref (a 2)), (2, .int (nI i))]) hx hb dS_hasCarries_30 hl (k := 1) rfl (nI_1 _) (by decide) rfl (fun ls hl => ?_)
            refine lv_iinc (v := nI (i + 1)) (lv' := [(2, .int (nI (i + 1))), (1, .int (nI (c + 1))), (0, .ref (a 2))]) hx hb dS_hasCarries_33 hl (k := 2) rfl (nI_1 _) (by decide) rfl (fun ls hl => ?_)
            refine lv_goto (tgt := 4) hx hb dS_hasCarries_36 (by decide) ?_
            exact ih (i + 1) (c + 1) ls (by omega) (by omega) (by omega) (by rw [← hR, show nw - i = (nw - (i + 1)) + 1 by omega]; simp only [zHc]; rw [if_neg (by rw [c_17]; decide), if_pos c_27]) (lv_sub hl [2, 1, 0] rfl)
        · have c_17 : zTk g n i = true := zB_n0 c_17
          refine lv_iconst (v := nI 0) hx hb dS_hasCarries_20 (by decide) ?_
          exact W.zret hx hb hr rfl (fun zT zh _ => ⟨_, rfl, (by rw [← hR, show nw - i = (nw - (i + 1)) + 1 by omega]; simp only [zHc]; rw [if_pos c_17]; rfl), zh⟩) t_nil dS_hasCarries_21
  refine lv_iconst (v := nI 0) hx hb dS_hasCarries_0 (by decide) ?_
  refine lv_istore_n (lv' := [(1, .int (nI 0)), (0, .ref (a 2))]) hx hb dS_hasCarries_1 rfl hl (by decide) rfl (fun ls hl => ?_)
  refine lv_iconst (v := nI 0) hx hb dS_hasCarries_2 (by decide) ?_
  refine lv_istore_n (lv' := [(2, .int (nI 0)), (1, .int (nI 0)), (0, .ref (a 2))]) hx hb dS_hasCarries_3 rfl hl (by decide) rfl (fun ls hl => ?_)
  exact loop (nw + 1) 0 0 ls (by omega) (by omega) (by omega) rfl (lv_sub hl [2, 1, 0] rfl)

set_option maxHeartbeats 4000000 in
set_option maxRecDepth 100000 in
theorem c_endValue (l : Launch) (dC : Nat → ClassId) (dI : Nat → Nat → Nat) (cA : ClassId) (a : Nat → Nat) (f : Nat → Int32) (g : Nat → Nat → Int32) (n : Nat) (hn : n ≤ 80) (h9 : f 9 = nI n) (B : Nat) (h8 : f 8 = nI B) (k : Nat) (hk : k < 8) (q : Nat) (hq : q ≤ 9) (x : Int32) (st en : Nat) (hst : g 2 k = nI st) (hen : g 3 k = nI en) (hle : st ≤ en) (hen2 : en ≤ 80) : Met l yS_endValue wsS_endValue ({ frames := 3, cells := 0, slots := 0, locals := 65 }) (va_Pc [.ref (a 2), .int (nI k), .int (nI q), .int x] (zPW (dC, dI) vwCl [(cA, .int)] (WT cA a f g))) (vp_Sl (fun r => r = (zHv (nI B).toInt64 (fun zi => zDg (g 1) n (g 5) (nI zi) x) (en - (max st (en - q))) (max st (en - q)) (lN 0)))) 0 0 (fun _ => False) := by
  refine Met.ofW (cc := prog_5_method_14_code) (maxL := 7) (ret := (some .long)) (by decide) rfl ?_
  intro zp ze s zm args below meth zc s₁ zBL hml hv
  obtain ⟨rfl, hP, hK, hN⟩ := hv
  have hx := zBL.exec
  have hb := zBL.bytes
  have hr := zBL.returns
  have hts := atoms_spec (ws := wsS_endValue) zBL.pre
  have hz : ∀ w ∈ zBig, w.before _ s = true := fun w h => hts w (List.mem_cons_of_mem _ h)
  have hown : s.vm.findClass "LetterSums$Sum" = some zm.cls := findClass_of_methodNamed zBL.named
  have hlocks := zBL.notSynchronized
  have hl := lv_entry ([.ref (a 2), .int (nI k), .int (nI q), .int x]) (n := 7) (Nat.le_of_ble_eq_true rfl)
  rw [lg_entry_eq]
  generalize (lg_sl ([.ref (a 2), .int (nI k), .int (nI q), .int x]) ++ List.replicate (7 - (lg_sl ([.ref (a 2), .int (nI k), .int (nI q), .int x])).length) Slot.unset).toArray = ls at hl ⊢
  have hl : lv_has ls 7 [(0, .ref (a 2)), (1, .int (nI k)), (2, .int (nI q)), (3, .int x)] := hl
  have loop : ∀ (k0 : Nat) (i : Nat) (v : Int64) (ls : Array Slot), en + 1 ≤ i + k0 → i ≤ en → zHv (nI B).toInt64 (fun zi => zDg (g 1) n (g 5) (nI zi) x) (en - i) i v = zHv (nI B).toInt64 (fun zi => zDg (g 1) n (g 5) (nI zi) x) (en - (max st (en - q))) (max st (en - q)) (lN 0) → lv_has ls 7 [(0, .ref (a 2)), (1, .int (nI k)), (2, .int (nI q)), (3, .int x), (4, .long v), (6, .int (nI i))] → W zp l ze (headSpec wsS_endValue ({ frames := 3, cells := 0, slots := 0, locals := 65 })).room s zm ([.ref (a 2), .int (nI k), .int (nI q), .int x] : List Value).toArray below meth zc s.heap [] 0 0 (MQ below (vp_Sl (fun r => r = (zHv (nI B).toInt64 (fun zi => zDg (g 1) n (g 5) (nI zi) x) (en - (max st (en - q))) (max st (en - q)) (lN 0)))) ([.ref (a 2), .int (nI k), .int (nI q), .int x] : List Value).toArray s 0 0 (fun _ => False)) (F0 zm 22 ls []) := by
    intro k0
    induction k0 with
    | zero => intro i v ls q1 q2; omega
    | succ k0 ih =>
      intro i v ls hik hin hR hl
      refine lv_iload hx hb dS_endValue_22 (lv_at hl 5 rfl) ?_
      refine lv_aload_n hx hb dS_endValue_24 rfl (lv_at hl 0 rfl) ?_
      refine gr_2_ends hx hb hz hi_S hown hK hP (hz _ q_81) dS_endValue_25 ?_
      refine lv_iload_n hx hb dS_endValue_28 rfl (lv_at hl 1 rfl) ?_
      refine zald (v := nI en) hx hb hK hP 5 0 rfl rfl k rfl hk (by decide) hen dS_endValue_29 ?_
      refine lv_icmp_ge (tgt := 58) hx hb dS_endValue_30 (by decide) (fun c_30 => ?_) (fun c_30 => ?_)
      · have c_30 := (nI_leI (a := en) (b := i) (by omega) (by omega)).mp c_30
        refine lv_lload hx hb dS_endValue_58 (lv_at hl 4 rfl) ?_
        exact W.lret hx hb hr (fun zT zh _ => ⟨_, rfl, (by rw [← hR, show en - i = 0 by omega]; rfl), zh⟩) t_nil dS_endValue_60
      · have c_30 := mt (nI_leI (a := en) (b := i) (by omega) (by omega)).mpr c_30
        refine lv_lload hx hb dS_endValue_33 (lv_at hl 4 rfl) ?_
        refine lv_aload_n hx hb dS_endValue_35 rfl (lv_at hl 0 rfl) ?_
        refine gf_8 (v := nI B) hx hb hz hi_S hown hK hP (hz _ q_75) h8 dS_endValue_36 ?_
        refine lv_i2l (v := (nI B).toInt64) hx hb dS_endValue_39 rfl ?_
        refine lv_lmul hx hb dS_endValue_40 ?_
        refine lv_aload_n hx hb dS_endValue_41 rfl (lv_at hl 0 rfl) ?_
        refine lv_iload hx hb dS_endValue_42 (lv_at hl 5 rfl) ?_
        refine lv_iload_n hx hb dS_endValue_44 rfl (lv_at hl 3 rfl) ?_
        refine zq_e (zrV (rest := [.long (v * ((nI B).toInt64))]) ⟨hx, hb, hml, hown, hz⟩ (c_digitAt l dC dI cA a f g (nI i) x n hn h9) ⟨zcB 2 hz q_411 q_5 q_414 (by decide +kernel) rfl rfl ⟨Nat.le_of_ble_eq_true rfl, Nat.le_of_ble_eq_true rfl⟩, hz _ q_412, hz _ q_413⟩ hK hN hP 2 4 rfl rfl rfl rfl hl.1 rfl (Nat.le_of_ble_eq_true rfl) dS_endValue_45 ⟨Nat.zero_le _, Nat.zero_le _⟩) ?_
        refine lv_i2l (v := (zDg (g 1) n (g 5) (nI i) x).toInt64) hx hb dS_endValue_48 rfl ?_
        refine lv_ladd hx hb dS_endValue_49 ?_
        refine lv_lstore (lv' := [(4, .long ((v * ((nI B).toInt64)) + ((zDg (g 1) n (g 5) (nI i) x).toInt64))), (0, .ref (a 2)), (1, .int (nI k)), (2, .int (nI q)), (3, .int x), (6, .int (nI i))]) hx hb dS_endValue_50 hl (by decide) rfl (fun ls hl => ?_)
        refine lv_iinc (v := nI (i + 1)) (lv' := [(6, .int (nI (i + 1))), (4, .long ((v * ((nI B).toInt64)) + ((zDg (g 1) n (g 5) (nI i) x).toInt64))), (0, .ref (a 2)), (1, .int (nI k)), (2, .int (nI q)), (3, .int x)]) hx hb dS_endValue_52 hl (k := 5) rfl (nI_1 _) (by decide) rfl (fun ls hl => ?_)
        refine lv_goto (tgt := 22) hx hb dS_endValue_55 (by decide) ?_
        exact ih (i + 1) _ ls (by omega) (by omega) (by rw [← hR, show en - i = (en - (i + 1)) + 1 by omega]; rfl) (lv_sub hl [2, 3, 4, 5, 1, 0] rfl)
  refine lv_lconst (v := lN 0) hx hb dS_endValue_0 (by decide) ?_
  refine lv_lstore (lv' := [(4, .long (lN 0)), (0, .ref (a 2)), (1, .int (nI k)), (2, .int (nI q)), (3, .int x)]) hx hb dS_endValue_1 hl (by decide) rfl (fun ls hl => ?_)
  refine lv_aload_n hx hb dS_endValue_3 rfl (lv_at hl 1 rfl) ?_
  refine gr_2_starts hx hb hz hi_S hown hK hP (hz _ q_79) dS_endValue_4 ?_
  refine lv_iload_n hx hb dS_endValue_7 rfl (lv_at hl 2 rfl) ?_
  refine zald (v := nI st) hx hb hK hP 4 0 rfl rfl k rfl hk (by decide) hst dS_endValue_8 ?_
  refine lv_aload_n hx hb dS_endValue_9 rfl (lv_at hl 1 rfl) ?_
  refine gr_2_ends hx hb hz hi_S hown hK hP (hz _ q_81) dS_endValue_10 ?_
  refine lv_iload_n hx hb dS_endValue_13 rfl (lv_at hl 2 rfl) ?_
  refine zald (v := nI en) hx hb hK hP 5 0 rfl rfl k rfl hk (by decide) hen dS_endValue_14 ?_
  refine lv_iload_n hx hb dS_endValue_15 rfl (lv_at hl 3 rfl) ?_
  refine lv_isub hx hb dS_endValue_16 ?_
  refine zq_e (zrS0 (rest := []) ⟨hx, hb, hml, hown, hz⟩ (c_mmax l  (nI st) ((nI en) - (nI q))) ⟨zcB 2 hz q_410 q_3 q_43 (by decide +kernel) rfl rfl ⟨Nat.le_of_ble_eq_true rfl, Nat.le_of_ble_eq_true rfl⟩, hz _ q_42⟩ rfl hl.1 rfl (Nat.le_of_ble_eq_true rfl) dS_endValue_17 ⟨Nat.zero_le _, Nat.zero_le _⟩) ?_
  refine zt (y := nI (max st (en - q))) (zMax (by omega) (by omega) (by omega)) ?_
  refine lv_istore (lv' := [(6, .int (nI (max st (en - q)))), (4, .long (lN 0)), (0, .ref (a 2)), (1, .int (nI k)), (2, .int (nI q)), (3, .int x)]) hx hb dS_endValue_20 hl (by decide) rfl (fun ls hl => ?_)
  exact loop (en + 1) (max st (en - q)) (lN 0) ls (by omega) (by omega) rfl (lv_sub hl [2, 3, 4, 5, 1, 0] rfl)

set_option maxHeartbeats 4000000 in
set_option maxRecDepth 100000 in
theorem c_sideValue (l : Launch) (dC : Nat → ClassId) (dI : Nat → Nat → Nat) (cA : ClassId) (a : Nat → Nat) (f : Nat → Int32) (g : Nat → Nat → Int32) (b : Bool) (n : Nat) (hn : n ≤ 80) (h9 : f 9 = nI n) (nw : Nat) (hnw : nw ≤ 8) (h11 : f 11 = nI nw) (B : Nat) (h8 : f 8 = nI B) (x : Int32) (st en : Nat → Nat) (hst : ∀ k, k < nw → g 2 k = nI (st k)) (hen : ∀ k, k < nw → g 3 k = nI (en k)) (hle : ∀ k, k < nw → st k ≤ en k ∧ en k ≤ 80) : Met l yS_sideValue wsS_sideValue ({ frames := 4, cells := 0, slots := 0, locals := 91 }) (va_Pc [.ref (a 2), .int (zB b), .int x] (zPW (dC, dI) vwCl [(cA, .int)] (WT cA a f g))) (vp_Sl (fun r => r = (zSv (zBh f g) (zTk g n) (fun k => zHv (nI B).toInt64 (fun zi => zDg (g 1) n (g 5) (nI zi) x) (en k - max (st k) (en k - 8)) (max (st k) (en k - 8)) (lN 0)) b nw 0 (lN 0)))) 0 0 (fun _ => False) := by
  refine Met.ofW (cc := prog_5_method_12_code) (maxL := 8) (ret := (some .long)) (by decide) rfl ?_
  intro zp ze s zm args below meth zc s₁ zBL hml hv
  obtain ⟨rfl, hP, hK, hN⟩ := hv
  have hx := zBL.exec
  have hb := zBL.bytes
  have hr := zBL.returns
  have hts := atoms_spec (ws := wsS_sideValue) zBL.pre
  have hz : ∀ w ∈ zBig, w.before _ s = true := fun w h => hts w (List.mem_cons_of_mem _ h)
  have hown : s.vm.findClass "LetterSums$Sum" = some zm.cls := findClass_of_methodNamed zBL.named
  have hlocks := zBL.notSynchronized
  have hl := lv_entry ([.ref (a 2), .int (zB b), .int x]) (n := 8) (Nat.le_of_ble_eq_true rfl)
  rw [lg_entry_eq]
  generalize (lg_sl ([.ref (a 2), .int (zB b), .int x]) ++ List.replicate (8 - (lg_sl ([.ref (a 2), .int (zB b), .int x])).length) Slot.unset).toArray = ls at hl ⊢
  have hl : lv_has ls 8 [(0, .ref (a 2)), (1, .int (zB b)), (2, .int x)] := hl
  have loop : ∀ (k0 : Nat) (i : Nat) (v : Int64) (ls : Array Slot), nw + 1 ≤ i + k0 → i ≤ nw → zSv (zBh f g) (zTk g n) (fun k => zHv (nI B).toInt64 (fun zi => zDg (g 1) n (g 5) (nI zi) x) (en k - max (st k) (en k - 8)) (max (st k) (en k - 8)) (lN 0)) b (nw - i) i v = zSv (zBh f g) (zTk g n) (fun k => zHv (nI B).toInt64 (fun zi => zDg (g 1) n (g 5) (nI zi) x) (en k - max (st k) (en k - 8)) (max (st k) (en k - 8)) (lN 0)) b nw 0 (lN 0) → lv_has ls 8 [(0, .ref (a 2)), (1, .int (zB b)), (2, .int x), (3, .long v), (5, .int (nI i))] → W zp l ze (headSpec wsS_sideValue ({ frames := 4, cells := 0, slots := 0, locals := 91 })).room s zm ([.ref (a 2), .int (zB b), .int x] : List Value).toArray below meth zc s.heap [] 0 0 (MQ below (vp_Sl (fun r => r = (zSv (zBh f g) (zTk g n) (fun k => zHv (nI B).toInt64 (fun zi => zDg (g 1) n (g 5) (nI zi) x) (en k - max (st k) (en k - 8)) (max (st k) (en k - 8)) (lN 0)) b nw 0 (lN 0)))) ([.ref (a 2), .int (zB b), .int x] : List Value).toArray s 0 0 (fun _ => False)) (F0 zm 5 ls []) := by
    intro k0
    induction k0 with
    | zero => intro i v ls q1 q2; omega
    | succ k0 ih =>
      intro i v ls hik hin hR hl
      refine lv_iload hx hb dS_sideValue_5 (lv_at hl 4 rfl) ?_
      refine lv_aload_n hx hb dS_sideValue_7 rfl (lv_at hl 0 rfl) ?_
      refine gf_11 (v := nI nw) hx hb hz hi_S hown hK hP (hz _ q_83) h11 dS_sideValue_8 ?_
      refine lv_icmp_ge (tgt := 61) hx hb dS_sideValue_11 (by decide) (fun c_11 => ?_) (fun c_11 => ?_)
      · have c_11 := (nI_leI (a := nw) (b := i) (by omega) (by omega)).mp c_11
        refine lv_lload_n hx hb dS_sideValue_61 rfl (lv_at hl 3 rfl) ?_
        exact W.lret hx hb hr (fun zT zh _ => ⟨_, rfl, (by rw [← hR, show nw - i = 0 by omega]; rfl), zh⟩) t_nil dS_sideValue_62
      · have c_11 := mt (nI_leI (a := nw) (b := i) (by omega) (by omega)).mpr c_11
        refine lv_aload_n hx hb dS_sideValue_14 rfl (lv_at hl 0 rfl) ?_
        refine lv_iload hx hb dS_sideValue_15 (lv_at hl 4 rfl) ?_
        refine zq_e (zrV (rest := []) ⟨hx, hb, hml, hown, hz⟩ (c_isBehind l dC dI cA a f g i (by omega)) ⟨zcB 1 hz q_405 q_5 q_313 (by decide +kernel) rfl rfl ⟨Nat.le_of_ble_eq_true rfl, Nat.le_of_ble_eq_true rfl⟩, hz _ q_311, hz _ q_312⟩ hK hN hP 2 4 rfl rfl rfl rfl hl.1 rfl (Nat.le_of_ble_eq_true rfl) dS_sideValue_17 ⟨Nat.zero_le _, Nat.zero_le _⟩) ?_
        refine lv_iload_n hx hb dS_sideValue_20 rfl (lv_at hl 1 rfl) ?_
        refine lv_icmp_ne (tgt := 55) hx hb dS_sideValue_21 (by decide) (fun c_21 => ?_) (fun c_21 => ?_)
        · have c_21 : ¬ zBh f g i = b := fun q => c_21 (by rw [q])
          refine lv_iinc (v := nI (i + 1)) (lv' := [(5, .int (nI (i + 1))), (0, .ref (a 2)), (1, .int (zB b)), (2, .int x), (3, .long v)]) hx hb dS_sideValue_55 hl (k := 4) rfl (nI_1 _) (by decide) rfl (fun ls hl => ?_)
          refine lv_goto (tgt := 5) hx hb dS_sideValue_58 (by decide) ?_
          exact ih (i + 1) _ ls (by omega) (by omega) (by rw [← hR, show nw - i = (nw - (i + 1)) + 1 by omega]; simp only [zSv]; rw [if_neg c_21]) (lv_sub hl [1, 2, 3, 4, 0] rfl)
        · have c_21 : zBh f g i = b := zB_inj c_21
          refine lv_aload_n hx hb dS_sideValue_24 rfl (lv_at hl 0 rfl) ?_
          refine lv_iload hx hb dS_sideValue_25 (lv_at hl 4 rfl) ?_
          refine lv_bipush (v := nI 8) hx hb dS_sideValue_27 (by decide) ?_
          refine lv_iload_n hx hb dS_sideValue_29 rfl (lv_at hl 2 rfl) ?_
          refine zq_le (zrV (rest := []) ⟨hx, hb, hml, hown, hz⟩ (c_endValue l dC dI cA a f g n hn h9 B h8 i (by omega) 8 (by omega) x (st i) (en i) (hst i (by omega)) (hen i (by omega)) (hle i (by omega)).1 (hle i (by omega)).2) ⟨zcB 3 hz q_406 q_5 q_409 (by decide +kernel) rfl rfl ⟨Nat.le_of_ble_eq_true rfl, Nat.le_of_ble_eq_true rfl⟩, hz _ q_408, hz _ qs_19⟩ hK hN hP 2 4 rfl rfl rfl rfl hl.1 rfl (Nat.le_of_ble_eq_true rfl) dS_sideValue_30 ⟨Nat.zero_le _, Nat.zero_le _⟩) ?_
          refine lv_lstore (lv' := [(6, .long (zHv (nI B).toInt64 (fun zi => zDg (g 1) n (g 5) (nI zi) x) (en i - max (st i) (en i - 8)) (max (st i) (en i - 8)) (lN 0))), (0, .ref (a 2)), (1, .int (zB b)), (2, .int x), (3, .long v), (5, .int (nI i))]) hx hb dS_sideValue_33 hl (by decide) rfl (fun ls hl => ?_)
          refine lv_lload_n hx hb dS_sideValue_35 rfl (lv_at hl 4 rfl) ?_
          refine lv_aload_n hx hb dS_sideValue_36 rfl (lv_at hl 1 rfl) ?_
          refine lv_iload hx hb dS_sideValue_37 (lv_at hl 5 rfl) ?_
          refine zq_e (zrV (rest := [.long v]) ⟨hx, hb, hml, hown, hz⟩ (c_isTakenAway l dC dI cA a f g i (by omega) n hn h9) ⟨zcB 1 hz q_417 q_5 q_317 (by decide +kernel) rfl rfl ⟨Nat.le_of_ble_eq_true rfl, Nat.le_of_ble_eq_true rfl⟩, hz _ q_315, hz _ q_316⟩ hK hN hP 2 4 rfl rfl rfl rfl hl.1 rfl (Nat.le_of_ble_eq_true rfl) dS_sideValue_39 ⟨Nat.zero_le _, Nat.zero_le _⟩) ?_
          refine lv_if_eq (tgt := 51) hx hb dS_sideValue_42 (by decide) (fun c_42 => ?_) (fun c_42 => ?_)
          · have c_42 : zTk g n i = false := zB_eq0.mp c_42
            refine lv_lload hx hb dS_sideValue_51 (lv_at hl 0 rfl) ?_
            refine lv_ladd hx hb dS_sideValue_53 ?_
            refine lv_lstore_n (lv' := [(3, .long (v + (zHv (nI B).toInt64 (fun zi => zDg (g 1) n (g 5) (nI zi) x) (en i - max (st i) (en i - 8)) (max (st i) (en i - 8)) (lN 0)))), (6, .long (zHv (nI B).toInt64 (fun zi => zDg (g 1) n (g 5) (nI zi) x) (en i - max (st i) (en i - 8)) (max (st i) (en i - 8)) (lN 0))), (0, .ref (a 2)), (1, .int (zB b)), (2, .int x), (5, .int (nI i))]) hx hb dS_sideValue_54 rfl hl (by decide) rfl (fun ls hl => ?_)
            refine lv_iinc (v := nI (i + 1)) (lv' := [(5, .int (nI (i + 1))), (3, .long (v + (zHv (nI B).toInt64 (fun zi => zDg (g 1) n (g 5) (nI zi) x) (en i - max (st i) (en i - 8)) (max (st i) (en i - 8)) (lN 0)))), (6, .long (zHv (nI B).toInt64 (fun zi => zDg (g 1) n (g 5) (nI zi) x) (en i - max (st i) (en i - 8)) (max (st i) (en i - 8)) (lN 0))), (0, .ref (a 2)), (1, .int (zB b)), (2, .int x)]) hx hb dS_sideValue_55 hl (k := 5) rfl (nI_1 _) (by decide) rfl (fun ls hl => ?_)
            refine lv_goto (tgt := 5) hx hb dS_sideValue_58 (by decide) ?_
            exact ih (i + 1) _ ls (by omega) (by omega) (by rw [← hR, show nw - i = (nw - (i + 1)) + 1 by omega]; simp only [zSv]; rw [if_pos c_21, if_neg (by rw [c_42]; decide)]) (lv_sub hl [3, 4, 5, 1, 0] rfl)
          · have c_42 : zTk g n i = true := zB_n0 c_42
            refine lv_lload hx hb dS_sideValue_45 (lv_at hl 0 rfl) ?_
            refine lv_lneg hx hb dS_sideValue_47 ?_
            refine lv_goto (tgt := 53) hx hb dS_sideValue_48 (by decide) ?_
            refine lv_ladd hx hb dS_sideValue_53 ?_
            refine lv_lstore_n (lv' := [(3, .long (v + (-(zHv (nI B).toInt64 (fun zi => zDg (g 1) n (g 5) (nI zi) x) (en i - max (st i) (en i - 8)) (max (st i) (en i - 8)) (lN 0))))), (6, .long (zHv (nI B).toInt64 (fun zi => zDg (g 1) n (g 5) (nI zi) x) (en i - max (st i) (en i - 8)) (max (st i) (en i - 8)) (lN 0))), (0, .ref (a 2)), (1, .int (zB b)), (2, .int x), (5, .int (nI i))]) hx hb dS_sideValue_54 rfl hl (by decide) rfl (fun ls hl => ?_)
            refine lv_iinc (v := nI (i + 1)) (lv' := [(5, .int (nI (i + 1))), (3, .long (v + (-(zHv (nI B).toInt64 (fun zi => zDg (g 1) n (g 5) (nI zi) x) (en i - max (st i) (en i - 8)) (max (st i) (en i - 8)) (lN 0))))), (6, .long (zHv (nI B).toInt64 (fun zi => zDg (g 1) n (g 5) (nI zi) x) (en i - max (st i) (en i - 8)) (max (st i) (en i - 8)) (lN 0))), (0, .ref (a 2)), (1, .int (zB b)), (2, .int x)]) hx hb dS_sideValue_55 hl (k := 5) rfl (nI_1 _) (by decide) rfl (fun ls hl => ?_)
            refine lv_goto (tgt := 5) hx hb dS_sideValue_58 (by decide) ?_
            exact ih (i + 1) _ ls (by omega) (by omega) (by rw [← hR, show nw - i = (nw - (i + 1)) + 1 by omega]; simp only [zSv]; rw [if_pos c_21, if_pos c_42]) (lv_sub hl [3, 4, 5, 1, 0] rfl)
  refine lv_lconst (v := lN 0) hx hb dS_sideValue_0 (by decide) ?_
  refine lv_lstore_n (lv' := [(3, .long (lN 0)), (0, .ref (a 2)), (1, .int (zB b)), (2, .int x)]) hx hb dS_sideValue_1 rfl hl (by decide) rfl (fun ls hl => ?_)
  refine lv_iconst (v := nI 0) hx hb dS_sideValue_2 (by decide) ?_
  refine lv_istore (lv' := [(5, .int (nI 0)), (3, .long (lN 0)), (0, .ref (a 2)), (1, .int (zB b)), (2, .int x)]) hx hb dS_sideValue_3 hl (by decide) rfl (fun ls hl => ?_)
  exact loop (nw + 1) 0 (lN 0) ls (by omega) (by omega) rfl (lv_sub hl [2, 3, 4, 1, 0] rfl)

set_option maxHeartbeats 4000000 in
set_option maxRecDepth 100000 in
theorem c_carryFrom (l : Launch) (dC : Nat → ClassId) (dI : Nat → Nat → Nat) (cA : ClassId) (a : Nat → Nat) (f : Nat → Int32) (g : Nat → Nat → Int32) (cl : Nat) (hcl : cl ≤ 8) (B : Nat) (hB1 : 1 ≤ B) (hB2 : B ≤ 10) (n : Nat) (hn : n ≤ 80) (h9 : f 9 = nI n) (nw : Nat) (hnw : nw ≤ 8) (h11 : f 11 = nI nw) (h8 : f 8 = nI B) (x : Int32) (st en : Nat → Nat) (hst : ∀ k, k < nw → g 2 k = nI (st k)) (hen : ∀ k, k < nw → g 3 k = nI (en k)) (hle : ∀ k, k < nw → st k ≤ en k ∧ en k ≤ 80) : Met l yS_carryFrom wsS_carryFrom ({ frames := 4, cells := 0, slots := 0, locals := 91 }) (va_Pc [.ref (a 2), .int (nI cl), .int x] (zPW (dC, dI) vwCl [(cA, .int)] (WT cA a f g))) (vp_Si (fun r => r = ((zCv (zBh f g) (fun k => zHv (nI B).toInt64 (fun zi => zDg (g 1) n (g 5) (nI zi) x) (en k - max (st k) (en k - (cl + 1))) (max (st k) (en k - (cl + 1))) (lN 0)) nw 0 (lN 0) / lN (B ^ (cl + 1))).toInt32))) 0 0 (fun _ => False) := by
  refine Met.ofW (cc := prog_5_method_13_code) (maxL := 8) (ret := (some .int)) (by decide) rfl ?_
  intro zp ze s zm args below meth zc s₁ zBL hml hv
  obtain ⟨rfl, hP, hK, hN⟩ := hv
  have hx := zBL.exec
  have hb := zBL.bytes
  have hr := zBL.returns
  have hts := atoms_spec (ws := wsS_carryFrom) zBL.pre
  have hz : ∀ w ∈ zBig, w.before _ s = true := fun w h => hts w (List.mem_cons_of_mem _ h)
  have hown : s.vm.findClass "LetterSums$Sum" = some zm.cls := findClass_of_methodNamed zBL.named
  have hlocks := zBL.notSynchronized
  have hl := lv_entry ([.ref (a 2), .int (nI cl), .int x]) (n := 8) (Nat.le_of_ble_eq_true rfl)
  rw [lg_entry_eq]
  generalize (lg_sl ([.ref (a 2), .int (nI cl), .int x]) ++ List.replicate (8 - (lg_sl ([.ref (a 2), .int (nI cl), .int x])).length) Slot.unset).toArray = ls at hl ⊢
  have hl : lv_has ls 8 [(0, .ref (a 2)), (1, .int (nI cl)), (2, .int x)] := hl
  have loop2 : ∀ (k0 i : Nat) (ls : Array Slot), cl + 2 ≤ i + k0 → i ≤ cl + 1 → lv_has ls 8 [(0, .ref (a 2)), (1, .int (nI cl)), (2, .int x), (3, .long (zCv (zBh f g) (fun k => zHv (nI B).toInt64 (fun zi => zDg (g 1) n (g 5) (nI zi) x) (en k - max (st k) (en k - (cl + 1))) (max (st k) (en k - (cl + 1))) (lN 0)) nw 0 (lN 0))), (5, .long (lN (B ^ i))), (7, .int (nI i))] → W zp l ze (headSpec wsS_carryFrom ({ frames := 4, cells := 0, slots := 0, locals := 91 })).room s zm ([.ref (a 2), .int (nI cl), .int x] : List Value).toArray below meth zc s.heap [] 0 0 (MQ below (vp_Si (fun r => r = ((zCv (zBh f g) (fun k => zHv (nI B).toInt64 (fun zi => zDg (g 1) n (g 5) (nI zi) x) (en k - max (st k) (en k - (cl + 1))) (max (st k) (en k - (cl + 1))) (lN 0)) nw 0 (lN 0) / lN (B ^ (cl + 1))).toInt32))) ([.ref (a 2), .int (nI cl), .int x] : List Value).toArray s 0 0 (fun _ => False)) (F0 zm 48 ls []) := by
    intro k0
    induction k0 with
    | zero => intro i ls q1 q2; omega
    | succ k0 ih =>
      intro i ls hik hin hl
      refine lv_iload hx hb dS_carryFrom_48 (lv_at hl 5 rfl) ?_
      refine lv_iload_n hx hb dS_carryFrom_50 rfl (lv_at hl 1 rfl) ?_
      refine lv_icmp_gt (tgt := 70) hx hb dS_carryFrom_51 (by decide) (fun c_51 => ?_) (fun c_51 => ?_)
      · have c_51 := (nI_ltI (a := cl) (b := i) (by omega) (by omega)).mp c_51
        have c_51 : i = cl + 1 := by omega
        subst c_51
        refine lv_lload hx hb dS_carryFrom_70 (lv_at hl 4 rfl) ?_
        refine lv_lconst (v := lN 0) hx hb dS_carryFrom_72 (by decide) ?_
        refine W.lcmp hx hb dS_carryFrom_73 ?_
        refine lv_if_le (tgt := 85) hx hb dS_carryFrom_74 (by decide) (fun c_74 => ?_) (fun c_74 => ?_)
        · exact absurd c_74 (zCmp (zPow hB1 hB2 (by omega)))
        · refine lv_lload_n hx hb dS_carryFrom_77 rfl (lv_at hl 3 rfl) ?_
          refine lv_lload hx hb dS_carryFrom_78 (lv_at hl 4 rfl) ?_
          refine lv_ldiv hx hb dS_carryFrom_80 (zDvNe (zPow hB1 hB2 (by omega))) ?_
          refine lv_l2i (v := ((zCv (zBh f g) (fun k => zHv (nI B).toInt64 (fun zi => zDg (g 1) n (g 5) (nI zi) x) (en k - max (st k) (en k - (cl + 1))) (max (st k) (en k - (cl + 1))) (lN 0)) nw 0 (lN 0)) / (lN (B ^ (cl + 1)))).toInt32) hx hb dS_carryFrom_81 rfl ?_
          refine lv_goto (tgt := 86) hx hb dS_carryFrom_82 (by decide) ?_
          exact W.iret hx hb hr (fun zT zh _ => ⟨_, rfl, rfl, zh⟩) t_nil dS_carryFrom_86
      · have c_51 := mt (nI_ltI (a := cl) (b := i) (by omega) (by omega)).mpr c_51
        refine lv_lload hx hb dS_carryFrom_54 (lv_at hl 4 rfl) ?_
        refine lv_aload_n hx hb dS_carryFrom_56 rfl (lv_at hl 0 rfl) ?_
        refine gf_8 (v := nI B) hx hb hz hi_S hown hK hP (hz _ q_75) h8 dS_carryFrom_57 ?_
        refine lv_i2l (v := (nI B).toInt64) hx hb dS_carryFrom_60 rfl ?_
        refine ztl (y := lN B) (nI_l (by omega)) ?_
        refine lv_lmul hx hb dS_carryFrom_61 ?_
        refine ztl (y := lN (B ^ (i + 1))) (by rw [lN_mul, Nat.pow_succ]) ?_
        refine lv_lstore (lv' := [(5, .long (lN (B ^ (i + 1)))), (0, .ref (a 2)), (1, .int (nI cl)), (2, .int x), (3, .long (zCv (zBh f g) (fun k => zHv (nI B).toInt64 (fun zi => zDg (g 1) n (g 5) (nI zi) x) (en k - max (st k) (en k - (cl + 1))) (max (st k) (en k - (cl + 1))) (lN 0)) nw 0 (lN 0))), (7, .int (nI i))]) hx hb dS_carryFrom_62 hl (by decide) rfl (fun ls hl => ?_)
        refine lv_iinc (v := nI (i + 1)) (lv' := [(7, .int (nI (i + 1))), (5, .long (lN (B ^ (i + 1)))), (0, .ref (a 2)), (1, .int (nI cl)), (2, .int x), (3, .long (zCv (zBh f g) (fun k => zHv (nI B).toInt64 (fun zi => zDg (g 1) n (g 5) (nI zi) x) (en k - max (st k) (en k - (cl + 1))) (max (st k) (en k - (cl + 1))) (lN 0)) nw 0 (lN 0)))]) hx hb dS_carryFrom_64 hl (k := 5) rfl (nI_1 _) (by decide) rfl (fun ls hl => ?_)
        refine lv_goto (tgt := 48) hx hb dS_carryFrom_67 (by decide) ?_
        exact ih (i + 1) ls (by omega) (by omega) (lv_sub hl [2, 3, 4, 5, 1, 0] rfl)
  have loop1 : ∀ (k0 : Nat) (i : Nat) (v : Int64) (ls : Array Slot), nw + 1 ≤ i + k0 → i ≤ nw → zCv (zBh f g) (fun k => zHv (nI B).toInt64 (fun zi => zDg (g 1) n (g 5) (nI zi) x) (en k - max (st k) (en k - (cl + 1))) (max (st k) (en k - (cl + 1))) (lN 0)) (nw - i) i v = zCv (zBh f g) (fun k => zHv (nI B).toInt64 (fun zi => zDg (g 1) n (g 5) (nI zi) x) (en k - max (st k) (en k - (cl + 1))) (max (st k) (en k - (cl + 1))) (lN 0)) nw 0 (lN 0) → lv_has ls 8 [(0, .ref (a 2)), (1, .int (nI cl)), (2, .int x), (3, .long v), (5, .int (nI i))] → W zp l ze (headSpec wsS_carryFrom ({ frames := 4, cells := 0, slots := 0, locals := 91 })).room s zm ([.ref (a 2), .int (nI cl), .int x] : List Value).toArray below meth zc s.heap [] 0 0 (MQ below (vp_Si (fun r => r = ((zCv (zBh f g) (fun k => zHv (nI B).toInt64 (fun zi => zDg (g 1) n (g 5) (nI zi) x) (en k - max (st k) (en k - (cl + 1))) (max (st k) (en k - (cl + 1))) (lN 0)) nw 0 (lN 0) / lN (B ^ (cl + 1))).toInt32))) ([.ref (a 2), .int (nI cl), .int x] : List Value).toArray s 0 0 (fun _ => False)) (F0 zm 5 ls []) := by
    intro k0
    induction k0 with
    | zero => intro i v ls q1 q2; omega
    | succ k0 ih =>
      intro i v ls hik hin hR hl
      refine lv_iload hx hb dS_carryFrom_5 (lv_at hl 4 rfl) ?_
      refine lv_aload_n hx hb dS_carryFrom_7 rfl (lv_at hl 0 rfl) ?_
      refine gf_11 (v := nI nw) hx hb hz hi_S hown hK hP (hz _ q_83) h11 dS_carryFrom_8 ?_
      refine lv_icmp_ge (tgt := 42) hx hb dS_carryFrom_11 (by decide) (fun c_11 => ?_) (fun c_11 => ?_)
      · have c_11 := (nI_leI (a := nw) (b := i) (by omega) (by omega)).mp c_11
        refine lv_lconst (v := lN 1) hx hb dS_carryFrom_42 (by decide) ?_
        refine lv_lstore (lv' := [(5, .long (lN 1)), (0, .ref (a 2)), (1, .int (nI cl)), (2, .int x), (3, .long v)]) hx hb dS_carryFrom_43 hl (by decide) rfl (fun ls hl => ?_)
        refine lv_iconst (v := nI 0) hx hb dS_carryFrom_45 (by decide) ?_
        refine lv_istore (lv' := [(7, .int (nI 0)), (5, .long (lN 1)), (0, .ref (a 2)), (1, .int (nI cl)), (2, .int x), (3, .long v)]) hx hb dS_carryFrom_46 hl (by decide) rfl (fun ls hl => ?_)
        rw [show v = zCv (zBh f g) (fun k => zHv (nI B).toInt64 (fun zi => zDg (g 1) n (g 5) (nI zi) x) (en k - max (st k) (en k - (cl + 1))) (max (st k) (en k - (cl + 1))) (lN 0)) nw 0 (lN 0) by rw [← hR, show nw - i = 0 by omega]; rfl] at hl
        exact loop2 (cl + 2) 0 ls (by omega) (by omega) (lv_sub hl [2, 3, 4, 5, 1, 0] rfl)
      · have c_11 := mt (nI_leI (a := nw) (b := i) (by omega) (by omega)).mpr c_11
        refine lv_aload_n hx hb dS_carryFrom_14 rfl (lv_at hl 0 rfl) ?_
        refine lv_iload hx hb dS_carryFrom_15 (lv_at hl 4 rfl) ?_
        refine zq_e (zrV (rest := []) ⟨hx, hb, hml, hown, hz⟩ (c_isBehind l dC dI cA a f g i (by omega)) ⟨zcB 1 hz q_405 q_5 q_313 (by decide +kernel) rfl rfl ⟨Nat.le_of_ble_eq_true rfl, Nat.le_of_ble_eq_true rfl⟩, hz _ q_311, hz _ q_312⟩ hK hN hP 2 4 rfl rfl rfl rfl hl.1 rfl (Nat.le_of_ble_eq_true rfl) dS_carryFrom_17 ⟨Nat.zero_le _, Nat.zero_le _⟩) ?_
        refine lv_if_ne (tgt := 36) hx hb dS_carryFrom_20 (by decide) (fun c_20 => ?_) (fun c_20 => ?_)
        · have c_20 : zBh f g i = true := zB_n0 c_20
          refine lv_iinc (v := nI (i + 1)) (lv' := [(5, .int (nI (i + 1))), (0, .ref (a 2)), (1, .int (nI cl)), (2, .int x), (3, .long v)]) hx hb dS_carryFrom_36 hl (k := 4) rfl (nI_1 _) (by decide) rfl (fun ls hl => ?_)
          refine lv_goto (tgt := 5) hx hb dS_carryFrom_39 (by decide) ?_
          exact ih (i + 1) _ ls (by omega) (by omega) (by rw [← hR, show nw - i = (nw - (i + 1)) + 1 by omega]; simp only [zCv]; rw [if_pos c_20]) (lv_sub hl [1, 2, 3, 4, 0] rfl)
        · have c_20 : zBh f g i = false := zB_eq0.mp c_20
          refine lv_lload_n hx hb dS_carryFrom_23 rfl (lv_at hl 3 rfl) ?_
          refine lv_aload_n hx hb dS_carryFrom_24 rfl (lv_at hl 0 rfl) ?_
          refine lv_iload hx hb dS_carryFrom_25 (lv_at hl 4 rfl) ?_
          refine lv_iload_n hx hb dS_carryFrom_27 rfl (lv_at hl 1 rfl) ?_
          refine lv_iconst (v := nI 1) hx hb dS_carryFrom_28 (by decide) ?_
          refine lv_iadd hx hb dS_carryFrom_29 ?_
          refine zt (nI_add _ _) ?_
          refine lv_iload_n hx hb dS_carryFrom_30 rfl (lv_at hl 2 rfl) ?_
          refine zq_le (zrV (rest := [.long v]) ⟨hx, hb, hml, hown, hz⟩ (c_endValue l dC dI cA a f g n hn h9 B h8 i (by omega) (cl + 1) (by omega) x (st i) (en i) (hst i (by omega)) (hen i (by omega)) (hle i (by omega)).1 (hle i (by omega)).2) ⟨zcB 3 hz q_406 q_5 q_409 (by decide +kernel) rfl rfl ⟨Nat.le_of_ble_eq_true rfl, Nat.le_of_ble_eq_true rfl⟩, hz _ q_408, hz _ qs_19⟩ hK hN hP 2 4 rfl rfl rfl rfl hl.1 rfl (Nat.le_of_ble_eq_true rfl) dS_carryFrom_31 ⟨Nat.zero_le _, Nat.zero_le _⟩) ?_
          refine lv_ladd hx hb dS_carryFrom_34 ?_
          refine lv_lstore_n (lv' := [(3, .long (v + (zHv (nI B).toInt64 (fun zi => zDg (g 1) n (g 5) (nI zi) x) (en i - max (st i) (en i - (cl + 1))) (max (st i) (en i - (cl + 1))) (lN 0)))), (0, .ref (a 2)), (1, .int (nI cl)), (2, .int x), (5, .int (nI i))]) hx hb dS_carryFrom_35 rfl hl (by decide) rfl (fun ls hl => ?_)
          refine lv_iinc (v := nI (i + 1)) (lv' := [(5, .int (nI (i + 1))), (3, .long (v + (zHv (nI B).toInt64 (fun zi => zDg (g 1) n (g 5) (nI zi) x) (en i - max (st i) (en i - (cl + 1))) (max (st i) (en i - (cl + 1))) (lN 0)))), (0, .ref (a 2)), (1, .int (nI cl)), (2, .int x)]) hx hb dS_carryFrom_36 hl (k := 4) rfl (nI_1 _) (by decide) rfl (fun ls hl => ?_)
          refine lv_goto (tgt := 5) hx hb dS_carryFrom_39 (by decide) ?_
          exact ih (i + 1) _ ls (by omega) (by omega) (by rw [← hR, show nw - i = (nw - (i + 1)) + 1 by omega]; simp only [zCv]; rw [if_neg (by rw [c_20]; decide)]) (lv_sub hl [2, 3, 4, 1, 0] rfl)
  refine lv_lconst (v := lN 0) hx hb dS_carryFrom_0 (by decide) ?_
  refine lv_lstore_n (lv' := [(3, .long (lN 0)), (0, .ref (a 2)), (1, .int (nI cl)), (2, .int x)]) hx hb dS_carryFrom_1 rfl hl (by decide) rfl (fun ls hl => ?_)
  refine lv_iconst (v := nI 0) hx hb dS_carryFrom_2 (by decide) ?_
  refine lv_istore (lv' := [(5, .int (nI 0)), (3, .long (lN 0)), (0, .ref (a 2)), (1, .int (nI cl)), (2, .int x)]) hx hb dS_carryFrom_3 hl (by decide) rfl (fun ls hl => ?_)
  exact loop1 (nw + 1) 0 (lN 0) ls (by omega) (by omega) rfl (lv_sub hl [2, 3, 4, 1, 0] rfl)
