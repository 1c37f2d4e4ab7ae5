set_option maxHeartbeats 4000000 in
set_option maxRecDepth 100000 in
theorem c_weighWord (l : Launch) (dC : Nat → ClassId) (dI : Nat → Nat → Nat) (cA : ClassId) (a : Nat → Nat) (f : Nat → Int32) (g : Nat → Nat → Int32) (hWD : WDist a) (k : Nat) (hk : k < 8) (n : Nat) (hn : n ≤ 80) (h9 : f 9 = nI n) (B : Nat) (h18 : f 18 = nI B) (t : Nat → Nat) (sl : Nat → Option Nat) (st en : Nat) (hst : g 2 k = nI st) (hen : g 3 k = nI en) (hle : st ≤ en) (hen2 : en ≤ n) (hsl : ∀ p, st ≤ p → p < en → zSlOk (g 1) (g 5) t sl p) (r : Int) (c : Nat → Int) (h19 : f 19 = Int32.ofInt r) (hRel : zRel (g 6) c) : Met l yW_weighWord wsW_weighWord ({ frames := 2, cells := 0, slots := 0, locals := 42 }) (va_Pc [.ref (a 9), .ref (a 2), .int (nI k)] (zPW (dC, dI) vwCl [(cA, .int)] (WT cA a f g))) (va_Qv (fun s : zSt => ∃ F6, s = (upd f 19 (Int32.ofInt (zWk B sl (fun p => (t p : Int) - 48) st (en - st) (if zBh f g k = zTk g n k then 1 else -1) (r, c)).1), sA g 6 F6) ∧ zRel F6 (zWk B sl (fun p => (t p : Int) - 48) st (en - st) (if zBh f g k = zTk g n k then 1 else -1) (r, c)).2) (zBW (dC, dI) vwCl (fun u : zSt => WT cA a u.1 u.2)) (AT a)) 0 0 (AT a) := by
  refine Met.ofW (cc := prog_6_method_3_code) (maxL := 7) (ret := none) (by decide) rfl ?_
  intro zp ze s zm args below meth zc s₁ zBL hml hv
  obtain ⟨rfl, hP, hK, hN⟩ := hv
  have hx := zBL.exec
  have hb := zBL.bytes
  have hr := zBL.returns
  have hts := atoms_spec (ws := wsW_weighWord) zBL.pre
  have hz : ∀ w ∈ zBig, w.before _ s = true := fun w h => hts w (List.mem_cons_of_mem _ h)
  have hown : s.vm.findClass "LetterSums$Weights" = some zm.cls := findClass_of_methodNamed zBL.named
  have hlocks := zBL.notSynchronized
  have hD : ∀ f g, va_D (AT a) (WT cA a f g) := fun f g => WT_D hWD f g
  have hS : va_S (AT a) s.heap s.heap [] := va_S.rf
  have hl := lv_entry ([.ref (a 9), .ref (a 2), .int (nI k)]) (n := 7) (Nat.le_of_ble_eq_true rfl)
  rw [lg_entry_eq]
  generalize (lg_sl ([.ref (a 9), .ref (a 2), .int (nI k)]) ++ List.replicate (7 - (lg_sl ([.ref (a 9), .ref (a 2), .int (nI k)])).length) Slot.unset).toArray = ls at hl ⊢
  have hl : lv_has ls 7 [(0, .ref (a 9)), (1, .ref (a 2)), (2, .int (nI k))] := hl
  have loop : ∀ (m : Nat) (un : Int) (s1 : Int × (Nat → Int)) (F6 : Nat → Int32) (H : Heap) (locs : List Loc) (ls : Array Slot), st + m ≤ en → zWk B sl (fun p => (t p : Int) - 48) st m un s1 = zWk B sl (fun p => (t p : Int) - 48) st (en - st) (if zBh f g k = zTk g n k then 1 else -1) (r, c) → zRel F6 s1.2 → va_P (dC, dI) vwCl (WT cA a (upd f 19 (Int32.ofInt s1.1)) (sA g 6 F6)) H → va_S (AT a) s.heap H locs → lv_has ls 7 [(0, .ref (a 9)), (1, .ref (a 2)), (2, .int (nI k)), (3, .int (Int32.ofInt un)), (4, .int (nI (st + m) - nI 1))] → W zp l ze (headSpec wsW_weighWord ({ frames := 2, cells := 0, slots := 0, locals := 42 })).room s zm ([.ref (a 9), .ref (a 2), .int (nI k)] : List Value).toArray below meth zc H locs 0 0 (MQ below (va_Qv (fun s : zSt => ∃ F6, s = (upd f 19 (Int32.ofInt (zWk B sl (fun p => (t p : Int) - 48) st (en - st) (if zBh f g k = zTk g n k then 1 else -1) (r, c)).1), sA g 6 F6) ∧ zRel F6 (zWk B sl (fun p => (t p : Int) - 48) st (en - st) (if zBh f g k = zTk g n k then 1 else -1) (r, c)).2) (zBW (dC, dI) vwCl (fun u : zSt => WT cA a u.1 u.2)) (AT a)) ([.ref (a 9), .ref (a 2), .int (nI k)] : List Value).toArray s 0 0 (AT a)) (F0 zm 29 ls []) := by
    intro m
    induction m with
    | zero =>
      intro un s1 F6 H locs ls hm hR hRel hP hS hl
      refine lv_iload hx hb dW_weighWord_29 (lv_at hl 4 rfl) ?_
      refine lv_aload_n hx hb dW_weighWord_31 rfl (lv_at hl 1 rfl) ?_
      refine gr_2_startsN hx hb hz hi_S hown hK hP (va_Nw.use rfl (hN _ qn_80)) dW_weighWord_32 ?_
      refine lv_iload_n hx hb dW_weighWord_35 rfl (lv_at hl 2 rfl) ?_
      refine zald (v := nI st) hx hb hK hP 4 0 rfl rfl k rfl hk (by decide) hst dW_weighWord_36 ?_
      refine lv_icmp_lt (tgt := 105) hx hb dW_weighWord_37 (by decide) (fun c_37 => ?_) (fun c_37 => ?_)
      · exact W.vret hx hb hr (fun zT zh _ => ⟨⟨(upd f 19 (Int32.ofInt s1.1), sA g 6 F6), rfl, ⟨F6, by rw [← hR]; rfl, by rw [← hR]; exact hRel⟩, zbw zh hP⟩, hS.F zh⟩) hS.2.2 dW_weighWord_105
      · exact absurd (zLow0 (by omega)) c_37
    | succ m ih =>
      intro un s1 F6 H locs ls hm hR hRel hP hS hl
      rw [zPr2 st m] at hl
      have hpl := hsl (st + m) (by omega) (by omega)
      refine lv_iload hx hb dW_weighWord_29 (lv_at hl 4 rfl) ?_
      refine lv_aload_n hx hb dW_weighWord_31 rfl (lv_at hl 1 rfl) ?_
      refine gr_2_startsN hx hb hz hi_S hown hK hP (va_Nw.use rfl (hN _ qn_80)) dW_weighWord_32 ?_
      refine lv_iload_n hx hb dW_weighWord_35 rfl (lv_at hl 2 rfl) ?_
      refine zald (v := nI st) hx hb hK hP 4 0 rfl rfl k rfl hk (by decide) hst dW_weighWord_36 ?_
      refine lv_icmp_lt (tgt := 105) hx hb dW_weighWord_37 (by decide) (fun c_37 => ?_) (fun c_37 => ?_)
      · exact absurd c_37 (nI_nlt (by omega) (by omega))
      · refine lv_aload_n hx hb dW_weighWord_40 rfl (lv_at hl 1 rfl) ?_
        refine lv_iload hx hb dW_weighWord_41 (lv_at hl 4 rfl) ?_
        refine zq_e (zrV (rest := []) ⟨hx, hb, hml, hown, hz⟩ (c_byteAt l dC dI cA a (upd f 19 (Int32.ofInt s1.1)) (sA g 6 F6) (nI (st + m)) n hn h9) ⟨zcB 1 hz q_322 q_5 q_321 (by decide +kernel) rfl rfl ⟨Nat.le_of_ble_eq_true rfl, Nat.le_of_ble_eq_true rfl⟩, hz _ q_319, hz _ q_320⟩ hK hN hP 2 4 rfl rfl rfl rfl hl.1 rfl (Nat.le_of_ble_eq_true rfl) dW_weighWord_43 ⟨Nat.zero_le _, Nat.zero_le _⟩) ?_
        refine zt (y := g 1 (st + m)) (zAt_in (by omega) (by omega) rfl) ?_
        refine lv_istore (lv' := [(5, .int (g 1 (st + m))), (0, .ref (a 9)), (1, .ref (a 2)), (2, .int (nI k)), (3, .int (Int32.ofInt un)), (4, .int (nI (st + m)))]) hx hb dW_weighWord_46 hl (by decide) rfl (fun ls hl => ?_)
        refine lv_aload_n hx hb dW_weighWord_48 rfl (lv_at hl 2 rfl) ?_
        refine lv_iload hx hb dW_weighWord_49 (lv_at hl 0 rfl) ?_
        refine zq_e (zrV (rest := []) ⟨hx, hb, hml, hown, hz⟩ (c_slotOf l dC dI cA a (upd f 19 (Int32.ofInt s1.1)) (sA g 6 F6) (g 1 (st + m))) ⟨zcB 1 hz q_323 q_5 q_326 (by decide +kernel) rfl rfl ⟨Nat.le_of_ble_eq_true rfl, Nat.le_of_ble_eq_true rfl⟩, hz _ q_324, hz _ q_325⟩ hK hN hP 2 4 rfl rfl rfl rfl hl.1 rfl (Nat.le_of_ble_eq_true rfl) dW_weighWord_51 ⟨Nat.zero_le _, Nat.zero_le _⟩) ?_
        refine lv_istore (lv' := [(6, .int (zSl (g 5) (g 1 (st + m)))), (5, .int (g 1 (st + m))), (0, .ref (a 9)), (1, .ref (a 2)), (2, .int (nI k)), (3, .int (Int32.ofInt un)), (4, .int (nI (st + m)))]) hx hb dW_weighWord_54 hl (by decide) rfl (fun ls hl => ?_)
        refine lv_iload hx hb dW_weighWord_56 (lv_at hl 0 rfl) ?_
        refine lv_iconst (v := (-1)) hx hb dW_weighWord_58 (by decide) ?_
        refine lv_icmp_ne (tgt := 81) hx hb dW_weighWord_59 (by decide) (fun c_59 => ?_) (fun c_59 => ?_)
        · obtain ⟨l, hl8, c_59, hsv⟩ : ∃ l, l < 8 ∧ sl (st + m) = some l ∧ zSl (g 5) (g 1 (st + m)) = nI l := hpl.2.2.resolve_left (fun q => c_59 q.2)
          refine lv_aload_n hx hb dW_weighWord_81 rfl (lv_at hl 2 rfl) ?_
          refine gr_9_ofSlot hx hb hz hi_W hown hK hP (hz _ q_126) dW_weighWord_82 ?_
          refine lv_iload hx hb dW_weighWord_85 (lv_at hl 0 rfl) ?_
          refine lv_dup2_11 hx hb dW_weighWord_87 rfl rfl ?_
          refine zald (v := F6 l) hx hb hK hP 10 0 rfl rfl l hsv hl8 (by decide) rfl dW_weighWord_88 ?_
          refine lv_iload_n hx hb dW_weighWord_89 rfl (lv_at hl 5 rfl) ?_
          refine lv_iadd hx hb dW_weighWord_90 ?_
          refine zt (y := Int32.ofInt (s1.2 l + un)) (by rw [hRel l hl8, Int32.ofInt_add]) ?_
          refine zast (wd' := WT cA a (upd f 19 (Int32.ofInt s1.1)) (updA (sA g 6 F6) 6 l (Int32.ofInt (s1.2 l + un)))) hx hb hK hP (hD _ _) hS 10 0 rfl rfl l hsv hl8 (by decide) rfl dW_weighWord_91 (fun H locs hP hS => ?_)
          refine lv_iload_n hx hb dW_weighWord_92 rfl (lv_at hl 5 rfl) ?_
          refine lv_aload_n hx hb dW_weighWord_93 rfl (lv_at hl 2 rfl) ?_
          refine gf_18 (v := nI B) hx hb hz hi_W hown hK hP (hz _ q_125) h18 dW_weighWord_94 ?_
          refine lv_imul hx hb dW_weighWord_97 ?_
          refine zt (y := Int32.ofInt (un * B)) zMulB ?_
          refine lv_istore_n (lv' := [(3, .int (Int32.ofInt (un * B))), (6, .int (zSl (g 5) (g 1 (st + m)))), (5, .int (g 1 (st + m))), (0, .ref (a 9)), (1, .ref (a 2)), (2, .int (nI k)), (4, .int (nI (st + m)))]) hx hb dW_weighWord_98 rfl hl (by decide) rfl (fun ls hl => ?_)
          refine lv_iinc (v := nI (st + m) - nI 1) (lv' := [(4, .int (nI (st + m) - nI 1)), (3, .int (Int32.ofInt (un * B))), (6, .int (zSl (g 5) (g 1 (st + m)))), (5, .int (g 1 (st + m))), (0, .ref (a 9)), (1, .ref (a 2)), (2, .int (nI k))]) hx hb dW_weighWord_99 hl (k := 6) rfl (zM1 _) (by decide) rfl (fun ls hl => ?_)
          refine lv_goto (tgt := 29) hx hb dW_weighWord_102 (by decide) ?_
          exact ih (un * B) (s1.1, zUp s1.2 l (s1.2 l + un)) (upd F6 l (Int32.ofInt (s1.2 l + un))) H locs ls (by omega) (by rw [← hR]; show _ = zWk B sl _ st m _ _; rw [zW1_some c_59]) (zRel_up hRel) (by rw [← sA_sA g 6 F6 _]; exact hP) hS (lv_sub hl [4, 5, 6, 1, 0] rfl)
        · have c_59 : sl (st + m) = none := by
            rcases hpl.2.2 with q | ⟨l, q1, _, q3⟩
            · exact q.1
            · rw [q3] at c_59; exact absurd c_59 (nI_nem1 (by omega))
          refine lv_aload_n hx hb dW_weighWord_62 rfl (lv_at hl 2 rfl) ?_
          refine lv_dup hx hb dW_weighWord_63 rfl ?_
          refine gf_19 (v := Int32.ofInt s1.1) hx hb hz hi_W hown hK hP (hz _ q_128) rfl dW_weighWord_64 ?_
          refine lv_iload_n hx hb dW_weighWord_67 rfl (lv_at hl 5 rfl) ?_
          refine lv_iload hx hb dW_weighWord_68 (lv_at hl 1 rfl) ?_
          refine lv_bipush (v := nI 48) hx hb dW_weighWord_70 (by decide) ?_
          refine lv_isub hx hb dW_weighWord_72 ?_
          refine lv_imul hx hb dW_weighWord_73 ?_
          refine lv_iadd hx hb dW_weighWord_74 ?_
          refine zt (y := Int32.ofInt (s1.1 + un * ((t (st + m) : Int) - 48))) (by rw [hpl.1]; exact zAcc) ?_
          refine pf_19 hx hb hz hi_W hown hK hP (hD _ _) hS (hz _ q_128) dW_weighWord_75 (fun H locs hP hS => ?_)
          refine lv_goto (tgt := 92) hx hb dW_weighWord_78 (by decide) ?_
          refine lv_iload_n hx hb dW_weighWord_92 rfl (lv_at hl 5 rfl) ?_
          refine lv_aload_n hx hb dW_weighWord_93 rfl (lv_at hl 2 rfl) ?_
          refine gf_18 (v := nI B) hx hb hz hi_W hown hK hP (hz _ q_125) h18 dW_weighWord_94 ?_
          refine lv_imul hx hb dW_weighWord_97 ?_
          refine zt (y := Int32.ofInt (un * B)) zMulB ?_
          refine lv_istore_n (lv' := [(3, .int (Int32.ofInt (un * B))), (6, .int (zSl (g 5) (g 1 (st + m)))), (5, .int (g 1 (st + m))), (0, .ref (a 9)), (1, .ref (a 2)), (2, .int (nI k)), (4, .int (nI (st + m)))]) hx hb dW_weighWord_98 rfl hl (by decide) rfl (fun ls hl => ?_)
          refine lv_iinc (v := nI (st + m) - nI 1) (lv' := [(4, .int (nI (st + m) - nI 1)), (3, .int (Int32.ofInt (un * B))), (6, .int (zSl (g 5) (g 1 (st + m)))), (5, .int (g 1 (st + m))), (0, .ref (a 9)), (1, .ref (a 2)), (2, .int (nI k))]) hx hb dW_weighWord_99 hl (k := 6) rfl (zM1 _) (by decide) rfl (fun ls hl => ?_)
          refine lv_goto (tgt := 29) hx hb dW_weighWord_102 (by decide) ?_
          exact ih (un * B) (s1.1 + un * ((t (st + m) : Int) - 48), s1.2) F6 H locs ls (by omega) (by rw [← hR]; show _ = zWk B sl _ st m _ _; rw [zW1_none c_59]) hRel (by rw [← upd_upd f 19 (Int32.ofInt s1.1) _]; exact hP) hS (lv_sub hl [4, 5, 6, 1, 0] rfl)
  refine lv_aload_n hx hb dW_weighWord_0 rfl (lv_at hl 1 rfl) ?_
  refine lv_iload_n hx hb dW_weighWord_1 rfl (lv_at hl 2 rfl) ?_
  refine zq_e (zrV (rest := []) ⟨hx, hb, hml, hown, hz⟩ (c_isBehind l dC dI cA a f g k hk) ⟨zcB 1 hz q_310 q_5 q_313 (by decide +kernel) rfl rfl ⟨Nat.le_of_ble_eq_true rfl, Nat.le_of_ble_eq_true rfl⟩, hz _ q_311, hz _ q_312⟩ hK hN hP 2 4 rfl rfl rfl rfl hl.1 rfl (Nat.le_of_ble_eq_true rfl) dW_weighWord_2 ⟨Nat.zero_le _, Nat.zero_le _⟩) ?_
  refine lv_aload_n hx hb dW_weighWord_5 rfl (lv_at hl 1 rfl) ?_
  refine lv_iload_n hx hb dW_weighWord_6 rfl (lv_at hl 2 rfl) ?_
  refine zq_e (zrV (rest := [.int (zB (zBh f g k))]) ⟨hx, hb, hml, hown, hz⟩ (c_isTakenAway l dC dI cA a f g k hk n hn h9) ⟨zcB 1 hz q_314 q_5 q_317 (by decide +kernel) rfl rfl ⟨Nat.le_of_ble_eq_true rfl, Nat.le_of_ble_eq_true rfl⟩, hz _ q_315, hz _ q_316⟩ hK hN hP 2 4 rfl rfl rfl rfl hl.1 rfl (Nat.le_of_ble_eq_true rfl) dW_weighWord_7 ⟨Nat.zero_le _, Nat.zero_le _⟩) ?_
  refine lv_icmp_ne (tgt := 17) hx hb dW_weighWord_10 (by decide) (fun c_10 => ?_) (fun c_10 => ?_)
  · have c_10 : ¬ zBh f g k = zTk g n k := fun q => c_10 (by rw [q])
    refine lv_iconst (v := (-1)) hx hb dW_weighWord_17 (by decide) ?_
    refine zt (y := Int32.ofInt (if zBh f g k = zTk g n k then 1 else -1)) (by rw [if_neg c_10]; rfl) ?_
    refine lv_istore_n (lv' := [(3, .int (Int32.ofInt (if zBh f g k = zTk g n k then 1 else -1))), (0, .ref (a 9)), (1, .ref (a 2)), (2, .int (nI k))]) hx hb dW_weighWord_18 rfl hl (by decide) rfl (fun ls hl => ?_)
    refine lv_aload_n hx hb dW_weighWord_19 rfl (lv_at hl 2 rfl) ?_
    refine gr_2_endsN hx hb hz hi_S hown hK hP (va_Nw.use rfl (hN _ qn_82)) dW_weighWord_20 ?_
    refine lv_iload_n hx hb dW_weighWord_23 rfl (lv_at hl 3 rfl) ?_
    refine zald (v := nI en) hx hb hK hP 5 0 rfl rfl k rfl hk (by decide) hen dW_weighWord_24 ?_
    refine lv_iconst (v := nI 1) hx hb dW_weighWord_25 (by decide) ?_
    refine lv_isub hx hb dW_weighWord_26 ?_
    refine lv_istore (lv' := [(4, .int ((nI en) - (nI 1))), (3, .int (Int32.ofInt (if zBh f g k = zTk g n k then 1 else -1))), (0, .ref (a 9)), (1, .ref (a 2)), (2, .int (nI k))]) hx hb dW_weighWord_27 hl (by decide) rfl (fun ls hl => ?_)
    exact loop (en - st) (if zBh f g k = zTk g n k then 1 else -1) (r, c) (g 6) _ _ ls (by omega) rfl hRel (by rw [show upd f 19 (Int32.ofInt (r, c).1) = f from upd_self h19, sA_self]; exact hP) hS (by rw [show st + (en - st) = en by omega]; exact (lv_sub hl [2, 3, 4, 1, 0] rfl))
  · have c_10 : zBh f g k = zTk g n k := zB_inj c_10
    refine lv_iconst (v := nI 1) hx hb dW_weighWord_13 (by decide) ?_
    refine zt (y := Int32.ofInt (if zBh f g k = zTk g n k then 1 else -1)) (by rw [if_pos c_10]; rfl) ?_
    refine lv_goto (tgt := 18) hx hb dW_weighWord_14 (by decide) ?_
    refine lv_istore_n (lv' := [(3, .int (Int32.ofInt (if zBh f g k = zTk g n k then 1 else -1))), (0, .ref (a 9)), (1, .ref (a 2)), (2, .int (nI k))]) hx hb dW_weighWord_18 rfl hl (by decide) rfl (fun ls hl => ?_)
    refine lv_aload_n hx hb dW_weighWord_19 rfl (lv_at hl 2 rfl) ?_
    refine gr_2_endsN hx hb hz hi_S hown hK hP (va_Nw.use rfl (hN _ qn_82)) dW_weighWord_20 ?_
    refine lv_iload_n hx hb dW_weighWord_23 rfl (lv_at hl 3 rfl) ?_
    refine zald (v := nI en) hx hb hK hP 5 0 rfl rfl k rfl hk (by decide) hen dW_weighWord_24 ?_
    refine lv_iconst (v := nI 1) hx hb dW_weighWord_25 (by decide) ?_
    refine lv_isub hx hb dW_weighWord_26 ?_
    refine lv_istore (lv' := [(4, .int ((nI en) - (nI 1))), (3, .int (Int32.ofInt (if zBh f g k = zTk g n k then 1 else -1))), (0, .ref (a 9)), (1, .ref (a 2)), (2, .int (nI k))]) hx hb dW_weighWord_27 hl (by decide) rfl (fun ls hl => ?_)
    exact loop (en - st) (if zBh f g k = zTk g n k then 1 else -1) (r, c) (g 6) _ _ ls (by omega) rfl hRel (by rw [show upd f 19 (Int32.ofInt (r, c).1) = f from upd_self h19, sA_self]; exact hP) hS (by rw [show st + (en - st) = en by omega]; exact (lv_sub hl [2, 3, 4, 1, 0] rfl))

set_option maxHeartbeats 4000000 in
set_option maxRecDepth 100000 in
theorem c_noteFront (l : Launch) (dC : Nat → ClassId) (dI : Nat → Nat → Nat) (cA : ClassId) (a : Nat → Nat) (f : Nat → Int32) (g : Nat → Nat → Int32) (hWD : WDist a) (p : Nat) (n : Nat) (hn : n ≤ 80) (h9 : f 9 = nI n) (hp : p < n) (t : Nat → Nat) (sl : Nat → Option Nat) (hpl : zSlOk (g 1) (g 5) t sl p) (fr : Nat) (hfr : fr < 256) (z0 : Bool) (h20 : f 20 = nI fr) (h21 : f 21 = zB z0) : Met l yW_noteFront wsW_noteFront ({ frames := 2, cells := 0, slots := 0, locals := 41 }) (va_Pc [.ref (a 9), .ref (a 2), .int (nI p)] (zPW (dC, dI) vwCl [(cA, .int)] (WT cA a f g))) (va_Qv (fun s : zSt => s = (upd (upd f 20 (nI (match sl p with | some l => fr ||| 2 ^ l | none => fr))) 21 (zB (z0 || ((sl p).isNone && decide (t p = 48)))), g)) (zBW (dC, dI) vwCl (fun u : zSt => WT cA a u.1 u.2)) (AT a)) 0 0 (AT a) := by
  refine Met.ofW (cc := prog_6_method_4_code) (maxL := 4) (ret := none) (by decide) rfl ?_
  intro zp ze s zm args below meth zc s₁ zBL hml hv
  obtain ⟨rfl, hP, hK, hN⟩ := hv
  have hx := zBL.exec
  have hb := zBL.bytes
  have hr := zBL.returns
  have hts := atoms_spec (ws := wsW_noteFront) zBL.pre
  have hz : ∀ w ∈ zBig, w.before _ s = true := fun w h => hts w (List.mem_cons_of_mem _ h)
  have hown : s.vm.findClass "LetterSums$Weights" = some zm.cls := findClass_of_methodNamed zBL.named
  have hlocks := zBL.notSynchronized
  have hD : ∀ f g, va_D (AT a) (WT cA a f g) := fun f g => WT_D hWD f g
  have hS : va_S (AT a) s.heap s.heap [] := va_S.rf
  have hl := lv_entry ([.ref (a 9), .ref (a 2), .int (nI p)]) (n := 4) (Nat.le_of_ble_eq_true rfl)
  rw [lg_entry_eq]
  generalize (lg_sl ([.ref (a 9), .ref (a 2), .int (nI p)]) ++ List.replicate (4 - (lg_sl ([.ref (a 9), .ref (a 2), .int (nI p)])).length) Slot.unset).toArray = ls at hl ⊢
  have hl : lv_has ls 4 [(0, .ref (a 9)), (1, .ref (a 2)), (2, .int (nI p))] := hl
  refine lv_aload_n hx hb dW_noteFront_0 rfl (lv_at hl 1 rfl) ?_
  refine lv_aload_n hx hb dW_noteFront_1 rfl (lv_at hl 1 rfl) ?_
  refine lv_iload_n hx hb dW_noteFront_2 rfl (lv_at hl 2 rfl) ?_
  refine zq_e (zrV (rest := [.ref (a 2)]) ⟨hx, hb, hml, hown, hz⟩ (c_byteAt l dC dI cA a f g (nI p) n hn h9) ⟨zcB 1 hz q_322 q_5 q_321 (by decide +kernel) rfl rfl ⟨Nat.le_of_ble_eq_true rfl, Nat.le_of_ble_eq_true rfl⟩, hz _ q_319, hz _ q_320⟩ hK hN hP 2 4 rfl rfl rfl rfl hl.1 rfl (Nat.le_of_ble_eq_true rfl) dW_noteFront_3 ⟨Nat.zero_le _, Nat.zero_le _⟩) ?_
  refine zt (y := g 1 p) (zAt_in (by omega) hp rfl) ?_
  refine zq_e (zrV (rest := []) ⟨hx, hb, hml, hown, hz⟩ (c_slotOf l dC dI cA a f g (g 1 p)) ⟨zcB 1 hz q_323 q_5 q_326 (by decide +kernel) rfl rfl ⟨Nat.le_of_ble_eq_true rfl, Nat.le_of_ble_eq_true rfl⟩, hz _ q_324, hz _ q_325⟩ hK hN hP 2 4 rfl rfl rfl rfl hl.1 rfl (Nat.le_of_ble_eq_true rfl) dW_noteFront_6 ⟨Nat.zero_le _, Nat.zero_le _⟩) ?_
  refine lv_istore_n (lv' := [(3, .int (zSl (g 5) (g 1 p))), (0, .ref (a 9)), (1, .ref (a 2)), (2, .int (nI p))]) hx hb dW_noteFront_9 rfl hl (by decide) rfl (fun ls hl => ?_)
  refine lv_iload_n hx hb dW_noteFront_10 rfl (lv_at hl 0 rfl) ?_
  refine lv_iconst (v := (-1)) hx hb dW_noteFront_11 (by decide) ?_
  refine lv_icmp_eq (tgt := 30) hx hb dW_noteFront_12 (by decide) (fun c_12 => ?_) (fun c_12 => ?_)
  · have c_12 : sl p = none := by
      rcases hpl.2.2 with q | ⟨l, q1, _, q3⟩
      · exact q.1
      · rw [q3] at c_12; exact absurd c_12 (nI_nem1 (by omega))
    refine lv_aload_n hx hb dW_noteFront_30 rfl (lv_at hl 2 rfl) ?_
    refine lv_iload_n hx hb dW_noteFront_31 rfl (lv_at hl 3 rfl) ?_
    refine zq_e (zrV (rest := []) ⟨hx, hb, hml, hown, hz⟩ (c_byteAt l dC dI cA a f g (nI p) n hn h9) ⟨zcB 1 hz q_322 q_5 q_321 (by decide +kernel) rfl rfl ⟨Nat.le_of_ble_eq_true rfl, Nat.le_of_ble_eq_true rfl⟩, hz _ q_319, hz _ q_320⟩ hK hN hP 2 4 rfl rfl rfl rfl hl.1 rfl (Nat.le_of_ble_eq_true rfl) dW_noteFront_32 ⟨Nat.zero_le _, Nat.zero_le _⟩) ?_
    refine zt (y := nI (t p)) (by rw [zAt_in (by omega) hp rfl]; exact hpl.1) ?_
    refine lv_bipush (v := nI 48) hx hb dW_noteFront_35 (by decide) ?_
    refine lv_icmp_ne (tgt := 45) hx hb dW_noteFront_37 (by decide) (fun c_37 => ?_) (fun c_37 => ?_)
    · have ht2 := hpl.2.1
      have c_37 := mt (nI_eq (a := t p) (b := 48) (by omega) (by omega)).mpr c_37
      exact W.vret hx hb hr (fun zT zh _ => ⟨⟨(f, g), rfl, (by
            rw [show (match sl p with | some l => fr ||| 2 ^ l | none => fr) = fr by rw [c_12], show (z0 || ((sl p).isNone && decide (t p = 48))) = z0 by rw [c_12]; simp [c_37], ← h20, upd_self (f := f) (k := 20) rfl, ← h21, upd_self (f := f) (k := 21) rfl]), zbw zh hP⟩, hS.F zh⟩) hS.2.2 dW_noteFront_45
    · have ht2 := hpl.2.1
      have c_37 := (nI_eq (a := t p) (b := 48) (by omega) (by omega)).mp c_37
      refine lv_aload_n hx hb dW_noteFront_40 rfl (lv_at hl 1 rfl) ?_
      refine lv_iconst (v := nI 1) hx hb dW_noteFront_41 (by decide) ?_
      refine pf_21 hx hb hz hi_W hown hK hP (hD _ _) hS (hz _ q_131) (by decide) (by decide) dW_noteFront_42 (fun H locs hP hS => ?_)
      exact W.vret hx hb hr (fun zT zh _ => ⟨⟨(upd f 21 (nI 1), g), rfl, (by
            rw [show (match sl p with | some l => fr ||| 2 ^ l | none => fr) = fr by rw [c_12], show (z0 || ((sl p).isNone && decide (t p = 48))) = true by rw [c_12, c_37]; simp, ← h20, upd_self (f := f) (k := 20) rfl]; rfl), zbw zh hP⟩, hS.F zh⟩) hS.2.2 dW_noteFront_45
  · obtain ⟨l, hl8, c_12, hsv⟩ : ∃ l, l < 8 ∧ sl p = some l ∧ zSl (g 5) (g 1 p) = nI l := hpl.2.2.resolve_left (fun q => c_12 q.2)
    refine lv_aload_n hx hb dW_noteFront_15 rfl (lv_at hl 1 rfl) ?_
    refine lv_dup hx hb dW_noteFront_16 rfl ?_
    refine gf_20 (v := nI fr) hx hb hz hi_W hown hK hP (hz _ q_130) h20 dW_noteFront_17 ?_
    refine lv_iconst (v := nI 1) hx hb dW_noteFront_20 (by decide) ?_
    refine lv_iload_n hx hb dW_noteFront_21 rfl (lv_at hl 0 rfl) ?_
    refine lv_ishl hx hb dW_noteFront_22 ?_
    refine zt (y := nI (2 ^ l)) (by rw [hsv]; exact zShl (by omega)) ?_
    refine lv_ior hx hb dW_noteFront_23 ?_
    refine zt (y := nI (fr ||| 2 ^ l)) (nI_or _ _) ?_
    refine pf_20 hx hb hz hi_W hown hK hP (hD _ _) hS (hz _ q_130) dW_noteFront_24 (fun H locs hP hS => ?_)
    refine lv_goto (tgt := 45) hx hb dW_noteFront_27 (by decide) ?_
    exact W.vret hx hb hr (fun zT zh _ => ⟨⟨(upd f 20 (nI (fr ||| 2 ^ l)), g), rfl, (by
          rw [show (match sl p with | some l => fr ||| 2 ^ l | none => fr) = fr ||| 2 ^ l by rw [c_12], show (z0 || ((sl p).isNone && decide (t p = 48))) = z0 by rw [c_12]; simp, ← h21]
          exact Prod.ext (upd_self (f := upd f 20 (nI (fr ||| 2 ^ l))) (k := 21) rfl).symm rfl), zbw zh hP⟩, hS.F zh⟩) hS.2.2 dW_noteFront_45

set_option maxHeartbeats 4000000 in
set_option maxRecDepth 100000 in
theorem c_weigh (l : Launch) (dC : Nat → ClassId) (dI : Nat → Nat → Nat) (cA : ClassId) (a : Nat → Nat) (f : Nat → Int32) (g : Nat → Nat → Int32) (hWD : WDist a) (n : Nat) (hn : n ≤ 80) (h9 : f 9 = nI n) (B : Nat) (h18 : f 18 = nI B) (t : Nat → Nat) (sl : Nat → Option Nat) (nw : Nat) (hnw : nw ≤ 8) (h11 : f 11 = nI nw) (at0 ln : Nat → Nat) (hst : ∀ k, k < nw → g 2 k = nI (at0 k)) (hen : ∀ k, k < nw → g 3 k = nI (at0 k + ln k)) (hle : ∀ k, k < nw → 1 ≤ ln k ∧ at0 k + ln k ≤ n) (hsl : ∀ k, k < nw → ∀ p, at0 k ≤ p → p < at0 k + ln k → zSlOk (g 1) (g 5) t sl p) : Met l yW_weigh wsW_weigh ({ frames := 3, cells := 0, slots := 0, locals := 68 }) (va_Pc [.ref (a 9), .ref (a 2)] (zPW (dC, dI) vwCl [(cA, .int)] (WT cA a f g))) (va_Qv (fun s : zSt => ∃ F6, s = (upd (upd (upd f 19 (Int32.ofInt (zWs B sl (fun p => (t p : Int) - 48) (fun k => if zBh f g k = zTk g n k then 1 else -1) at0 ln nw).1)) 20 (nI (zFm sl at0 ln nw))) 21 (zB (zZf sl t at0 ln nw)), sA g 6 F6) ∧ zRel F6 (zWs B sl (fun p => (t p : Int) - 48) (fun k => if zBh f g k = zTk g n k then 1 else -1) at0 ln nw).2) (zBW (dC, dI) vwCl (fun u : zSt => WT cA a u.1 u.2)) (AT a)) 0 0 (AT a) := by
  refine Met.ofW (cc := prog_6_method_2_code) (maxL := 3) (ret := none) (by decide) rfl ?_
  intro zp ze s zm args below meth zc s₁ zBL hml hv
  obtain ⟨rfl, hP, hK, hN⟩ := hv
  have hx := zBL.exec
  have hb := zBL.bytes
  have hr := zBL.returns
  have hts := atoms_spec (ws := wsW_weigh) zBL.pre
  have hz : ∀ w ∈ zBig, w.before _ s = true := fun w h => hts w (List.mem_cons_of_mem _ h)
  have hown : s.vm.findClass "LetterSums$Weights" = some zm.cls := findClass_of_methodNamed zBL.named
  have hlocks := zBL.notSynchronized
  have hD : ∀ f g, va_D (AT a) (WT cA a f g) := fun f g => WT_D hWD f g
  have hS : va_S (AT a) s.heap s.heap [] := va_S.rf
  have hl := lv_entry ([.ref (a 9), .ref (a 2)]) (n := 3) (Nat.le_of_ble_eq_true rfl)
  rw [lg_entry_eq]
  generalize (lg_sl ([.ref (a 9), .ref (a 2)]) ++ List.replicate (3 - (lg_sl ([.ref (a 9), .ref (a 2)])).length) Slot.unset).toArray = ls at hl ⊢
  have hl : lv_has ls 3 [(0, .ref (a 9)), (1, .ref (a 2))] := hl
  have hsl8 : ∀ w, w < nw → ∀ l, sl (at0 w) = some l → l < 8 := fun w hw l h => zSlOk_lt (hsl w hw (at0 w) (Nat.le_refl _) (by have := hle w hw; omega)) h
  have loop : ∀ (k0 : Nat) (w : Nat) (F6 : Nat → Int32) (H : Heap) (locs : List Loc) (ls : Array Slot), nw + 1 ≤ w + k0 → w ≤ nw → zRel F6 (zWs B sl (fun p => (t p : Int) - 48) (fun k => if zBh f g k = zTk g n k then 1 else -1) at0 ln w).2 → va_P (dC, dI) vwCl (WT cA a (upd (upd (upd f 19 (Int32.ofInt (zWs B sl (fun p => (t p : Int) - 48) (fun k => if zBh f g k = zTk g n k then 1 else -1) at0 ln w).1)) 20 (nI (zFm sl at0 ln w))) 21 (zB (zZf sl t at0 ln w))) (sA g 6 F6)) H → va_S (AT a) s.heap H locs → lv_has ls 3 [(0, .ref (a 9)), (1, .ref (a 2)), (2, .int (nI w))] → W zp l ze (headSpec wsW_weigh ({ frames := 3, cells := 0, slots := 0, locals := 68 })).room s zm ([.ref (a 9), .ref (a 2)] : List Value).toArray below meth zc H locs 0 0 (MQ below (va_Qv (fun s : zSt => ∃ F6, s = (upd (upd (upd f 19 (Int32.ofInt (zWs B sl (fun p => (t p : Int) - 48) (fun k => if zBh f g k = zTk g n k then 1 else -1) at0 ln nw).1)) 20 (nI (zFm sl at0 ln nw))) 21 (zB (zZf sl t at0 ln nw)), sA g 6 F6) ∧ zRel F6 (zWs B sl (fun p => (t p : Int) - 48) (fun k => if zBh f g k = zTk g n k then 1 else -1) at0 ln nw).2) (zBW (dC, dI) vwCl (fun u : zSt => WT cA a u.1 u.2)) (AT a)) ([.ref (a 9), .ref (a 2)] : List Value).toArray s 0 0 (AT a)) (F0 zm 25 ls []) := by
    intro k0
    induction k0 with
    | zero => intro w F6 H locs ls q1 q2; omega
    | succ k0 ih =>
      intro w F6 H locs ls hk0 hw hRel hP hS hl
      have hfr : zFm sl at0 ln w < 256 := zFm_lt w (fun v hv => hsl8 v (by omega))
      refine lv_iload_n hx hb dW_weigh_25 rfl (lv_at hl 2 rfl) ?_
      refine lv_aload_n hx hb dW_weigh_26 rfl (lv_at hl 1 rfl) ?_
      refine gf_11N (v := nI nw) hx hb hz hi_S hown hK hP (va_Nw.use rfl (hN _ qn_85)) h11 dW_weigh_27 ?_
      refine lv_icmp_ge (tgt := 73) hx hb dW_weigh_30 (by decide) (fun c_30 => ?_) (fun c_30 => ?_)
      · have c_30 := (nI_leI (a := nw) (b := w) (by omega) (by omega)).mp c_30
        exact W.vret hx hb hr (fun zT zh _ => ⟨⟨(upd (upd (upd f 19 (Int32.ofInt (zWs B sl (fun p => (t p : Int) - 48) (fun k => if zBh f g k = zTk g n k then 1 else -1) at0 ln w).1)) 20 (nI (zFm sl at0 ln w))) 21 (zB (zZf sl t at0 ln w)), sA g 6 F6), rfl, (by
                have e : w = nw := by omega
                rw [e] at hRel ⊢
                exact ⟨F6, rfl, hRel⟩), zbw zh hP⟩, hS.F zh⟩) hS.2.2 dW_weigh_73
      · have c_30 := mt (nI_leI (a := nw) (b := w) (by omega) (by omega)).mpr c_30
        refine lv_aload_n hx hb dW_weigh_33 rfl (lv_at hl 0 rfl) ?_
        refine lv_aload_n hx hb dW_weigh_34 rfl (lv_at hl 1 rfl) ?_
        refine lv_iload_n hx hb dW_weigh_35 rfl (lv_at hl 2 rfl) ?_
        refine zk_v (zrV (rest := []) ⟨hx, hb, hml, hown, hz⟩ (c_weighWord l dC dI cA a (upd (upd (upd f 19 (Int32.ofInt (zWs B sl (fun p => (t p : Int) - 48) (fun k => if zBh f g k = zTk g n k then 1 else -1) at0 ln w).1)) 20 (nI (zFm sl at0 ln w))) 21 (zB (zZf sl t at0 ln w))) (sA g 6 F6) hWD w (by omega) n hn h9 B h18 t sl (at0 w) (at0 w + ln w) (hst w (by omega)) (hen w (by omega)) (by omega) (hle w (by omega)).2 (hsl w (by omega)) (zWs B sl (fun p => (t p : Int) - 48) (fun k => if zBh f g k = zTk g n k then 1 else -1) at0 ln w).1 (zWs B sl (fun p => (t p : Int) - 48) (fun k => if zBh f g k = zTk g n k then 1 else -1) at0 ln w).2 rfl hRel) ⟨zcB 2 hz q_306 q_8 q_309 (by decide +kernel) rfl rfl ⟨Nat.le_of_ble_eq_true rfl, Nat.le_of_ble_eq_true rfl⟩, hz _ q_308, hz _ qs_9⟩ hK hN hP 9 5 rfl rfl rfl rfl hl.1 rfl (Nat.le_of_ble_eq_true rfl) dW_weigh_36 ⟨Nat.zero_le _, Nat.zero_le _⟩) hS (fun _ h => h) (fun zu H1 locs zhu hP1 hS hk => ?_)
        obtain ⟨F7, rfl, hRel2⟩ := zhu
        have hww : zWk B sl (fun p => (t p : Int) - 48) (at0 w) (at0 w + ln w - at0 w) (if zBh f g w = zTk g n w then 1 else -1) ((zWs B sl (fun p => (t p : Int) - 48) (fun k => if zBh f g k = zTk g n k then 1 else -1) at0 ln w).1, (zWs B sl (fun p => (t p : Int) - 48) (fun k => if zBh f g k = zTk g n k then 1 else -1) at0 ln w).2) = zWs B sl (fun p => (t p : Int) - 48) (fun k => if zBh f g k = zTk g n k then 1 else -1) at0 ln (w + 1) := by rw [show at0 w + ln w - at0 w = ln w by omega]; rfl
        have hRel2 : zRel F7 (zWs B sl (fun p => (t p : Int) - 48) (fun k => if zBh f g k = zTk g n k then 1 else -1) at0 ln (w + 1)).2 := by rw [← hww]; exact hRel2
        have hP1 : va_P (dC, dI) vwCl (WT cA a (upd (upd (upd f 19 (Int32.ofInt (zWs B sl (fun p => (t p : Int) - 48) (fun k => if zBh f g k = zTk g n k then 1 else -1) at0 ln (w + 1)).1)) 20 (nI (zFm sl at0 ln w))) 21 (zB (zZf sl t at0 ln w))) (sA g 6 F7)) H1 := by
          rw [← hww, ← zU3 f, ← sA_sA g 6 F6 F7]
          exact hP1
        have hP := hP1
        generalize H1 = H at hP hS ⊢
        refine lv_aload_n hx hb dW_weigh_39 rfl (lv_at hl 1 rfl) ?_
        refine gr_2_endsN hx hb hz hi_S hown hK hP (va_Nw.use rfl (hN _ qn_82)) dW_weigh_40 ?_
        refine lv_iload_n hx hb dW_weigh_43 rfl (lv_at hl 2 rfl) ?_
        refine zald (v := nI (at0 w + ln w)) hx hb hK hP 5 0 rfl rfl w rfl (by omega) (by decide) (hen w (by omega)) dW_weigh_44 ?_
        refine lv_aload_n hx hb dW_weigh_45 rfl (lv_at hl 1 rfl) ?_
        refine gr_2_startsN hx hb hz hi_S hown hK hP (va_Nw.use rfl (hN _ qn_80)) dW_weigh_46 ?_
        refine lv_iload_n hx hb dW_weigh_49 rfl (lv_at hl 2 rfl) ?_
        refine zald (v := nI (at0 w)) hx hb hK hP 4 0 rfl rfl w rfl (by omega) (by decide) (hst w (by omega)) dW_weigh_50 ?_
        refine lv_isub hx hb dW_weigh_51 ?_
        refine zt (y := nI (ln w)) (zLen _ _) ?_
        refine lv_iconst (v := nI 1) hx hb dW_weigh_52 (by decide) ?_
        refine lv_icmp_le (tgt := 67) hx hb dW_weigh_53 (by decide) (fun c_53 => ?_) (fun c_53 => ?_)
        · have hb2 := hle w (by omega)
          have c_53 : ¬ 1 < ln w := Nat.not_lt.mpr ((nI_leI (a := ln w) (b := 1) (by omega) (by omega)).mp c_53)
          refine lv_iinc (v := nI (w + 1)) (lv' := [(2, .int (nI (w + 1))), (0, .ref (a 9)), (1, .ref (a 2))]) hx hb dW_weigh_67 hl (k := 2) rfl (nI_1 _) (by decide) rfl (fun ls hl => ?_)
          refine lv_goto (tgt := 25) hx hb dW_weigh_70 (by decide) ?_
          exact ih (w + 1) F7 H locs ls (by omega) (by omega) hRel2 (by
            rw [show zFm sl at0 ln (w + 1) = zFm sl at0 ln w from if_neg c_53, show zZf sl t at0 ln (w + 1) = zZf sl t at0 ln w from by simp [zZf, c_53]]
            exact hP) hS (lv_sub hl [1, 2, 0] rfl)
        · have hb2 := hle w (by omega)
          have c_53 : 1 < ln w := Nat.not_le.mp (mt (nI_leI (a := ln w) (b := 1) (by omega) (by omega)).mpr c_53)
          refine lv_aload_n hx hb dW_weigh_56 rfl (lv_at hl 0 rfl) ?_
          refine lv_aload_n hx hb dW_weigh_57 rfl (lv_at hl 1 rfl) ?_
          refine lv_aload_n hx hb dW_weigh_58 rfl (lv_at hl 1 rfl) ?_
          refine gr_2_startsN hx hb hz hi_S hown hK hP (va_Nw.use rfl (hN _ qn_80)) dW_weigh_59 ?_
          refine lv_iload_n hx hb dW_weigh_62 rfl (lv_at hl 2 rfl) ?_
          refine zald (v := nI (at0 w)) hx hb hK hP 4 0 rfl rfl w rfl (by omega) (by decide) (hst w (by omega)) dW_weigh_63 ?_
          refine zk_v (zrV (rest := []) ⟨hx, hb, hml, hown, hz⟩ (c_noteFront l dC dI cA a (upd (upd (upd f 19 (Int32.ofInt (zWs B sl (fun p => (t p : Int) - 48) (fun k => if zBh f g k = zTk g n k then 1 else -1) at0 ln (w + 1)).1)) 20 (nI (zFm sl at0 ln w))) 21 (zB (zZf sl t at0 ln w))) (sA g 6 F7) hWD (at0 w) n hn h9 (by have := hle w (by omega); omega) t sl (hsl w (by omega) (at0 w) (Nat.le_refl _) (by have := hle w (by omega); omega)) (zFm sl at0 ln w) hfr (zZf sl t at0 ln w) rfl rfl) ⟨zcB 2 hz q_327 q_8 q_330 (by decide +kernel) rfl rfl ⟨Nat.le_of_ble_eq_true rfl, Nat.le_of_ble_eq_true rfl⟩, hz _ q_329, hz _ qs_10⟩ hK hN hP 9 5 rfl rfl rfl rfl hl.1 rfl (Nat.le_of_ble_eq_true rfl) dW_weigh_64 ⟨Nat.zero_le _, Nat.zero_le _⟩) hS (fun _ h => h) (fun zu H1 locs zhu hP1 hS hk => ?_)
          subst zhu
          have hP1 : va_P (dC, dI) vwCl (WT cA a (upd (upd (upd f 19 (Int32.ofInt (zWs B sl (fun p => (t p : Int) - 48) (fun k => if zBh f g k = zTk g n k then 1 else -1) at0 ln (w + 1)).1)) 20 (nI (match sl (at0 w) with | some l => zFm sl at0 ln w ||| 2 ^ l | none => zFm sl at0 ln w))) 21 (zB (zZf sl t at0 ln w || ((sl (at0 w)).isNone && decide (t (at0 w) = 48))))) (sA g 6 F7)) H1 := by
            rw [← zU4 f]
            exact hP1
          have hP := hP1
          generalize H1 = H at hP hS ⊢
          refine lv_iinc (v := nI (w + 1)) (lv' := [(2, .int (nI (w + 1))), (0, .ref (a 9)), (1, .ref (a 2))]) hx hb dW_weigh_67 hl (k := 2) rfl (nI_1 _) (by decide) rfl (fun ls hl => ?_)
          refine lv_goto (tgt := 25) hx hb dW_weigh_70 (by decide) ?_
          exact ih (w + 1) F7 H locs ls (by omega) (by omega) hRel2 (by
            rw [show zFm sl at0 ln (w + 1) = (match sl (at0 w) with | some l => zFm sl at0 ln w ||| 2 ^ l | none => zFm sl at0 ln w) from if_pos c_53, show zZf sl t at0 ln (w + 1) = (zZf sl t at0 ln w || ((sl (at0 w)).isNone && decide (t (at0 w) = 48))) from by simp [zZf, c_53]]
            exact hP) hS (lv_sub hl [1, 2, 0] rfl)
  refine lv_aload_n hx hb dW_weigh_0 rfl (lv_at hl 0 rfl) ?_
  refine gr_9_ofSlot hx hb hz hi_W hown hK hP (hz _ q_126) dW_weigh_1 ?_
  refine lv_iconst (v := nI 0) hx hb dW_weigh_4 (by decide) ?_
  refine zk_v (zrS (rest := []) ⟨hx, hb, hml, hown, hz⟩ (c_fill l (dC, dI) vwCl (WT cA a f g) cA 10 (a 10) 8 (g 6) (nI 0) (AT a) (by decide) rfl (hD _ _)) ⟨zcB 2 hz q_305 q_6 q_74 (by decide +kernel) rfl rfl ⟨Nat.le_of_ble_eq_true rfl, Nat.le_of_ble_eq_true rfl⟩, hz _ q_73⟩ hK hN hP rfl hl.1 rfl (Nat.le_of_ble_eq_true rfl) dW_weigh_5 ⟨Nat.zero_le _, Nat.zero_le _⟩) hS (fun _ h => h) (fun zu H1 locs zhu hP1 hS hk => ?_)
  have hP1 : va_P (dC, dI) vwCl (WT cA a f (sA g 6 (zFl (nI 0) 8 (g 6)))) H1 := hP1
  have hP := hP1
  generalize H1 = H at hP hS ⊢
  refine lv_aload_n hx hb dW_weigh_8 rfl (lv_at hl 0 rfl) ?_
  refine lv_iconst (v := nI 0) hx hb dW_weigh_9 (by decide) ?_
  refine pf_19 hx hb hz hi_W hown hK hP (hD _ _) hS (hz _ q_128) dW_weigh_10 (fun H locs hP hS => ?_)
  refine lv_aload_n hx hb dW_weigh_13 rfl (lv_at hl 0 rfl) ?_
  refine lv_iconst (v := nI 0) hx hb dW_weigh_14 (by decide) ?_
  refine pf_20 hx hb hz hi_W hown hK hP (hD _ _) hS (hz _ q_130) dW_weigh_15 (fun H locs hP hS => ?_)
  refine lv_aload_n hx hb dW_weigh_18 rfl (lv_at hl 0 rfl) ?_
  refine lv_iconst (v := nI 0) hx hb dW_weigh_19 (by decide) ?_
  refine pf_21 hx hb hz hi_W hown hK hP (hD _ _) hS (hz _ q_131) (by decide) (by decide) dW_weigh_20 (fun H locs hP hS => ?_)
  refine lv_iconst (v := nI 0) hx hb dW_weigh_23 (by decide) ?_
  refine lv_istore_n (lv' := [(2, .int (nI 0)), (0, .ref (a 9)), (1, .ref (a 2))]) hx hb dW_weigh_24 rfl hl (by decide) rfl (fun ls hl => ?_)
  exact loop (nw + 1) 0 (zFl (nI 0) 8 (g 6)) _ _ ls (by omega) (by omega) (fun l hl => by rw [show zFl (nI 0) 8 (g 6) l = nI 0 from if_pos hl]; rfl) hP hS (lv_sub hl [1, 2, 0] rfl)
