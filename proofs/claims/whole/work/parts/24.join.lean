set_option maxHeartbeats 4000000 in
set_option maxRecDepth 100000 in
theorem c_chainWays (l : Launch) (dC : Nat → ClassId) (dI : Nat → Nat → Nat) (cA : ClassId) (a : Nat → Nat) (f : Nat → Int32) (g : Nat → Nat → Int32) (hWD : WDist a) (N : Nat) (hN : N ≤ 5040) (h14 : f 14 = nI N) : Met l yF_chainWays wsF_chainWays ({ frames := 1, cells := 0, slots := 0, locals := 23 }) (va_Pc [.ref (a 8)] (zPW (dC, dI) vwCl [(cA, .int)] (WT cA a f g))) (va_Qv (fun s : zSt => ∃ F10 F11, s = (f, sA (sA g 10 F10) 11 F11) ∧ zChain (g 7) F10 F11 N) (zBW (dC, dI) vwCl (fun u : zSt => WT cA a u.1 u.2)) (AT a)) 0 0 (AT a) := by
  refine Met.ofW (cc := prog_4_method_5_code) (maxL := 3) (ret := none) (by decide) rfl ?_
  intro zp ze s zm args below meth zc s₁ zBL hml hv
  obtain ⟨rfl, hP, hK, hN⟩ := hv
  have hx := zBL.exec
  have hb := zBL.bytes
  have hr := zBL.returns
  have hts := atoms_spec (ws := wsF_chainWays) zBL.pre
  have hz : ∀ w ∈ zBig, w.before _ s = true := fun w h => hts w (List.mem_cons_of_mem _ h)
  have hown : s.vm.findClass "LetterSums$Search" = some zm.cls := findClass_of_methodNamed zBL.named
  have hlocks := zBL.notSynchronized
  have hD : ∀ f g, va_D (AT a) (WT cA a f g) := fun f g => WT_D hWD f g
  have hS : va_S (AT a) s.heap s.heap [] := va_S.rf
  have hl := lv_entry ([.ref (a 8)]) (n := 3) (Nat.le_of_ble_eq_true rfl)
  rw [lg_entry_eq]
  generalize (lg_sl ([.ref (a 8)]) ++ List.replicate (3 - (lg_sl ([.ref (a 8)])).length) Slot.unset).toArray = ls at hl ⊢
  have hl : lv_has ls 3 [(0, .ref (a 8))] := hl
  have loop : ∀ (m : Nat) (F10 F11 : Nat → Int32) (H : Heap) (locs : List Loc) (ls : Array Slot), m ≤ N → (∀ c, c < 4099 → zIsN (fun w => zHs (g 7 w)) N c m (F11 c)) → (∀ w, m ≤ w → w < N → zIsN (fun w => zHs (g 7 w)) N (zHs (g 7 w)) (w + 1) (F10 w)) → va_P (dC, dI) vwCl (WT cA a f (sA (sA g 10 F10) 11 F11)) H → va_S (AT a) s.heap H locs → lv_has ls 3 [(0, .ref (a 8)), (1, .int (nI m - nI 1))] → W zp l ze (headSpec wsF_chainWays ({ frames := 1, cells := 0, slots := 0, locals := 23 })).room s zm ([.ref (a 8)] : List Value).toArray below meth zc H locs 0 0 (MQ below (va_Qv (fun s : zSt => ∃ F10 F11, s = (f, sA (sA g 10 F10) 11 F11) ∧ zChain (g 7) F10 F11 N) (zBW (dC, dI) vwCl (fun u : zSt => WT cA a u.1 u.2)) (AT a)) ([.ref (a 8)] : List Value).toArray s 0 0 (AT a)) (F0 zm 15 ls []) := by
    intro m
    induction m with
    | zero =>
      intro F10 F11 H locs ls hm h1 h2 hP hS hl
      refine lv_iload_n hx hb dF_chainWays_15 rfl (lv_at hl 1 rfl) ?_
      refine lv_if_lt (tgt := 57) hx hb dF_chainWays_16 (by decide) (fun c_16 => ?_) (fun c_16 => ?_)
      · exact W.vret hx hb hr (fun zT zh _ => ⟨⟨(f, sA (sA g 10 F10) 11 F11), rfl, ⟨F10, F11, rfl, h1, fun w hw => h2 w (by omega) hw⟩, zbw zh hP⟩, hS.F zh⟩) hS.2.2 dF_chainWays_57
      · exact absurd (by decide) c_16
    | succ m ih =>
      intro F10 F11 H locs ls hm h1 h2 hP hS hl
      rw [zPr m] at hl
      refine lv_iload_n hx hb dF_chainWays_15 rfl (lv_at hl 1 rfl) ?_
      refine lv_if_lt (tgt := 57) hx hb dF_chainWays_16 (by decide) (fun c_16 => ?_) (fun c_16 => ?_)
      · exact absurd c_16 (nI_pos (by omega))
      · have c_16 := mt (nI_ltI (a := m) (b := 0) (by omega) (by omega)).mpr c_16
        refine lv_aload_n hx hb dF_chainWays_19 rfl (lv_at hl 0 rfl) ?_
        refine gr_8_waySum hx hb hz hi_F hown hK hP (hz _ q_146) dF_chainWays_20 ?_
        refine lv_iload_n hx hb dF_chainWays_23 rfl (lv_at hl 1 rfl) ?_
        refine zald (v := g 7 m) hx hb hK hP 11 0 rfl rfl m rfl (by omega) (by decide) rfl dF_chainWays_24 ?_
        refine lv_sipush (v := nI 4099) hx hb dF_chainWays_25 (by decide) ?_
        refine zq_e (zrS0 (rest := []) ⟨hx, hb, hml, hown, hz⟩ (c_floorMod l  (g 7 m)) ⟨zcB 2 hz q_356 q_3 q_358 (by decide +kernel) rfl rfl ⟨Nat.le_of_ble_eq_true rfl, Nat.le_of_ble_eq_true rfl⟩, hz _ q_357⟩ rfl hl.1 rfl (Nat.le_of_ble_eq_true rfl) dF_chainWays_28 ⟨Nat.zero_le _, Nat.zero_le _⟩) ?_
        refine lv_istore_n (lv' := [(2, .int (nI (zHs (g 7 m)))), (0, .ref (a 8)), (1, .int (nI m))]) hx hb dF_chainWays_31 rfl hl (by decide) rfl (fun ls hl => ?_)
        refine lv_aload_n hx hb dF_chainWays_32 rfl (lv_at hl 1 rfl) ?_
        refine gr_8_nextWay hx hb hz hi_F hown hK hP (hz _ q_149) dF_chainWays_33 ?_
        refine lv_iload_n hx hb dF_chainWays_36 rfl (lv_at hl 2 rfl) ?_
        refine lv_aload_n hx hb dF_chainWays_37 rfl (lv_at hl 1 rfl) ?_
        refine gr_8_firstWay hx hb hz hi_F hown hK hP (hz _ q_150) dF_chainWays_38 ?_
        refine lv_iload_n hx hb dF_chainWays_41 rfl (lv_at hl 0 rfl) ?_
        refine zald (v := F11 (zHs (g 7 m))) hx hb hK hP 15 0 rfl rfl (zHs (g 7 m)) rfl (zHs_lt _) (by decide) rfl dF_chainWays_42 ?_
        refine zast (wd' := WT cA a f (updA (sA (sA g 10 F10) 11 F11) 10 m (F11 (zHs (g 7 m))))) hx hb hK hP (hD _ _) hS 14 0 rfl rfl m rfl (by omega) (by decide) rfl dF_chainWays_43 (fun H locs hP hS => ?_)
        refine lv_aload_n hx hb dF_chainWays_44 rfl (lv_at hl 1 rfl) ?_
        refine gr_8_firstWay hx hb hz hi_F hown hK hP (hz _ q_150) dF_chainWays_45 ?_
        refine lv_iload_n hx hb dF_chainWays_48 rfl (lv_at hl 0 rfl) ?_
        refine lv_iload_n hx hb dF_chainWays_49 rfl (lv_at hl 2 rfl) ?_
        refine zast (wd' := WT cA a f (updA (updA (sA (sA g 10 F10) 11 F11) 10 m (F11 (zHs (g 7 m)))) 11 (zHs (g 7 m)) (nI m))) hx hb hK hP (hD _ _) hS 15 0 rfl rfl (zHs (g 7 m)) rfl (zHs_lt _) (by decide) rfl dF_chainWays_50 (fun H locs hP hS => ?_)
        refine lv_iinc (v := nI m - nI 1) (lv' := [(1, .int (nI m - nI 1)), (2, .int (nI (zHs (g 7 m)))), (0, .ref (a 8))]) hx hb dF_chainWays_51 hl (k := 2) rfl (zM1 m) (by decide) rfl (fun ls hl => ?_)
        refine lv_goto (tgt := 15) hx hb dF_chainWays_54 (by decide) ?_
        exact ih (upd F10 m (F11 (zHs (g 7 m)))) (upd F11 (zHs (g 7 m)) (nI m)) H locs ls (by omega) (zCh1 hm h1) (zCh2 hm h1 h2) (by rw [← sA2u (by decide)]; exact hP) hS (lv_sub hl [2, 0] rfl)
  refine lv_aload_n hx hb dF_chainWays_0 rfl (lv_at hl 0 rfl) ?_
  refine gr_8_firstWay hx hb hz hi_F hown hK hP (hz _ q_150) dF_chainWays_1 ?_
  refine lv_iconst (v := (-1)) hx hb dF_chainWays_4 (by decide) ?_
  refine zk_v (zrS (rest := []) ⟨hx, hb, hml, hown, hz⟩ (c_fill l (dC, dI) vwCl (WT cA a f g) cA 15 (a 15) 4099 (g 11) (-1) (AT a) (by decide) rfl (hD _ _)) ⟨zcB 2 hz q_355 q_6 q_74 (by decide +kernel) rfl rfl ⟨Nat.le_of_ble_eq_true rfl, Nat.le_of_ble_eq_true rfl⟩, hz _ q_73⟩ hK hN hP rfl hl.1 rfl (Nat.le_of_ble_eq_true rfl) dF_chainWays_5 ⟨Nat.zero_le _, Nat.zero_le _⟩) hS (fun _ h => h) (fun zu H1 locs zhu hP1 hS hk => ?_)
  have hP1 : va_P (dC, dI) vwCl (WT cA a f (sA g 11 (zFl (-1) 4099 (g 11)))) H1 := hP1
  have hP := hP1
  generalize H1 = H at hP hS ⊢
  refine lv_aload_n hx hb dF_chainWays_8 rfl (lv_at hl 0 rfl) ?_
  refine gf_14 (v := nI N) hx hb hz hi_F hown hK hP (hz _ q_151) h14 dF_chainWays_9 ?_
  refine lv_iconst (v := nI 1) hx hb dF_chainWays_12 (by decide) ?_
  refine lv_isub hx hb dF_chainWays_13 ?_
  refine lv_istore_n (lv' := [(1, .int ((nI N) - (nI 1))), (0, .ref (a 8))]) hx hb dF_chainWays_14 rfl hl (by decide) rfl (fun ls hl => ?_)
  exact loop N (g 10) (zFl (-1) 4099 (g 11)) _ _ ls (Nat.le_refl _) (fun c hc => by rw [show zFl (-1) 4099 (g 11) c = -1 from if_pos hc]; exact zIsN_end) (fun w h1 h2 => by omega) (by rw [show sA g 10 (g 10) = g from sA_self g 10]; exact hP) hS (lv_sub hl [1, 0] rfl)

set_option maxHeartbeats 4000000 in
set_option maxRecDepth 100000 in
theorem c_join (l : Launch) (dC : Nat → ClassId) (dI : Nat → Nat → Nat) (cA : ClassId) (a : Nat → Nat) (f : Nat → Int32) (g : Nat → Nat → Int32) (hWD : WDist a) (u : Nat) (hu : u < 1024) (x t : Int32) (wl : List (Int32 × Int32 × Nat)) (hwl : wl.length ≤ 5040) (h14 : f 14 = nI wl.length) (hw : zWay (g 7) (g 8) (g 9) wl) (hch : zChain (g 7) (g 10) (g 11) wl.length) (P : List Int32) (h22 : f 22 = nI P.length) (hP0 : P.length ≤ 1000) (hIs : zIs (g 12) P) : Met l yF_join wsF_join ({ frames := 2, cells := 0, slots := 0, locals := 41 }) (va_Pc [.ref (a 8), .int (nI u), .int x, .int t, .ref (a 16)] (zPW (dC, dI) vwCl [(cA, .int)] (WT cA a f g))) (va_Qv (fun s : zSt => ∃ F12, s = (upd f 22 (nI ((P ++ zJn wl u x t).take 1000).length), sA g 12 F12) ∧ zIs F12 ((P ++ zJn wl u x t).take 1000)) (zBW (dC, dI) vwCl (fun u : zSt => WT cA a u.1 u.2)) (AT a)) 0 0 (AT a) := by
  refine Met.ofW (cc := prog_4_method_7_code) (maxL := 7) (ret := none) (by decide) rfl ?_
  intro zp ze s zm args below meth zc s₁ zBL hml hv
  obtain ⟨rfl, hP, hK, hN⟩ := hv
  have hx := zBL.exec
  have hb := zBL.bytes
  have hr := zBL.returns
  have hts := atoms_spec (ws := wsF_join) zBL.pre
  have hz : ∀ w ∈ zBig, w.before _ s = true := fun w h => hts w (List.mem_cons_of_mem _ h)
  have hown : s.vm.findClass "LetterSums$Search" = some zm.cls := findClass_of_methodNamed zBL.named
  have hlocks := zBL.notSynchronized
  have hD : ∀ f g, va_D (AT a) (WT cA a f g) := fun f g => WT_D hWD f g
  have hS : va_S (AT a) s.heap s.heap [] := va_S.rf
  have hl := lv_entry ([.ref (a 8), .int (nI u), .int x, .int t, .ref (a 16)]) (n := 7) (Nat.le_of_ble_eq_true rfl)
  rw [lg_entry_eq]
  generalize (lg_sl ([.ref (a 8), .int (nI u), .int x, .int t, .ref (a 16)]) ++ List.replicate (7 - (lg_sl ([.ref (a 8), .int (nI u), .int x, .int t, .ref (a 16)])).length) Slot.unset).toArray = ls at hl ⊢
  have hl : lv_has ls 7 [(0, .ref (a 8)), (1, .int (nI u)), (2, .int x), (3, .int t), (4, .ref (a 16))] := hl
  have loop : ∀ (k0 : Nat) (j st : Nat) (r : Int32) (Q : List Int32) (F12 : Nat → Int32) (H : Heap) (locs : List Loc) (ls : Array Slot), wl.length + 1 ≤ st + k0 → st ≤ j → j ≤ wl.length → zIsN (fun w => zHs (g 7 w)) wl.length (zHs (-t)) j r → Q = (P ++ zJn (wl.take j) u x t).take 1000 → zIs F12 Q → va_P (dC, dI) vwCl (WT cA a (upd f 22 (nI Q.length)) (sA g 12 F12)) H → va_S (AT a) s.heap H locs → lv_has ls 7 [(0, .ref (a 8)), (1, .int (nI u)), (2, .int x), (3, .int t), (4, .ref (a 16)), (5, .int r), (6, .int (nI st))] → W zp l ze (headSpec wsF_join ({ frames := 2, cells := 0, slots := 0, locals := 41 })).room s zm ([.ref (a 8), .int (nI u), .int x, .int t, .ref (a 16)] : List Value).toArray below meth zc H locs 0 0 (MQ below (va_Qv (fun s : zSt => ∃ F12, s = (upd f 22 (nI ((P ++ zJn wl u x t).take 1000).length), sA g 12 F12) ∧ zIs F12 ((P ++ zJn wl u x t).take 1000)) (zBW (dC, dI) vwCl (fun u : zSt => WT cA a u.1 u.2)) (AT a)) ([.ref (a 8), .int (nI u), .int x, .int t, .ref (a 16)] : List Value).toArray s 0 0 (AT a)) (F0 zm 18 ls []) := by
    intro k0
    induction k0 with
    | zero => intro j st r Q F12 H locs ls q1 q2; omega
    | succ k0 ih =>
      intro j st r Q F12 H locs ls hk0 hst hj hrN hQ hI hP hS hl
      have hQl : Q.length ≤ 1000 := by rw [hQ]; exact List.length_take_le _ _
      refine lv_iload hx hb dF_join_18 (lv_at hl 6 rfl) ?_
      refine lv_aload_n hx hb dF_join_20 rfl (lv_at hl 0 rfl) ?_
      refine gf_14 (v := nI wl.length) hx hb hz hi_F hown hK hP (hz _ q_151) h14 dF_join_21 ?_
      refine lv_icmp_ge (tgt := 94) hx hb dF_join_24 (by decide) (fun c_24 => ?_) (fun c_24 => ?_)
      · have c_24 := (nI_leI (a := wl.length) (b := st) (by omega) (by omega)).mp c_24
        exact W.vret hx hb hr (fun zT zh _ => ⟨⟨(upd f 22 (nI Q.length), sA g 12 F12), rfl, (by
                have e : zJn (wl.take j) u x t = zJn wl u x t := zJn_all (by omega)
                rw [e] at hQ
                exact ⟨F12, by rw [← hQ], by rw [← hQ]; exact hI⟩), zbw zh hP⟩, hS.F zh⟩) hS.2.2 dF_join_94
      · have c_24 := mt (nI_leI (a := wl.length) (b := st) (by omega) (by omega)).mpr c_24
        refine lv_iload hx hb dF_join_27 (lv_at hl 5 rfl) ?_
        refine lv_if_lt (tgt := 94) hx hb dF_join_29 (by decide) (fun c_29 => ?_) (fun c_29 => ?_)
        · have hr2 : ∀ w, j ≤ w → w < wl.length → zHs (g 7 w) ≠ zHs (-t) := zIsN_neg hrN c_29 (by omega)
          exact W.vret hx hb hr (fun zT zh _ => ⟨⟨(upd f 22 (nI Q.length), sA g 12 F12), rfl, (by
                  have e : zJn (wl.take j) u x t = zJn wl u x t := zJn_end hw hj hr2
                  rw [e] at hQ
                  exact ⟨F12, by rw [← hQ], by rw [← hQ]; exact hI⟩), zbw zh hP⟩, hS.F zh⟩) hS.2.2 dF_join_94
        · obtain ⟨w, hrw, hw1, hw2, hw3, hw4⟩ := zIsN_pos hrN c_29
          subst hrw
          refine lv_iload hx hb dF_join_32 (lv_at hl 5 rfl) ?_
          refine lv_aload_n hx hb dF_join_34 rfl (lv_at hl 0 rfl) ?_
          refine gf_14 (v := nI wl.length) hx hb hz hi_F hown hK hP (hz _ q_151) h14 dF_join_35 ?_
          refine lv_icmp_ge (tgt := 94) hx hb dF_join_38 (by decide) (fun c_38 => ?_) (fun c_38 => ?_)
          · have c_38 := (nI_leI (a := wl.length) (b := w) (by omega) (by omega)).mp c_38
            omega
          · refine lv_aload_n hx hb dF_join_41 rfl (lv_at hl 0 rfl) ?_
            refine gr_8_waySum hx hb hz hi_F hown hK hP (hz _ q_146) dF_join_42 ?_
            refine lv_iload hx hb dF_join_45 (lv_at hl 5 rfl) ?_
            refine zald (v := g 7 w) hx hb hK hP 11 0 rfl rfl w rfl (by omega) (by decide) rfl dF_join_47 ?_
            refine lv_iload_n hx hb dF_join_48 rfl (lv_at hl 3 rfl) ?_
            refine lv_ineg hx hb dF_join_49 ?_
            refine lv_icmp_ne (tgt := 79) hx hb dF_join_50 (by decide) (fun c_50 => ?_) (fun c_50 => ?_)
            · refine lv_aload_n hx hb dF_join_79 rfl (lv_at hl 0 rfl) ?_
              refine gr_8_nextWay hx hb hz hi_F hown hK hP (hz _ q_149) dF_join_80 ?_
              refine lv_iload hx hb dF_join_83 (lv_at hl 5 rfl) ?_
              refine zald (v := g 10 w) hx hb hK hP 14 0 rfl rfl w rfl (by omega) (by decide) rfl dF_join_85 ?_
              refine lv_istore (lv' := [(5, .int (g 10 w)), (0, .ref (a 8)), (1, .int (nI u)), (2, .int x), (3, .int t), (4, .ref (a 16)), (6, .int (nI st))]) hx hb dF_join_86 hl (by decide) rfl (fun ls hl => ?_)
              refine lv_iinc (v := nI (st + 1)) (lv' := [(6, .int (nI (st + 1))), (5, .int (g 10 w)), (0, .ref (a 8)), (1, .int (nI u)), (2, .int x), (3, .int t), (4, .ref (a 16))]) hx hb dF_join_88 hl (k := 6) rfl (nI_1 _) (by decide) rfl (fun ls hl => ?_)
              refine lv_goto (tgt := 18) hx hb dF_join_91 (by decide) ?_
              exact ih (w + 1) (st + 1) (g 10 w) Q F12 H locs ls (by omega) (by omega) (by omega) (by rw [← hw3]; exact hch.2 w hw2) (by rw [hQ, zJn_to hw hw1 hw2 hw4, if_neg (by rw [← (hw w hw2).1]; simp [c_50]), List.append_nil]) hI hP hS (lv_sub hl [2, 3, 4, 5, 6, 1, 0] rfl)
            · refine lv_aload_n hx hb dF_join_53 rfl (lv_at hl 0 rfl) ?_
              refine gr_8_wayUsed hx hb hz hi_F hown hK hP (hz _ q_148) dF_join_54 ?_
              refine lv_iload hx hb dF_join_57 (lv_at hl 5 rfl) ?_
              refine zald (v := nI (wl[w].2.2)) hx hb hK hP 13 0 rfl rfl w rfl (by omega) (by decide) (hw w hw2).2.2 dF_join_59 ?_
              refine lv_iload_n hx hb dF_join_60 rfl (lv_at hl 1 rfl) ?_
              refine lv_iand hx hb dF_join_61 ?_
              refine zt (y := nI (wl[w].2.2 &&& u)) (nI_and _ _) ?_
              refine lv_if_ne (tgt := 79) hx hb dF_join_62 (by decide) (fun c_62 => ?_) (fun c_62 => ?_)
              · have c_62 : ¬ wl[w].2.2 &&& u = 0 := fun q => c_62 (by rw [q]; rfl)
                refine lv_aload_n hx hb dF_join_79 rfl (lv_at hl 0 rfl) ?_
                refine gr_8_nextWay hx hb hz hi_F hown hK hP (hz _ q_149) dF_join_80 ?_
                refine lv_iload hx hb dF_join_83 (lv_at hl 5 rfl) ?_
                refine zald (v := g 10 w) hx hb hK hP 14 0 rfl rfl w rfl (by omega) (by decide) rfl dF_join_85 ?_
                refine lv_istore (lv' := [(5, .int (g 10 w)), (0, .ref (a 8)), (1, .int (nI u)), (2, .int x), (3, .int t), (4, .ref (a 16)), (6, .int (nI st))]) hx hb dF_join_86 hl (by decide) rfl (fun ls hl => ?_)
                refine lv_iinc (v := nI (st + 1)) (lv' := [(6, .int (nI (st + 1))), (5, .int (g 10 w)), (0, .ref (a 8)), (1, .int (nI u)), (2, .int x), (3, .int t), (4, .ref (a 16))]) hx hb dF_join_88 hl (k := 6) rfl (nI_1 _) (by decide) rfl (fun ls hl => ?_)
                refine lv_goto (tgt := 18) hx hb dF_join_91 (by decide) ?_
                exact ih (w + 1) (st + 1) (g 10 w) Q F12 H locs ls (by omega) (by omega) (by omega) (by rw [← hw3]; exact hch.2 w hw2) (by rw [hQ, zJn_to hw hw1 hw2 hw4, if_neg (by simp [c_62]), List.append_nil]) hI hP hS (lv_sub hl [2, 3, 4, 5, 6, 1, 0] rfl)
              · have c_62 : wl[w].2.2 &&& u = 0 := (nI_eq (b := 0) (zAndLt hu) (by decide)).mp c_62
                refine lv_aload hx hb dF_join_65 (lv_at hl 4 rfl) ?_
                refine lv_iload_n hx hb dF_join_67 rfl (lv_at hl 2 rfl) ?_
                refine lv_aload_n hx hb dF_join_68 rfl (lv_at hl 0 rfl) ?_
                refine gr_8_wayDigits hx hb hz hi_F hown hK hP (hz _ q_147) dF_join_69 ?_
                refine lv_iload hx hb dF_join_72 (lv_at hl 5 rfl) ?_
                refine zald (v := wl[w].2.1) hx hb hK hP 12 0 rfl rfl w rfl (by omega) (by decide) (hw w hw2).2.1 dF_join_74 ?_
                refine lv_ior hx hb dF_join_75 ?_
                refine zk_v (zrV (rest := []) ⟨hx, hb, hml, hown, hz⟩ (c_add l dC dI cA a (upd f 22 (nI Q.length)) (sA g 12 F12) hWD (x ||| wl[w].2.1) Q.length hQl rfl) ⟨zcB 1 hz q_367 q_2 q_370 (by decide +kernel) rfl rfl ⟨Nat.le_of_ble_eq_true rfl, Nat.le_of_ble_eq_true rfl⟩, hz _ q_368, hz _ q_369⟩ hK hN hP 16 1 rfl rfl rfl rfl hl.1 rfl (Nat.le_of_ble_eq_true rfl) dF_join_76 ⟨Nat.zero_le _, Nat.zero_le _⟩) hS (fun _ h => h) (fun zu H1 locs zhu hP1 hS hk => ?_)
                obtain ⟨F2, hF2, hP1⟩ := zAddB (D := (dC, dI)) (cA := cA) (a := a) (H := H1) hI hQl zhu hP1
                have hP := hP1
                generalize H1 = H at hP hS ⊢
                refine lv_aload_n hx hb dF_join_79 rfl (lv_at hl 0 rfl) ?_
                refine gr_8_nextWay hx hb hz hi_F hown hK hP (hz _ q_149) dF_join_80 ?_
                refine lv_iload hx hb dF_join_83 (lv_at hl 5 rfl) ?_
                refine zald (v := g 10 w) hx hb hK hP 14 0 rfl rfl w rfl (by omega) (by decide) rfl dF_join_85 ?_
                refine lv_istore (lv' := [(5, .int (g 10 w)), (0, .ref (a 8)), (1, .int (nI u)), (2, .int x), (3, .int t), (4, .ref (a 16)), (6, .int (nI st))]) hx hb dF_join_86 hl (by decide) rfl (fun ls hl => ?_)
                refine lv_iinc (v := nI (st + 1)) (lv' := [(6, .int (nI (st + 1))), (5, .int (g 10 w)), (0, .ref (a 8)), (1, .int (nI u)), (2, .int x), (3, .int t), (4, .ref (a 16))]) hx hb dF_join_88 hl (k := 6) rfl (nI_1 _) (by decide) rfl (fun ls hl => ?_)
                refine lv_goto (tgt := 18) hx hb dF_join_91 (by decide) ?_
                exact ih (w + 1) (st + 1) (g 10 w) _ F2 H locs ls (by omega) (by omega) (by omega) (by rw [← hw3]; exact hch.2 w hw2) (by rw [hQ, zTk2, List.append_assoc, zJn_to hw hw1 hw2 hw4, if_pos (by simp [← (hw w hw2).1, c_50, c_62])]) hF2 hP hS (lv_sub hl [2, 3, 4, 5, 6, 1, 0] rfl)
  refine lv_aload_n hx hb dF_join_0 rfl (lv_at hl 0 rfl) ?_
  refine gr_8_firstWay hx hb hz hi_F hown hK hP (hz _ q_150) dF_join_1 ?_
  refine lv_iload_n hx hb dF_join_4 rfl (lv_at hl 3 rfl) ?_
  refine lv_ineg hx hb dF_join_5 ?_
  refine lv_sipush (v := nI 4099) hx hb dF_join_6 (by decide) ?_
  refine zq_e (zrS0 (rest := [.ref (a 15)]) ⟨hx, hb, hml, hown, hz⟩ (c_floorMod l  (-t)) ⟨zcB 2 hz q_356 q_3 q_358 (by decide +kernel) rfl rfl ⟨Nat.le_of_ble_eq_true rfl, Nat.le_of_ble_eq_true rfl⟩, hz _ q_357⟩ rfl hl.1 rfl (Nat.le_of_ble_eq_true rfl) dF_join_9 ⟨Nat.zero_le _, Nat.zero_le _⟩) ?_
  refine zald (v := g 11 (zHs (-t))) hx hb hK hP 15 0 rfl rfl (zHs (-t)) rfl (zHs_lt _) (by decide) rfl dF_join_12 ?_
  refine lv_istore (lv' := [(5, .int (g 11 (zHs (-t)))), (0, .ref (a 8)), (1, .int (nI u)), (2, .int x), (3, .int t), (4, .ref (a 16))]) hx hb dF_join_13 hl (by decide) rfl (fun ls hl => ?_)
  refine lv_iconst (v := nI 0) hx hb dF_join_15 (by decide) ?_
  refine lv_istore (lv' := [(6, .int (nI 0)), (5, .int (g 11 (zHs (-t)))), (0, .ref (a 8)), (1, .int (nI u)), (2, .int x), (3, .int t), (4, .ref (a 16))]) hx hb dF_join_16 hl (by decide) rfl (fun ls hl => ?_)
  exact loop (wl.length + 1) 0 0 (g 11 (zHs (-t))) P (g 12) _ _ ls (by omega) (by omega) (by omega) (hch.1 _ (zHs_lt _)) (by simp [zJn]; exact (List.take_of_length_le hP0).symm) hIs (by rw [upd_self h22, sA_self]; exact hP) hS (lv_sub hl [2, 3, 4, 5, 6, 1, 0] rfl)

set_option maxHeartbeats 4000000 in
set_option maxRecDepth 100000 in
theorem c_tryEarlier_0 (l : Launch) (dC : Nat → ClassId) (dI : Nat → Nat → Nat) (cA : ClassId) (a : Nat → Nat) (f : Nat → Int32) (g : Nat → Nat → Int32) (hWD : WDist a) (bar : Bool) (fr : Nat) (h17 : f 17 = zB bar) (h20 : f 20 = nI fr) (hfr : fr < 256) (B i u : Nat) (x t : Int32) (hB : B ≤ 10) (h13 : f 13 = nI B) (h16 : f 16 = nI (i + 0)) (hik : i + 0 ≤ 8) (hu : u < 2 ^ B) (wl : List (Int32 × Int32 × Nat)) (hwl : wl.length ≤ 5040) (h14 : f 14 = nI wl.length) (hw : zWay (g 7) (g 8) (g 9) wl) (hch : zChain (g 7) (g 10) (g 11) wl.length) (P : List Int32) (h22 : f 22 = nI P.length) (hP0 : P.length ≤ 1000) (hIs : zIs (g 12) P) : Met l yF_tryEarlier wsF_tryEarlier (rmT 0) (va_Pc [.ref (a 8), .int (nI i), .int (nI u), .int x, .int t, .ref (a 16)] (zPW (dC, dI) vwCl [(cA, .int)] (WT cA a f g))) (va_Qv (fun s : zSt => ∃ F12, s = (upd f 22 (nI ((P ++ zTE B (zOk bar fr) (g 6) wl 0 i u x t).take 1000).length), sA g 12 F12) ∧ zIs F12 ((P ++ zTE B (zOk bar fr) (g 6) wl 0 i u x t).take 1000)) (zBW (dC, dI) vwCl (fun u : zSt => WT cA a u.1 u.2)) (AT a)) 0 0 (AT a) := by
  refine Met.ofW (cc := prog_4_method_6_code) (maxL := 7) (ret := none) (by decide) rfl ?_
  intro zp ze s zm args below meth zc s₁ zBL hml hv
  obtain ⟨rfl, hP, hK, hN⟩ := hv
  have hx := zBL.exec
  have hb := zBL.bytes
  have hr := zBL.returns
  have hts := atoms_spec (ws := wsF_tryEarlier) zBL.pre
  have hz : ∀ w ∈ zBig, w.before _ s = true := fun w h => hts w (List.mem_cons_of_mem _ h)
  have hown : s.vm.findClass "LetterSums$Search" = some zm.cls := findClass_of_methodNamed zBL.named
  have hlocks := zBL.notSynchronized
  have hD : ∀ f g, va_D (AT a) (WT cA a f g) := fun f g => WT_D hWD f g
  have hS : va_S (AT a) s.heap s.heap [] := va_S.rf
  have hl := lv_entry ([.ref (a 8), .int (nI i), .int (nI u), .int x, .int t, .ref (a 16)]) (n := 7) (Nat.le_of_ble_eq_true rfl)
  rw [lg_entry_eq]
  generalize (lg_sl ([.ref (a 8), .int (nI i), .int (nI u), .int x, .int t, .ref (a 16)]) ++ List.replicate (7 - (lg_sl ([.ref (a 8), .int (nI i), .int (nI u), .int x, .int t, .ref (a 16)])).length) Slot.unset).toArray = ls at hl ⊢
  have hl : lv_has ls 7 [(0, .ref (a 8)), (1, .int (nI i)), (2, .int (nI u)), (3, .int x), (4, .int t), (5, .ref (a 16))] := hl
  refine lv_iload_n hx hb dF_tryEarlier_0 rfl (lv_at hl 1 rfl) ?_
  refine lv_aload_n hx hb dF_tryEarlier_1 rfl (lv_at hl 0 rfl) ?_
  refine gf_16 (v := nI (i + 0)) hx hb hz hi_F hown hK hP (hz _ q_153) h16 dF_tryEarlier_2 ?_
  refine lv_icmp_lt (tgt := 19) hx hb dF_tryEarlier_5 (by decide) (fun c_5 => ?_) (fun c_5 => ?_)
  · have c_5 := (nI_ltI (a := i) (b := i + 0) (by omega) (by omega)).mp c_5
    omega
  · have c_5 := mt (nI_ltI (a := i) (b := (i + 0)) (by omega) (by omega)).mpr c_5
    refine lv_aload_n hx hb dF_tryEarlier_8 rfl (lv_at hl 0 rfl) ?_
    refine lv_iload_n hx hb dF_tryEarlier_9 rfl (lv_at hl 2 rfl) ?_
    refine lv_iload_n hx hb dF_tryEarlier_10 rfl (lv_at hl 3 rfl) ?_
    refine lv_iload hx hb dF_tryEarlier_11 (lv_at hl 4 rfl) ?_
    refine lv_aload hx hb dF_tryEarlier_13 (lv_at hl 5 rfl) ?_
    refine zk_v (zrV (rest := []) ⟨hx, hb, hml, hown, hz⟩ (c_join l dC dI cA a f g hWD u (zLt1024 hu hB) x t wl hwl h14 hw hch P h22 hP0 hIs) ⟨zcB 4 hz q_363 q_7 q_366 (by decide +kernel) rfl rfl ⟨Nat.le_of_ble_eq_true rfl, Nat.le_of_ble_eq_true rfl⟩, hz _ q_365, hz _ qs_16⟩ hK hN hP 8 3 rfl rfl rfl rfl hl.1 rfl (Nat.le_of_ble_eq_true rfl) dF_tryEarlier_15 ⟨Nat.zero_le _, Nat.zero_le _⟩) hS (fun _ h => h) (fun zu H1 locs zhu hP1 hS hk => ?_)
    obtain ⟨F12, rfl, hI⟩ := zhu
    have hP := hP1
    generalize H1 = H at hP hS ⊢
    exact W.vret hx hb hr (fun zT zh _ => ⟨⟨(upd f 22 (nI ((P ++ zJn wl u x t).take 1000).length), sA g 12 F12), rfl, ⟨F12, rfl, hI⟩, zbw zh hP⟩, hS.F zh⟩) hS.2.2 dF_tryEarlier_18

def MEarl (l : Launch) (dC : Nat → ClassId) (dI : Nat → Nat → Nat) (cA : ClassId) (a : Nat → Nat) (k : Nat) : Prop := ∀ (f : Nat → Int32) (g : Nat → Nat → Int32) (bar : Bool) (fr : Nat) (h17 : f 17 = zB bar) (h20 : f 20 = nI fr) (hfr : fr < 256) (B i u : Nat) (x t : Int32) (hB : B ≤ 10) (h13 : f 13 = nI B) (h16 : f 16 = nI (i + k)) (hik : i + k ≤ 8) (hu : u < 2 ^ B) (wl : List (Int32 × Int32 × Nat)) (hwl : wl.length ≤ 5040) (h14 : f 14 = nI wl.length) (hw : zWay (g 7) (g 8) (g 9) wl) (hch : zChain (g 7) (g 10) (g 11) wl.length) (P : List Int32) (h22 : f 22 = nI P.length) (hP0 : P.length ≤ 1000) (hIs : zIs (g 12) P), Met l yF_tryEarlier wsF_tryEarlier (rmT k) (va_Pc [.ref (a 8), .int (nI i), .int (nI u), .int x, .int t, .ref (a 16)] (zPW (dC, dI) vwCl [(cA, .int)] (WT cA a f g))) (va_Qv (fun s : zSt => ∃ F12, s = (upd f 22 (nI ((P ++ zTE B (zOk bar fr) (g 6) wl k i u x t).take 1000).length), sA g 12 F12) ∧ zIs F12 ((P ++ zTE B (zOk bar fr) (g 6) wl k i u x t).take 1000)) (zBW (dC, dI) vwCl (fun u : zSt => WT cA a u.1 u.2)) (AT a)) 0 0 (AT a)

set_option maxHeartbeats 4000000 in
set_option maxRecDepth 100000 in
theorem c_tryEarlier_S (l : Launch) (dC : Nat → ClassId) (dI : Nat → Nat → Nat) (cA : ClassId) (a : Nat → Nat) (f : Nat → Int32) (g : Nat → Nat → Int32) (hWD : WDist a) (k : Nat) (IH : MEarl l dC dI cA a k) (bar : Bool) (fr : Nat) (h17 : f 17 = zB bar) (h20 : f 20 = nI fr) (hfr : fr < 256) (B i u : Nat) (x t : Int32) (hB : B ≤ 10) (h13 : f 13 = nI B) (h16 : f 16 = nI (i + (k + 1))) (hik : i + (k + 1) ≤ 8) (hu : u < 2 ^ B) (wl : List (Int32 × Int32 × Nat)) (hwl : wl.length ≤ 5040) (h14 : f 14 = nI wl.length) (hw : zWay (g 7) (g 8) (g 9) wl) (hch : zChain (g 7) (g 10) (g 11) wl.length) (P : List Int32) (h22 : f 22 = nI P.length) (hP0 : P.length ≤ 1000) (hIs : zIs (g 12) P) : Met l yF_tryEarlier wsF_tryEarlier (rmT (k + 1)) (va_Pc [.ref (a 8), .int (nI i), .int (nI u), .int x, .int t, .ref (a 16)] (zPW (dC, dI) vwCl [(cA, .int)] (WT cA a f g))) (va_Qv (fun s : zSt => ∃ F12, s = (upd f 22 (nI ((P ++ zTE B (zOk bar fr) (g 6) wl (k + 1) i u x t).take 1000).length), sA g 12 F12) ∧ zIs F12 ((P ++ zTE B (zOk bar fr) (g 6) wl (k + 1) i u x t).take 1000)) (zBW (dC, dI) vwCl (fun u : zSt => WT cA a u.1 u.2)) (AT a)) 0 0 (AT a) := by
  refine Met.ofW (cc := prog_4_method_6_code) (maxL := 7) (ret := none) (by decide) rfl ?_
  intro zp ze s zm args below meth zc s₁ zBL hml hv
  obtain ⟨rfl, hP, hK, hN⟩ := hv
  have hx := zBL.exec
  have hb := zBL.bytes
  have hr := zBL.returns
  have hts := atoms_spec (ws := wsF_tryEarlier) zBL.pre
  have hz : ∀ w ∈ zBig, w.before _ s = true := fun w h => hts w (List.mem_cons_of_mem _ h)
  have hown : s.vm.findClass "LetterSums$Search" = some zm.cls := findClass_of_methodNamed zBL.named
  have hlocks := zBL.notSynchronized
  have hD : ∀ f g, va_D (AT a) (WT cA a f g) := fun f g => WT_D hWD f g
  have hS : va_S (AT a) s.heap s.heap [] := va_S.rf
  have hl := lv_entry ([.ref (a 8), .int (nI i), .int (nI u), .int x, .int t, .ref (a 16)]) (n := 7) (Nat.le_of_ble_eq_true rfl)
  rw [lg_entry_eq]
  generalize (lg_sl ([.ref (a 8), .int (nI i), .int (nI u), .int x, .int t, .ref (a 16)]) ++ List.replicate (7 - (lg_sl ([.ref (a 8), .int (nI i), .int (nI u), .int x, .int t, .ref (a 16)])).length) Slot.unset).toArray = ls at hl ⊢
  have hl : lv_has ls 7 [(0, .ref (a 8)), (1, .int (nI i)), (2, .int (nI u)), (3, .int x), (4, .int t), (5, .ref (a 16))] := hl
  have loop : ∀ (k0 : Nat) (d : Nat) (Q : List Int32) (F12 : Nat → Int32) (H : Heap) (locs : List Loc) (ls : Array Slot), B + 1 ≤ d + k0 → d ≤ B → Q = (P ++ zTPre B (zOk bar fr) (g 6) wl k i u x t d).take 1000 → zIs F12 Q → va_P (dC, dI) vwCl (WT cA a (upd f 22 (nI Q.length)) (sA g 12 F12)) H → va_S (AT a) s.heap H locs → lv_has ls 7 [(0, .ref (a 8)), (1, .int (nI i)), (2, .int (nI u)), (3, .int x), (4, .int t), (5, .ref (a 16)), (6, .int (nI d))] → W zp l ze (headSpec wsF_tryEarlier (rmT (k + 1))).room s zm ([.ref (a 8), .int (nI i), .int (nI u), .int x, .int t, .ref (a 16)] : List Value).toArray below meth zc H locs 0 0 (MQ below (va_Qv (fun s : zSt => ∃ F12, s = (upd f 22 (nI ((P ++ zTE B (zOk bar fr) (g 6) wl (k + 1) i u x t).take 1000).length), sA g 12 F12) ∧ zIs F12 ((P ++ zTE B (zOk bar fr) (g 6) wl (k + 1) i u x t).take 1000)) (zBW (dC, dI) vwCl (fun u : zSt => WT cA a u.1 u.2)) (AT a)) ([.ref (a 8), .int (nI i), .int (nI u), .int x, .int t, .ref (a 16)] : List Value).toArray s 0 0 (AT a)) (F0 zm 22 ls []) := by
    intro k0
    induction k0 with
    | zero => intro d Q F12 H locs ls q1 q2; omega
    | succ k0 ih =>
      intro d Q F12 H locs ls hk0 hdB hQ hI hP hS hl
      have hQl : Q.length ≤ 1000 := by rw [hQ]; exact List.length_take_le _ _
      refine lv_iload hx hb dF_tryEarlier_22 (lv_at hl 6 rfl) ?_
      refine lv_aload_n hx hb dF_tryEarlier_24 rfl (lv_at hl 0 rfl) ?_
      refine gf_13 (v := nI B) hx hb hz hi_F hown hK hP (hz _ q_144) h13 dF_tryEarlier_25 ?_
      refine lv_icmp_ge (tgt := 93) hx hb dF_tryEarlier_28 (by decide) (fun c_28 => ?_) (fun c_28 => ?_)
      · have c_28 := (nI_leI (a := B) (b := d) (by omega) (by omega)).mp c_28
        exact W.vret hx hb hr (fun zT zh _ => ⟨⟨(upd f 22 (nI Q.length), sA g 12 F12), rfl, (by
                have e : d = B := by omega
                have hQ : Q = (P ++ zTE B (zOk bar fr) (g 6) wl (k + 1) i u x t).take 1000 := by rw [hQ, e]; rfl
                exact ⟨F12, by rw [← hQ], by rw [← hQ]; exact hI⟩), zbw zh hP⟩, hS.F zh⟩) hS.2.2 dF_tryEarlier_93
      · have c_28 := mt (nI_leI (a := B) (b := d) (by omega) (by omega)).mpr c_28
        refine lv_aload hx hb dF_tryEarlier_31 (lv_at hl 5 rfl) ?_
        refine zq_e (zrV (rest := []) ⟨hx, hb, hml, hown, hz⟩ (c_isFull l dC dI cA a (upd f 22 (nI Q.length)) (sA g 12 F12) Q.length hQl rfl) ⟨zcB 0 hz q_375 q_2 q_374 (by decide +kernel) rfl rfl ⟨Nat.le_trans (m := 3) (by decide) (by show 3 ≤ 3 + (k + 1); omega), Nat.le_trans (m := 67) (by decide) (by show 67 ≤ 67 + 26 * (k + 1); omega)⟩, hz _ q_372, hz _ q_373⟩ hK hN hP 16 1 rfl rfl rfl rfl hl.1 rfl (Nat.le_of_ble_eq_true rfl) dF_tryEarlier_33 ⟨Nat.zero_le _, Nat.zero_le _⟩) ?_
        refine lv_if_ne (tgt := 93) hx hb dF_tryEarlier_36 (by decide) (fun c_36 => ?_) (fun c_36 => ?_)
        · have c_36 := of_decide_eq_true (zB_n0 c_36)
          exact W.vret hx hb hr (fun zT zh _ => ⟨⟨(upd f 22 (nI Q.length), sA g 12 F12), rfl, (by
                  have hQ : Q = (P ++ zTE B (zOk bar fr) (g 6) wl (k + 1) i u x t).take 1000 := by
                    obtain ⟨C, hC⟩ := zTPre_ex B (zOk bar fr) (g 6) wl k i u x t (d := d) (by omega)
                    rw [show zTE B (zOk bar fr) (g 6) wl (k + 1) i u x t = zTPre B (zOk bar fr) (g 6) wl k i u x t B from rfl, hC, ← List.append_assoc, zTk1 _ _ (by rw [← hQ]; exact c_36)]
                    exact hQ
                  exact ⟨F12, by rw [← hQ], by rw [← hQ]; exact hI⟩), zbw zh hP⟩, hS.F zh⟩) hS.2.2 dF_tryEarlier_93
        · refine lv_aload_n hx hb dF_tryEarlier_39 rfl (lv_at hl 0 rfl) ?_
          refine lv_iload_n hx hb dF_tryEarlier_40 rfl (lv_at hl 1 rfl) ?_
          refine lv_iload hx hb dF_tryEarlier_41 (lv_at hl 6 rfl) ?_
          refine lv_iload_n hx hb dF_tryEarlier_43 rfl (lv_at hl 2 rfl) ?_
          refine zq_e (zrV (rest := []) ⟨hx, hb, hml, hown, hz⟩ (c_mayBe l dC dI cA a (upd f 22 (nI Q.length)) (sA g 12 F12) bar fr h17 h20 hfr i d u (by omega) (by omega) (zLt1024 hu hB)) ⟨zcB 3 hz q_340 q_7 q_343 (by decide +kernel) rfl rfl ⟨Nat.le_trans (m := 3) (by decide) (by show 3 ≤ 3 + (k + 1); omega), Nat.le_trans (m := 67) (by decide) (by show 67 ≤ 67 + 26 * (k + 1); omega)⟩, hz _ q_342, hz _ qs_13⟩ hK hN hP 8 3 rfl rfl rfl rfl hl.1 rfl (Nat.le_of_ble_eq_true rfl) dF_tryEarlier_44 ⟨Nat.zero_le _, Nat.zero_le _⟩) ?_
          refine lv_if_eq (tgt := 87) hx hb dF_tryEarlier_47 (by decide) (fun c_47 => ?_) (fun c_47 => ?_)
          · have c_47 := zMay0 c_47
            refine lv_iinc (v := nI (d + 1)) (lv' := [(6, .int (nI (d + 1))), (0, .ref (a 8)), (1, .int (nI i)), (2, .int (nI u)), (3, .int x), (4, .int t), (5, .ref (a 16))]) hx hb dF_tryEarlier_87 hl (k := 6) rfl (nI_1 _) (by decide) rfl (fun ls hl => ?_)
            refine lv_goto (tgt := 22) hx hb dF_tryEarlier_90 (by decide) ?_
            exact ih (d + 1) Q F12 H locs ls (by omega) (by omega) (by rw [zTPre_S, if_pos c_47, List.append_nil]; exact hQ) hI hP hS (lv_sub hl [1, 2, 3, 4, 5, 6, 0] rfl)
          · have c_47 := zMay1 c_47
            refine lv_aload_n hx hb dF_tryEarlier_50 rfl (lv_at hl 0 rfl) ?_
            refine lv_iload_n hx hb dF_tryEarlier_51 rfl (lv_at hl 1 rfl) ?_
            refine lv_iconst (v := nI 1) hx hb dF_tryEarlier_52 (by decide) ?_
            refine lv_iadd hx hb dF_tryEarlier_53 ?_
            refine zt (nI_add _ _) ?_
            refine lv_iload_n hx hb dF_tryEarlier_54 rfl (lv_at hl 2 rfl) ?_
            refine lv_iconst (v := nI 1) hx hb dF_tryEarlier_55 (by decide) ?_
            refine lv_iload hx hb dF_tryEarlier_56 (lv_at hl 6 rfl) ?_
            refine lv_ishl hx hb dF_tryEarlier_58 ?_
            refine lv_ior hx hb dF_tryEarlier_59 ?_
            refine zt (y := nI (u ||| 2 ^ d)) (zUse (by omega)) ?_
            refine lv_iload_n hx hb dF_tryEarlier_60 rfl (lv_at hl 3 rfl) ?_
            refine lv_iload_n hx hb dF_tryEarlier_61 rfl (lv_at hl 1 rfl) ?_
            refine lv_iload hx hb dF_tryEarlier_62 (lv_at hl 6 rfl) ?_
            refine zq_e (zrSN0 (rest := [.int (nI (u ||| 2 ^ d)), .int (nI (i + 1)), .ref (a 8)]) ⟨hx, hb, hml, hown, hz⟩ (c_withDigit l  x (nI i) (nI d)) ⟨zcN 3 hz hN qn_348 q_1 q_350 (by decide +kernel) rfl rfl ⟨Nat.le_trans (m := 3) (by decide) (by show 3 ≤ 3 + (k + 1); omega), Nat.le_trans (m := 67) (by decide) (by show 67 ≤ 67 + 26 * (k + 1); omega)⟩, hz _ q_349, trivial⟩ rfl hl.1 rfl (Nat.le_of_ble_eq_true rfl) dF_tryEarlier_64 ⟨Nat.zero_le _, Nat.zero_le _⟩) ?_
            refine lv_iload hx hb dF_tryEarlier_67 (lv_at hl 4 rfl) ?_
            refine lv_iload hx hb dF_tryEarlier_69 (lv_at hl 6 rfl) ?_
            refine lv_aload_n hx hb dF_tryEarlier_71 rfl (lv_at hl 0 rfl) ?_
            refine gr_8_weights hx hb hz hi_F hown hK hP (hz _ q_145) dF_tryEarlier_72 ?_
            refine gr_9_ofSlotN hx hb hz hi_W hown hK hP (va_Nw.use rfl (hN _ qn_127)) dF_tryEarlier_75 ?_
            refine lv_iload_n hx hb dF_tryEarlier_78 rfl (lv_at hl 1 rfl) ?_
            refine zald (v := g 6 i) hx hb hK hP 10 0 rfl rfl i rfl (by omega) (by decide) rfl dF_tryEarlier_79 ?_
            refine lv_imul hx hb dF_tryEarlier_80 ?_
            refine lv_iadd hx hb dF_tryEarlier_81 ?_
            refine lv_aload hx hb dF_tryEarlier_82 (lv_at hl 5 rfl) ?_
            refine zk_v (zrV (rest := []) ⟨hx, hb, hml, hown, hz⟩ (IH (upd f 22 (nI Q.length)) (sA g 12 F12) bar fr h17 h20 hfr B (i + 1) (u ||| 2 ^ d) (zWd x (nI i) (nI d)) (t + nI d * g 6 i) hB h13 (by rw [show i + 1 + k = i + (k + 1) by omega]; exact h16) (by omega) (zOrLt hu (by omega)) wl hwl h14 hw hch Q rfl hQl hI) ⟨zcB 5 hz q_359 q_7 q_362 (by decide +kernel) rfl rfl ⟨by show 3 + k + 1 ≤ 3 + (k + 1); omega, by show 8 + (_ + 11) + (67 + 26 * k) ≤ 67 + 26 * (k + 1); omega⟩, hz _ q_361, hz _ qs_15⟩ hK hN hP 8 3 rfl rfl rfl rfl hl.1 rfl (Nat.le_of_ble_eq_true rfl) dF_tryEarlier_84 ⟨Nat.zero_le _, Nat.zero_le _⟩) hS (fun _ h => h) (fun zu H1 locs zhu hP1 hS hk => ?_)
            obtain ⟨F2, rfl, hI2⟩ := zhu
            have hI2 : zIs F2 ((Q ++ zTE B (zOk bar fr) (g 6) wl k (i + 1) (u ||| 2 ^ d) (zWd x (nI i) (nI d)) (t + nI d * g 6 i)).take 1000) := hI2
            have hP1 : va_P (dC, dI) vwCl (WT cA a (upd f 22 (nI ((Q ++ zTE B (zOk bar fr) (g 6) wl k (i + 1) (u ||| 2 ^ d) (zWd x (nI i) (nI d)) (t + nI d * g 6 i)).take 1000).length)) (sA g 12 F2)) H1 := by
              rw [← upd_upd f 22 (nI Q.length) _, ← sA_sA g 12 F12 F2]
              exact hP1
            have hP := hP1
            generalize H1 = H at hP hS ⊢
            refine lv_iinc (v := nI (d + 1)) (lv' := [(6, .int (nI (d + 1))), (0, .ref (a 8)), (1, .int (nI i)), (2, .int (nI u)), (3, .int x), (4, .int t), (5, .ref (a 16))]) hx hb dF_tryEarlier_87 hl (k := 6) rfl (nI_1 _) (by decide) rfl (fun ls hl => ?_)
            refine lv_goto (tgt := 22) hx hb dF_tryEarlier_90 (by decide) ?_
            exact ih (d + 1) _ F2 H locs ls (by omega) (by omega) (by rw [zTPre_S, if_neg c_47, hQ, zTk2, List.append_assoc]) hI2 hP hS (lv_sub hl [1, 2, 3, 4, 5, 6, 0] rfl)
  refine lv_iload_n hx hb dF_tryEarlier_0 rfl (lv_at hl 1 rfl) ?_
  refine lv_aload_n hx hb dF_tryEarlier_1 rfl (lv_at hl 0 rfl) ?_
  refine gf_16 (v := nI (i + (k + 1))) hx hb hz hi_F hown hK hP (hz _ q_153) h16 dF_tryEarlier_2 ?_
  refine lv_icmp_lt (tgt := 19) hx hb dF_tryEarlier_5 (by decide) (fun c_5 => ?_) (fun c_5 => ?_)
  · have c_5 := (nI_ltI (a := i) (b := (i + (k + 1))) (by omega) (by omega)).mp c_5
    refine lv_iconst (v := nI 0) hx hb dF_tryEarlier_19 (by decide) ?_
    refine lv_istore (lv' := [(6, .int (nI 0)), (0, .ref (a 8)), (1, .int (nI i)), (2, .int (nI u)), (3, .int x), (4, .int t), (5, .ref (a 16))]) hx hb dF_tryEarlier_20 hl (by decide) rfl (fun ls hl => ?_)
    exact loop (B + 1) 0 P (g 12) _ _ ls (by omega) (by omega) (by simp [zTPre]; exact (List.take_of_length_le hP0).symm) hIs (by rw [upd_self h22, sA_self]; exact hP) hS (lv_sub hl [1, 2, 3, 4, 5, 6, 0] rfl)
  · have c_5 := mt (nI_ltI (a := i) (b := i + (k + 1)) (by omega) (by omega)).mpr c_5
    omega

theorem c_tryEarlier (l : Launch) (dC : Nat → ClassId) (dI : Nat → Nat → Nat) (cA : ClassId) (a : Nat → Nat) (hWD : WDist a) : ∀ k, MEarl l dC dI cA a k := by
  intro k
  induction k with
  | zero =>
    intro f g bar fr h17 h20 hfr B i u x t hB h13 h16 hik hu wl hwl h14 hw hch P h22 hP0 hIs
    exact c_tryEarlier_0 l dC dI cA a f g hWD bar fr h17 h20 hfr B i u x t hB h13 h16 hik hu wl hwl h14 hw hch P h22 hP0 hIs
  | succ k ih =>
    intro f g bar fr h17 h20 hfr B i u x t hB h13 h16 hik hu wl hwl h14 hw hch P h22 hP0 hIs
    exact c_tryEarlier_S l dC dI cA a f g hWD k ih bar fr h17 h20 hfr B i u x t hB h13 h16 hik hu wl hwl h14 hw hch P h22 hP0 hIs
