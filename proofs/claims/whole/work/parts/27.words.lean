set_option maxHeartbeats 4000000 in
set_option maxRecDepth 100000 in
theorem c_listWords (l : Launch) (dC : Nat → ClassId) (dI : Nat → Nat → Nat) (cA : ClassId) (a : Nat → Nat) (f : Nat → Int32) (g : Nat → Nat → Int32) (hWD : WDist a) (n : Nat) (hn : n ≤ 80) (h9 : f 9 = nI n) (t : Nat → Nat) (ht : ∀ j, j < n → g 1 j = nI (t j) ∧ t j < 256) : Met l yS_listWords wsS_listWords ({ frames := 1, cells := 0, slots := 0, locals := 20 }) (va_Pc [.ref (a 2)] (zPW (dC, dI) vwCl [(cA, .int)] (WT cA a f g))) (va_Qv (fun s : zSt => ∃ w SA SE q, zLw t n 0 0 (g 2) (g 3) (f 10) false = (w, SA, SE, q) ∧ s = (upd (upd f 11 (nI w)) 10 q, sA (sA g 2 SA) 3 SE)) (zBW (dC, dI) vwCl (fun u : zSt => WT cA a u.1 u.2)) (AT a)) 0 0 (AT a) := by
  refine Met.ofW (cc := prog_5_method_3_code) (maxL := 4) (ret := none) (by decide) rfl ?_
  intro zp ze s zm args below meth zc s₁ zBL hml hv
  obtain ⟨rfl, hP, hK, hN⟩ := hv
  have hx := zBL.exec
  have hb := zBL.bytes
  have hr := zBL.returns
  have hts := atoms_spec (ws := wsS_listWords) zBL.pre
  have hz : ∀ w ∈ zBig, w.before _ s = true := fun w h => hts w (List.mem_cons_of_mem _ h)
  have hown : s.vm.findClass "LetterSums$Sum" = some zm.cls := findClass_of_methodNamed zBL.named
  have hlocks := zBL.notSynchronized
  have hD : ∀ f g, va_D (AT a) (WT cA a f g) := fun f g => WT_D hWD f g
  have hS : va_S (AT a) s.heap s.heap [] := va_S.rf
  have hl := lv_entry ([.ref (a 2)]) (n := 4) (Nat.le_of_ble_eq_true rfl)
  rw [lg_entry_eq]
  generalize (lg_sl ([.ref (a 2)]) ++ List.replicate (4 - (lg_sl ([.ref (a 2)])).length) Slot.unset).toArray = ls at hl ⊢
  have hl : lv_has ls 4 [(0, .ref (a 2))] := hl
  have loop : ∀ (k0 : Nat) (i w : Nat) (SA SE : Nat → Int32) (q : Int32) (ins : Bool) (H : Heap) (locs : List Loc) (ls : Array Slot), n + 1 ≤ i + k0 → i ≤ n → w ≤ 8 → zLw t (n - i) i w SA SE q ins = zLw t n 0 0 (g 2) (g 3) (f 10) false → va_P (dC, dI) vwCl (WT cA a (upd (upd f 11 (nI w)) 10 q) (sA (sA g 2 SA) 3 SE)) H → va_S (AT a) s.heap H locs → lv_has ls 4 [(0, .ref (a 2)), (1, .int (zB ins)), (2, .int (nI i))] → W zp l ze (headSpec wsS_listWords ({ frames := 1, cells := 0, slots := 0, locals := 20 })).room s zm ([.ref (a 2)] : List Value).toArray below meth zc H locs 0 0 (MQ below (va_Qv (fun s : zSt => ∃ w SA SE q, zLw t n 0 0 (g 2) (g 3) (f 10) false = (w, SA, SE, q) ∧ s = (upd (upd f 11 (nI w)) 10 q, sA (sA g 2 SA) 3 SE)) (zBW (dC, dI) vwCl (fun u : zSt => WT cA a u.1 u.2)) (AT a)) ([.ref (a 2)] : List Value).toArray s 0 0 (AT a)) (F0 zm 9 ls []) := by
    intro k0
    induction k0 with
    | zero => intro i w SA SE q ins H locs ls q1 q2; omega
    | succ k0 ih =>
      intro i w SA SE q ins H locs ls hk0 hi hw8 hR hP hS hl
      by_cases hin : i < n
      case neg =>
        refine lv_iload_n hx hb dS_listWords_9 rfl (lv_at hl 2 rfl) ?_
        refine lv_aload_n hx hb dS_listWords_10 rfl (lv_at hl 0 rfl) ?_
        refine gf_9 (v := nI n) hx hb hz hi_S hown hK hP (hz _ q_77) h9 dS_listWords_11 ?_
        refine lv_icmp_ge (tgt := 133) hx hb dS_listWords_14 (by decide) (fun c_14 => ?_) (fun c_14 => ?_)
        · have c_14 := (nI_leI (a := n) (b := i) (by omega) (by omega)).mp c_14
          exact W.vret hx hb hr (fun zT zh _ => ⟨⟨(upd (upd f 11 (nI w)) 10 q, sA (sA g 2 SA) 3 SE), rfl, ⟨w, SA, SE, q, by rw [← hR, show n - i = 0 by omega]; rfl, rfl⟩, zbw zh hP⟩, hS.F zh⟩) hS.2.2 dS_listWords_133
        · exact absurd ((nI_leI (a := n) (b := i) (by omega) (by omega)).mpr (by omega)) c_14
      have hti := ht i hin
      have hw1 : zLwW (t i) w ins ≤ 8 := zLwW_le hw8
      have j109 : ∀ (H : Heap) (locs : List Loc) (ls : Array Slot), va_P (dC, dI) vwCl (WT cA a (upd (upd f 11 (nI (zLwW (t i) w ins))) 10 q) (sA (sA g 2 (zLwA i (t i) w ins SA)) 3 (zLwE i (t i) w ins SE))) H → va_S (AT a) s.heap H locs → lv_has ls 4 [(0, .ref (a 2)), (1, .int (zB ins)), (2, .int (nI i)), (3, .int (zB (zSgn (t i))))] → W zp l ze (headSpec wsS_listWords ({ frames := 1, cells := 0, slots := 0, locals := 20 })).room s zm ([.ref (a 2)] : List Value).toArray below meth zc H locs 0 0 (MQ below (va_Qv (fun s : zSt => ∃ w SA SE q, zLw t n 0 0 (g 2) (g 3) (f 10) false = (w, SA, SE, q) ∧ s = (upd (upd f 11 (nI w)) 10 q, sA (sA g 2 SA) 3 SE)) (zBW (dC, dI) vwCl (fun u : zSt => WT cA a u.1 u.2)) (AT a)) ([.ref (a 2)] : List Value).toArray s 0 0 (AT a)) (F0 zm 109 ls []) := by
        intro H locs ls hP hS hl
        refine lv_aload_n hx hb dS_listWords_109 rfl (lv_at hl 0 rfl) ?_
        refine gr_2_bytes hx hb hz hi_S hown hK hP (hz _ q_76) dS_listWords_110 ?_
        refine lv_iload_n hx hb dS_listWords_113 rfl (lv_at hl 2 rfl) ?_
        refine zald (v := nI (t i)) hx hb hK hP 3 0 rfl rfl i rfl (by omega) (by decide) hti.1 dS_listWords_114 ?_
        refine lv_bipush (v := nI 61) hx hb dS_listWords_115 (by decide) ?_
        refine lv_icmp_ne (tgt := 125) hx hb dS_listWords_117 (by decide) (fun c_117 => ?_) (fun c_117 => ?_)
        · have c_117 : ¬ t i = 61 := mt (nI_eq (a := t i) (b := 61) (by omega) (by omega)).mpr c_117
          refine lv_iload_n hx hb dS_listWords_125 rfl (lv_at hl 3 rfl) ?_
          refine lv_istore_n (lv' := [(1, .int (zB (zSgn (t i)))), (0, .ref (a 2)), (2, .int (nI i)), (3, .int (zB (zSgn (t i))))]) hx hb dS_listWords_126 rfl hl (by decide) rfl (fun ls hl => ?_)
          refine lv_iinc (v := nI (i + 1)) (lv' := [(2, .int (nI (i + 1))), (1, .int (zB (zSgn (t i)))), (0, .ref (a 2)), (3, .int (zB (zSgn (t i))))]) hx hb dS_listWords_127 hl (k := 2) rfl (nI_1 _) (by decide) rfl (fun ls hl => ?_)
          refine lv_goto (tgt := 9) hx hb dS_listWords_130 (by decide) ?_
          exact ih (i + 1) (zLwW (t i) w ins) (zLwA i (t i) w ins SA) (zLwE i (t i) w ins SE) (zLwQ i (t i) q) (zSgn (t i)) H locs ls (by omega) (by omega) hw1 (by rw [← hR, show n - i = (n - (i + 1)) + 1 by omega]; rfl) (by
            rw [show zLwQ i (t i) q = q from if_neg c_117]
            exact hP) hS (lv_sub hl [2, 1, 0] rfl)
        · have c_117 : t i = 61 := (nI_eq (a := t i) (b := 61) (by omega) (by omega)).mp c_117
          refine lv_aload_n hx hb dS_listWords_120 rfl (lv_at hl 0 rfl) ?_
          refine lv_iload_n hx hb dS_listWords_121 rfl (lv_at hl 2 rfl) ?_
          refine pf_10 hx hb hz hi_S hown hK hP (hD _ _) hS (hz _ q_78) dS_listWords_122 (fun H locs hP hS => ?_)
          refine lv_iload_n hx hb dS_listWords_125 rfl (lv_at hl 3 rfl) ?_
          refine lv_istore_n (lv' := [(1, .int (zB (zSgn (t i)))), (0, .ref (a 2)), (2, .int (nI i)), (3, .int (zB (zSgn (t i))))]) hx hb dS_listWords_126 rfl hl (by decide) rfl (fun ls hl => ?_)
          refine lv_iinc (v := nI (i + 1)) (lv' := [(2, .int (nI (i + 1))), (1, .int (zB (zSgn (t i)))), (0, .ref (a 2)), (3, .int (zB (zSgn (t i))))]) hx hb dS_listWords_127 hl (k := 2) rfl (nI_1 _) (by decide) rfl (fun ls hl => ?_)
          refine lv_goto (tgt := 9) hx hb dS_listWords_130 (by decide) ?_
          exact ih (i + 1) (zLwW (t i) w ins) (zLwA i (t i) w ins SA) (zLwE i (t i) w ins SE) (zLwQ i (t i) q) (zSgn (t i)) H locs ls (by omega) (by omega) hw1 (by rw [← hR, show n - i = (n - (i + 1)) + 1 by omega]; rfl) (by
            rw [show zLwQ i (t i) q = nI i from if_pos c_117]
            rw [← upd_upd (upd f 11 _) 10 q _]; exact hP) hS (lv_sub hl [2, 1, 0] rfl)
      have j84 : ∀ (H : Heap) (locs : List Loc) (ls : Array Slot), va_P (dC, dI) vwCl (WT cA a (upd (upd f 11 (nI (zLwW (t i) w ins))) 10 q) (sA (sA g 2 (zLwA i (t i) w ins SA)) 3 SE)) H → va_S (AT a) s.heap H locs → lv_has ls 4 [(0, .ref (a 2)), (1, .int (zB ins)), (2, .int (nI i)), (3, .int (zB (zSgn (t i))))] → W zp l ze (headSpec wsS_listWords ({ frames := 1, cells := 0, slots := 0, locals := 20 })).room s zm ([.ref (a 2)] : List Value).toArray below meth zc H locs 0 0 (MQ below (va_Qv (fun s : zSt => ∃ w SA SE q, zLw t n 0 0 (g 2) (g 3) (f 10) false = (w, SA, SE, q) ∧ s = (upd (upd f 11 (nI w)) 10 q, sA (sA g 2 SA) 3 SE)) (zBW (dC, dI) vwCl (fun u : zSt => WT cA a u.1 u.2)) (AT a)) ([.ref (a 2)] : List Value).toArray s 0 0 (AT a)) (F0 zm 84 ls []) := by
        intro H locs ls hP hS hl
        refine lv_iload_n hx hb dS_listWords_84 rfl (lv_at hl 3 rfl) ?_
        refine lv_if_eq (tgt := 109) hx hb dS_listWords_85 (by decide) (fun c_85 => ?_) (fun c_85 => ?_)
        · have c_85 : zSgn (t i) = false := zB_eq0.mp c_85
          exact j109 H locs ls (by rw [show zLwE i (t i) w ins SE = SE from if_neg (by simp [c_85])]; exact hP) hS (lv_sub hl [0, 1, 2, 3] rfl)
        · have c_85 : zSgn (t i) = true := zB_n0 c_85
          refine lv_aload_n hx hb dS_listWords_88 rfl (lv_at hl 0 rfl) ?_
          refine gf_11 (v := nI (zLwW (t i) w ins)) hx hb hz hi_S hown hK hP (hz _ q_83) rfl dS_listWords_89 ?_
          refine lv_if_le (tgt := 109) hx hb dS_listWords_92 (by decide) (fun c_92 => ?_) (fun c_92 => ?_)
          · have c_92 := (nI_leI (a := zLwW (t i) w ins) (b := 0) (by omega) (by omega)).mp c_92
            exact j109 H locs ls (by rw [show zLwE i (t i) w ins SE = SE from if_neg (by simp; omega)]; exact hP) hS (lv_sub hl [0, 1, 2, 3] rfl)
          · have c_92 := mt (nI_leI (a := zLwW (t i) w ins) (b := 0) (by omega) (by omega)).mpr c_92
            refine lv_aload_n hx hb dS_listWords_95 rfl (lv_at hl 0 rfl) ?_
            refine gr_2_ends hx hb hz hi_S hown hK hP (hz _ q_81) dS_listWords_96 ?_
            refine lv_aload_n hx hb dS_listWords_99 rfl (lv_at hl 0 rfl) ?_
            refine gf_11 (v := nI (zLwW (t i) w ins)) hx hb hz hi_S hown hK hP (hz _ q_83) rfl dS_listWords_100 ?_
            refine lv_iconst (v := nI 1) hx hb dS_listWords_103 (by decide) ?_
            refine lv_isub hx hb dS_listWords_104 ?_
            refine zt (y := nI (zLwW (t i) w ins - 1)) (pk_sub (by omega)) ?_
            refine lv_iload_n hx hb dS_listWords_105 rfl (lv_at hl 2 rfl) ?_
            refine lv_iconst (v := nI 1) hx hb dS_listWords_106 (by decide) ?_
            refine lv_iadd hx hb dS_listWords_107 ?_
            refine zt (nI_add _ _) ?_
            refine zast (wd' := WT cA a (upd (upd f 11 (nI (zLwW (t i) w ins))) 10 q) (updA (sA (sA g 2 (zLwA i (t i) w ins SA)) 3 SE) 3 (zLwW (t i) w ins - 1) (nI (i + 1)))) hx hb hK hP (hD _ _) hS 5 0 rfl rfl (zLwW (t i) w ins - 1) rfl (by omega) (by decide) rfl dS_listWords_108 (fun H locs hP hS => ?_)
            exact j109 H locs ls (by rw [show zLwE i (t i) w ins SE = upd SE (zLwW (t i) w ins - 1) (nI (i + 1)) from if_pos (by simp [c_85]; omega), ← sA_sA (sA g 2 _) 3 SE _]; exact hP) hS (lv_sub hl [0, 1, 2, 3] rfl)
      have j47 : ∀ (H : Heap) (locs : List Loc) (ls : Array Slot), va_P (dC, dI) vwCl (WT cA a (upd (upd f 11 (nI w)) 10 q) (sA (sA g 2 SA) 3 SE)) H → va_S (AT a) s.heap H locs → lv_has ls 4 [(0, .ref (a 2)), (1, .int (zB ins)), (2, .int (nI i)), (3, .int (zB (zSgn (t i))))] → W zp l ze (headSpec wsS_listWords ({ frames := 1, cells := 0, slots := 0, locals := 20 })).room s zm ([.ref (a 2)] : List Value).toArray below meth zc H locs 0 0 (MQ below (va_Qv (fun s : zSt => ∃ w SA SE q, zLw t n 0 0 (g 2) (g 3) (f 10) false = (w, SA, SE, q) ∧ s = (upd (upd f 11 (nI w)) 10 q, sA (sA g 2 SA) 3 SE)) (zBW (dC, dI) vwCl (fun u : zSt => WT cA a u.1 u.2)) (AT a)) ([.ref (a 2)] : List Value).toArray s 0 0 (AT a)) (F0 zm 47 ls []) := by
        intro H locs ls hP hS hl
        refine lv_iload_n hx hb dS_listWords_47 rfl (lv_at hl 3 rfl) ?_
        refine lv_if_eq (tgt := 84) hx hb dS_listWords_48 (by decide) (fun c_48 => ?_) (fun c_48 => ?_)
        · have c_48 : zSgn (t i) = false := zB_eq0.mp c_48
          exact j84 H locs ls (by rw [show zLwW (t i) w ins = w from if_neg (zStF1 c_48), show zLwA i (t i) w ins SA = SA from if_neg (zStF1 c_48)]; exact hP) hS (lv_sub hl [0, 1, 2, 3] rfl)
        · have c_48 : zSgn (t i) = true := zB_n0 c_48
          refine lv_iload_n hx hb dS_listWords_51 rfl (lv_at hl 1 rfl) ?_
          refine lv_if_ne (tgt := 84) hx hb dS_listWords_52 (by decide) (fun c_52 => ?_) (fun c_52 => ?_)
          · have c_52 : ins = true := zB_n0 c_52
            exact j84 H locs ls (by rw [show zLwW (t i) w ins = w from if_neg (zStF2 c_52), show zLwA i (t i) w ins SA = SA from if_neg (zStF2 c_52)]; exact hP) hS (lv_sub hl [0, 1, 2, 3] rfl)
          · have c_52 : ins = false := zB_eq0.mp c_52
            refine lv_aload_n hx hb dS_listWords_55 rfl (lv_at hl 0 rfl) ?_
            refine gf_11 (v := nI w) hx hb hz hi_S hown hK hP (hz _ q_83) rfl dS_listWords_56 ?_
            refine lv_bipush (v := nI 8) hx hb dS_listWords_59 (by decide) ?_
            refine lv_icmp_ge (tgt := 84) hx hb dS_listWords_61 (by decide) (fun c_61 => ?_) (fun c_61 => ?_)
            · have c_61 := (nI_leI (a := 8) (b := w) (by omega) (by omega)).mp c_61
              exact j84 H locs ls (by rw [show zLwW (t i) w ins = w from if_neg (zStF3 (by omega)), show zLwA i (t i) w ins SA = SA from if_neg (zStF3 (by omega))]; exact hP) hS (lv_sub hl [0, 1, 2, 3] rfl)
            · have c_61 := mt (nI_leI (a := 8) (b := w) (by omega) (by omega)).mpr c_61
              refine lv_aload_n hx hb dS_listWords_64 rfl (lv_at hl 0 rfl) ?_
              refine gr_2_starts hx hb hz hi_S hown hK hP (hz _ q_79) dS_listWords_65 ?_
              refine lv_aload_n hx hb dS_listWords_68 rfl (lv_at hl 0 rfl) ?_
              refine gf_11 (v := nI w) hx hb hz hi_S hown hK hP (hz _ q_83) rfl dS_listWords_69 ?_
              refine lv_iload_n hx hb dS_listWords_72 rfl (lv_at hl 2 rfl) ?_
              refine zast (wd' := WT cA a (upd (upd f 11 (nI w)) 10 q) (updA (sA (sA g 2 SA) 3 SE) 2 w (nI i))) hx hb hK hP (hD _ _) hS 4 0 rfl rfl w rfl (by omega) (by decide) rfl dS_listWords_73 (fun H locs hP hS => ?_)
              refine lv_aload_n hx hb dS_listWords_74 rfl (lv_at hl 0 rfl) ?_
              refine lv_dup hx hb dS_listWords_75 rfl ?_
              refine gf_11 (v := nI w) hx hb hz hi_S hown hK hP (hz _ q_83) rfl dS_listWords_76 ?_
              refine lv_iconst (v := nI 1) hx hb dS_listWords_79 (by decide) ?_
              refine lv_iadd hx hb dS_listWords_80 ?_
              refine zt (nI_add _ _) ?_
              refine pf_11 hx hb hz hi_S hown hK hP (hD _ _) hS (hz _ q_83) dS_listWords_81 (fun H locs hP hS => ?_)
              exact j84 H locs ls (by rw [show zLwW (t i) w ins = w + 1 from if_pos (zStT c_48 c_52 (by omega)), show zLwA i (t i) w ins SA = upd SA w (nI i) from if_pos (zStT c_48 c_52 (by omega)), ← zU5 f, ← zA5 g]; exact hP) hS (lv_sub hl [0, 1, 2, 3] rfl)
      refine lv_iload_n hx hb dS_listWords_9 rfl (lv_at hl 2 rfl) ?_
      refine lv_aload_n hx hb dS_listWords_10 rfl (lv_at hl 0 rfl) ?_
      refine gf_9 (v := nI n) hx hb hz hi_S hown hK hP (hz _ q_77) h9 dS_listWords_11 ?_
      refine lv_icmp_ge (tgt := 133) hx hb dS_listWords_14 (by decide) (fun c_14 => ?_) (fun c_14 => ?_)
      · exact absurd ((nI_leI (a := n) (b := i) (by omega) (by omega)).mp c_14) (by omega)
      · have c_14 := mt (nI_leI (a := n) (b := i) (by omega) (by omega)).mpr c_14
        refine lv_aload_n hx hb dS_listWords_17 rfl (lv_at hl 0 rfl) ?_
        refine gr_2_bytes hx hb hz hi_S hown hK hP (hz _ q_76) dS_listWords_18 ?_
        refine lv_iload_n hx hb dS_listWords_21 rfl (lv_at hl 2 rfl) ?_
        refine zald (v := nI (t i)) hx hb hK hP 3 0 rfl rfl i rfl (by omega) (by decide) hti.1 dS_listWords_22 ?_
        refine zq_e (zrSN0 (rest := []) ⟨hx, hb, hml, hown, hz⟩ (c_isLetter l  (nI (t i))) ⟨zcN 1 hz hN qn_258 q_1 q_224 (by decide +kernel) rfl rfl ⟨Nat.le_of_ble_eq_true rfl, Nat.le_of_ble_eq_true rfl⟩, hz _ q_223, trivial⟩ rfl hl.1 rfl (Nat.le_of_ble_eq_true rfl) dS_listWords_23 ⟨Nat.zero_le _, Nat.zero_le _⟩) ?_
        refine lv_if_ne (tgt := 41) hx hb dS_listWords_26 (by decide) (fun c_26 => ?_) (fun c_26 => ?_)
        · have c_26 := zB_n0 c_26
          refine lv_iconst (v := nI 1) hx hb dS_listWords_41 (by decide) ?_
          refine zt (y := zB (zSgn (t i))) (zSgT (by omega) (by first | exact Or.inl c_26 | exact Or.inr c_38)) ?_
          refine lv_goto (tgt := 46) hx hb dS_listWords_42 (by decide) ?_
          refine lv_istore_n (lv' := [(3, .int (zB (zSgn (t i)))), (0, .ref (a 2)), (1, .int (zB ins)), (2, .int (nI i))]) hx hb dS_listWords_46 rfl hl (by decide) rfl (fun ls hl => ?_)
          exact j47 H locs ls hP hS (lv_sub hl [1, 2, 3, 0] rfl)
        · have c_26 := zB_eq0.mp c_26
          refine lv_aload_n hx hb dS_listWords_29 rfl (lv_at hl 0 rfl) ?_
          refine gr_2_bytes hx hb hz hi_S hown hK hP (hz _ q_76) dS_listWords_30 ?_
          refine lv_iload_n hx hb dS_listWords_33 rfl (lv_at hl 2 rfl) ?_
          refine zald (v := nI (t i)) hx hb hK hP 3 0 rfl rfl i rfl (by omega) (by decide) hti.1 dS_listWords_34 ?_
          refine zq_e (zrSN0 (rest := []) ⟨hx, hb, hml, hown, hz⟩ (c_isDigit l  (nI (t i))) ⟨zcN 1 hz hN qn_259 q_1 q_241 (by decide +kernel) rfl rfl ⟨Nat.le_of_ble_eq_true rfl, Nat.le_of_ble_eq_true rfl⟩, hz _ q_240, trivial⟩ rfl hl.1 rfl (Nat.le_of_ble_eq_true rfl) dS_listWords_35 ⟨Nat.zero_le _, Nat.zero_le _⟩) ?_
          refine lv_if_eq (tgt := 45) hx hb dS_listWords_38 (by decide) (fun c_38 => ?_) (fun c_38 => ?_)
          · have c_38 := zB_eq0.mp c_38
            refine lv_iconst (v := nI 0) hx hb dS_listWords_45 (by decide) ?_
            refine zt (y := zB (zSgn (t i))) (zSgF (by omega) c_26 c_38) ?_
            refine lv_istore_n (lv' := [(3, .int (zB (zSgn (t i)))), (0, .ref (a 2)), (1, .int (zB ins)), (2, .int (nI i))]) hx hb dS_listWords_46 rfl hl (by decide) rfl (fun ls hl => ?_)
            exact j47 H locs ls hP hS (lv_sub hl [1, 2, 3, 0] rfl)
          · have c_38 := zB_n0 c_38
            refine lv_iconst (v := nI 1) hx hb dS_listWords_41 (by decide) ?_
            refine zt (y := zB (zSgn (t i))) (zSgT (by omega) (by first | exact Or.inl c_26 | exact Or.inr c_38)) ?_
            refine lv_goto (tgt := 46) hx hb dS_listWords_42 (by decide) ?_
            refine lv_istore_n (lv' := [(3, .int (zB (zSgn (t i)))), (0, .ref (a 2)), (1, .int (zB ins)), (2, .int (nI i))]) hx hb dS_listWords_46 rfl hl (by decide) rfl (fun ls hl => ?_)
            exact j47 H locs ls hP hS (lv_sub hl [1, 2, 3, 0] rfl)
  refine lv_aload_n hx hb dS_listWords_0 rfl (lv_at hl 0 rfl) ?_
  refine lv_iconst (v := nI 0) hx hb dS_listWords_1 (by decide) ?_
  refine pf_11 hx hb hz hi_S hown hK hP (hD _ _) hS (hz _ q_83) dS_listWords_2 (fun H locs hP hS => ?_)
  refine lv_iconst (v := nI 0) hx hb dS_listWords_5 (by decide) ?_
  refine lv_istore_n (lv' := [(1, .int (nI 0)), (0, .ref (a 2))]) hx hb dS_listWords_6 rfl hl (by decide) rfl (fun ls hl => ?_)
  refine lv_iconst (v := nI 0) hx hb dS_listWords_7 (by decide) ?_
  refine lv_istore_n (lv' := [(2, .int (nI 0)), (1, .int (nI 0)), (0, .ref (a 2))]) hx hb dS_listWords_8 rfl hl (by decide) rfl (fun ls hl => ?_)
  exact loop (n + 1) 0 0 (g 2) (g 3) (f 10) false _ _ ls (by omega) (by omega) (by omega) rfl (by rw [show upd (upd f 11 (nI 0)) 10 (f 10) = upd f 11 (nI 0) from upd_self rfl, show sA g 2 (g 2) = g from sA_self g 2, sA_self]; exact hP) hS (lv_sub hl [2, 1, 0] rfl)

set_option maxHeartbeats 4000000 in
set_option maxRecDepth 100000 in
theorem c_listLetters (l : Launch) (dC : Nat → ClassId) (dI : Nat → Nat → Nat) (cA : ClassId) (a : Nat → Nat) (f : Nat → Int32) (g : Nat → Nat → Int32) (hWD : WDist a) (n : Nat) (hn : n ≤ 80) (h9 : f 9 = nI n) (t : Nat → Nat) (ht : ∀ j, j < n → g 1 j = nI (t j) ∧ t j < 256) : Met l yS_listLetters wsS_listLetters ({ frames := 1, cells := 0, slots := 0, locals := 20 }) (va_Pc [.ref (a 2)] (zPW (dC, dI) vwCl [(cA, .int)] (WT cA a f g))) (va_Qv (fun s : zSt => ∃ lc B4 S5, zLl (zSn t n 0 0) 26 0 0 (g 4) (g 5) = (lc, B4, S5) ∧ s = (upd f 12 (nI lc), sA (sA g 4 B4) 5 S5)) (zBW (dC, dI) vwCl (fun u : zSt => WT cA a u.1 u.2)) (AT a)) 0 0 (AT a) := by
  refine Met.ofW (cc := prog_5_method_4_code) (maxL := 3) (ret := none) (by decide) rfl ?_
  intro zp ze s zm args below meth zc s₁ zBL hml hv
  obtain ⟨rfl, hP, hK, hN⟩ := hv
  have hx := zBL.exec
  have hb := zBL.bytes
  have hr := zBL.returns
  have hts := atoms_spec (ws := wsS_listLetters) zBL.pre
  have hz : ∀ w ∈ zBig, w.before _ s = true := fun w h => hts w (List.mem_cons_of_mem _ h)
  have hown : s.vm.findClass "LetterSums$Sum" = some zm.cls := findClass_of_methodNamed zBL.named
  have hlocks := zBL.notSynchronized
  have hD : ∀ f g, va_D (AT a) (WT cA a f g) := fun f g => WT_D hWD f g
  have hS : va_S (AT a) s.heap s.heap [] := va_S.rf
  have hl := lv_entry ([.ref (a 2)]) (n := 3) (Nat.le_of_ble_eq_true rfl)
  rw [lg_entry_eq]
  generalize (lg_sl ([.ref (a 2)]) ++ List.replicate (3 - (lg_sl ([.ref (a 2)])).length) Slot.unset).toArray = ls at hl ⊢
  have hl : lv_has ls 3 [(0, .ref (a 2))] := hl
  have loop2 : ∀ (k0 : Nat) (i lc : Nat) (B4 S5 : Nat → Int32) (H : Heap) (locs : List Loc) (ls : Array Slot), 27 ≤ i + k0 → i ≤ 26 → lc ≤ 8 → zLl (zSn t n 0 0) (26 - i) i lc B4 S5 = zLl (zSn t n 0 0) 26 0 0 (g 4) (g 5) → va_P (dC, dI) vwCl (WT cA a (upd f 12 (nI lc)) (sA (sA g 4 B4) 5 S5)) H → va_S (AT a) s.heap H locs → lv_has ls 3 [(0, .ref (a 2)), (1, .int (nI (zSn t n 0 0))), (2, .int (nI i))] → W zp l ze (headSpec wsS_listLetters ({ frames := 1, cells := 0, slots := 0, locals := 20 })).room s zm ([.ref (a 2)] : List Value).toArray below meth zc H locs 0 0 (MQ below (va_Qv (fun s : zSt => ∃ lc B4 S5, zLl (zSn t n 0 0) 26 0 0 (g 4) (g 5) = (lc, B4, S5) ∧ s = (upd f 12 (nI lc), sA (sA g 4 B4) 5 S5)) (zBW (dC, dI) vwCl (fun u : zSt => WT cA a u.1 u.2)) (AT a)) ([.ref (a 2)] : List Value).toArray s 0 0 (AT a)) (F0 zm 51 ls []) := by
    intro k0
    induction k0 with
    | zero => intro i lc B4 S5 H locs ls q1 q2; omega
    | succ k0 ih =>
      intro i lc B4 S5 H locs ls hk0 hi hlc hR hP hS hl
      refine lv_iload_n hx hb dS_listLetters_51 rfl (lv_at hl 2 rfl) ?_
      refine lv_bipush (v := nI 26) hx hb dS_listLetters_52 (by decide) ?_
      refine lv_icmp_ge (tgt := 121) hx hb dS_listLetters_54 (by decide) (fun c_54 => ?_) (fun c_54 => ?_)
      · have c_54 := (nI_leI (a := 26) (b := i) (by omega) (by omega)).mp c_54
        exact W.vret hx hb hr (fun zT zh _ => ⟨⟨(upd f 12 (nI lc), sA (sA g 4 B4) 5 S5), rfl, ⟨lc, B4, S5, by rw [← hR, show 26 - i = 0 by omega]; rfl, rfl⟩, zbw zh hP⟩, hS.F zh⟩) hS.2.2 dS_listLetters_121
      · have c_54 := mt (nI_leI (a := 26) (b := i) (by omega) (by omega)).mpr c_54
        refine lv_aload_n hx hb dS_listLetters_57 rfl (lv_at hl 0 rfl) ?_
        refine gr_2_slots hx hb hz hi_S hown hK hP (hz _ q_88) dS_listLetters_58 ?_
        refine lv_iload_n hx hb dS_listLetters_61 rfl (lv_at hl 2 rfl) ?_
        refine lv_iconst (v := (-1)) hx hb dS_listLetters_62 (by decide) ?_
        refine zast (wd' := WT cA a (upd f 12 (nI lc)) (updA (sA (sA g 4 B4) 5 S5) 5 i (-1))) hx hb hK hP (hD _ _) hS 7 0 rfl rfl i rfl (by omega) (by decide) rfl dS_listLetters_63 (fun H locs hP hS => ?_)
        refine lv_iload_n hx hb dS_listLetters_64 rfl (lv_at hl 1 rfl) ?_
        refine lv_iload_n hx hb dS_listLetters_65 rfl (lv_at hl 2 rfl) ?_
        refine lv_ishr hx hb dS_listLetters_66 ?_
        refine lv_iconst (v := nI 1) hx hb dS_listLetters_67 (by decide) ?_
        refine lv_iand hx hb dS_listLetters_68 ?_
        refine zt (y := zB ((zSn t n 0 0).testBit i)) (zBit (Nat.lt_trans (zSn_lt n) (by decide)) (by omega)) ?_
        refine lv_iconst (v := nI 1) hx hb dS_listLetters_69 (by decide) ?_
        refine lv_icmp_ne (tgt := 115) hx hb dS_listLetters_70 (by decide) (fun c_70 => ?_) (fun c_70 => ?_)
        · have c_70 : (zSn t n 0 0).testBit i = false := by cases hq : (zSn t n 0 0).testBit i <;> first | rfl | exact absurd (by rw [hq]; rfl) c_70
          refine lv_iinc (v := nI (i + 1)) (lv' := [(2, .int (nI (i + 1))), (0, .ref (a 2)), (1, .int (nI (zSn t n 0 0)))]) hx hb dS_listLetters_115 hl (k := 2) rfl (nI_1 _) (by decide) rfl (fun ls hl => ?_)
          refine lv_goto (tgt := 51) hx hb dS_listLetters_118 (by decide) ?_
          exact ih (i + 1) lc B4 (upd S5 i (-1)) H locs ls (by omega) (by omega) hlc (by rw [← hR, show 26 - i = (26 - (i + 1)) + 1 by omega]; simp only [zLl]; rw [if_neg (by simp [c_70])]) (by rw [← sA_sA (sA g 4 B4) 5 S5 _]; exact hP) hS (lv_sub hl [1, 2, 0] rfl)
        · have c_70 : (zSn t n 0 0).testBit i = true := zB_eq1.mp c_70
          refine lv_aload_n hx hb dS_listLetters_73 rfl (lv_at hl 0 rfl) ?_
          refine gf_12 (v := nI lc) hx hb hz hi_S hown hK hP (hz _ q_89) rfl dS_listLetters_74 ?_
          refine lv_bipush (v := nI 8) hx hb dS_listLetters_77 (by decide) ?_
          refine lv_icmp_ge (tgt := 115) hx hb dS_listLetters_79 (by decide) (fun c_79 => ?_) (fun c_79 => ?_)
          · have c_79 := (nI_leI (a := 8) (b := lc) (by omega) (by omega)).mp c_79
            refine lv_iinc (v := nI (i + 1)) (lv' := [(2, .int (nI (i + 1))), (0, .ref (a 2)), (1, .int (nI (zSn t n 0 0)))]) hx hb dS_listLetters_115 hl (k := 2) rfl (nI_1 _) (by decide) rfl (fun ls hl => ?_)
            refine lv_goto (tgt := 51) hx hb dS_listLetters_118 (by decide) ?_
            exact ih (i + 1) lc B4 (upd S5 i (-1)) H locs ls (by omega) (by omega) hlc (by rw [← hR, show 26 - i = (26 - (i + 1)) + 1 by omega]; simp only [zLl]; rw [if_neg (by simp; omega)]) (by rw [← sA_sA (sA g 4 B4) 5 S5 _]; exact hP) hS (lv_sub hl [1, 2, 0] rfl)
          · have c_79 := mt (nI_leI (a := 8) (b := lc) (by omega) (by omega)).mpr c_79
            refine lv_aload_n hx hb dS_listLetters_82 rfl (lv_at hl 0 rfl) ?_
            refine gr_2_byAlphabet hx hb hz hi_S hown hK hP (hz _ q_87) dS_listLetters_83 ?_
            refine lv_aload_n hx hb dS_listLetters_86 rfl (lv_at hl 0 rfl) ?_
            refine gf_12 (v := nI lc) hx hb hz hi_S hown hK hP (hz _ q_89) rfl dS_listLetters_87 ?_
            refine lv_bipush (v := nI 97) hx hb dS_listLetters_90 (by decide) ?_
            refine lv_iload_n hx hb dS_listLetters_92 rfl (lv_at hl 2 rfl) ?_
            refine lv_iadd hx hb dS_listLetters_93 ?_
            refine zt (nI_add _ _) ?_
            refine zast (wd' := WT cA a (upd f 12 (nI lc)) (updA (updA (sA (sA g 4 B4) 5 S5) 5 i (-1)) 4 lc (nI (97 + i)))) hx hb hK hP (hD _ _) hS 6 0 rfl rfl lc rfl (by omega) (by decide) rfl dS_listLetters_94 (fun H locs hP hS => ?_)
            refine lv_aload_n hx hb dS_listLetters_95 rfl (lv_at hl 0 rfl) ?_
            refine gr_2_slots hx hb hz hi_S hown hK hP (hz _ q_88) dS_listLetters_96 ?_
            refine lv_iload_n hx hb dS_listLetters_99 rfl (lv_at hl 2 rfl) ?_
            refine lv_aload_n hx hb dS_listLetters_100 rfl (lv_at hl 0 rfl) ?_
            refine gf_12 (v := nI lc) hx hb hz hi_S hown hK hP (hz _ q_89) rfl dS_listLetters_101 ?_
            refine zast (wd' := WT cA a (upd f 12 (nI lc)) (updA (updA (updA (sA (sA g 4 B4) 5 S5) 5 i (-1)) 4 lc (nI (97 + i))) 5 i (nI lc))) hx hb hK hP (hD _ _) hS 7 0 rfl rfl i rfl (by omega) (by decide) rfl dS_listLetters_104 (fun H locs hP hS => ?_)
            refine lv_aload_n hx hb dS_listLetters_105 rfl (lv_at hl 0 rfl) ?_
            refine lv_dup hx hb dS_listLetters_106 rfl ?_
            refine gf_12 (v := nI lc) hx hb hz hi_S hown hK hP (hz _ q_89) rfl dS_listLetters_107 ?_
            refine lv_iconst (v := nI 1) hx hb dS_listLetters_110 (by decide) ?_
            refine lv_iadd hx hb dS_listLetters_111 ?_
            refine zt (nI_add _ _) ?_
            refine pf_12 hx hb hz hi_S hown hK hP (hD _ _) hS (hz _ q_89) dS_listLetters_112 (fun H locs hP hS => ?_)
            refine lv_iinc (v := nI (i + 1)) (lv' := [(2, .int (nI (i + 1))), (0, .ref (a 2)), (1, .int (nI (zSn t n 0 0)))]) hx hb dS_listLetters_115 hl (k := 2) rfl (nI_1 _) (by decide) rfl (fun ls hl => ?_)
            refine lv_goto (tgt := 51) hx hb dS_listLetters_118 (by decide) ?_
            exact ih (i + 1) (lc + 1) (upd B4 lc (nI (97 + i))) (upd (upd S5 i (-1)) i (nI lc)) H locs ls (by omega) (by omega) (by omega) (by rw [← hR, show 26 - i = (26 - (i + 1)) + 1 by omega]; simp only [zLl]; rw [if_pos (by simp [c_70]; omega)]) (by rw [← zA6 g, ← upd_upd f 12 (nI lc) _]; exact hP) hS (lv_sub hl [1, 2, 0] rfl)
  have loop : ∀ (k0 i sn : Nat) (ls : Array Slot), n + 1 ≤ i + k0 → i ≤ n → sn < 2 ^ 26 → zSn t (n - i) i sn = zSn t n 0 0 → lv_has ls 3 [(0, .ref (a 2)), (1, .int (nI sn)), (2, .int (nI i))] → W zp l ze (headSpec wsS_listLetters ({ frames := 1, cells := 0, slots := 0, locals := 20 })).room s zm ([.ref (a 2)] : List Value).toArray below meth zc s.heap [] 0 0 (MQ below (va_Qv (fun s : zSt => ∃ lc B4 S5, zLl (zSn t n 0 0) 26 0 0 (g 4) (g 5) = (lc, B4, S5) ∧ s = (upd f 12 (nI lc), sA (sA g 4 B4) 5 S5)) (zBW (dC, dI) vwCl (fun u : zSt => WT cA a u.1 u.2)) (AT a)) ([.ref (a 2)] : List Value).toArray s 0 0 (AT a)) (F0 zm 4 ls []) := by
    intro k0
    induction k0 with
    | zero => intro i sn ls q1 q2; omega
    | succ k0 ih =>
      intro i sn ls hk0 hi hsn hR hl
      refine lv_iload_n hx hb dS_listLetters_4 rfl (lv_at hl 2 rfl) ?_
      refine lv_aload_n hx hb dS_listLetters_5 rfl (lv_at hl 0 rfl) ?_
      refine gf_9 (v := nI n) hx hb hz hi_S hown hK hP (hz _ q_77) h9 dS_listLetters_6 ?_
      refine lv_icmp_ge (tgt := 44) hx hb dS_listLetters_9 (by decide) (fun c_9 => ?_) (fun c_9 => ?_)
      · have c_9 := (nI_leI (a := n) (b := i) (by omega) (by omega)).mp c_9
        refine lv_aload_n hx hb dS_listLetters_44 rfl (lv_at hl 0 rfl) ?_
        refine lv_iconst (v := nI 0) hx hb dS_listLetters_45 (by decide) ?_
        refine pf_12 hx hb hz hi_S hown hK hP (hD _ _) hS (hz _ q_89) dS_listLetters_46 (fun H locs hP hS => ?_)
        refine lv_iconst (v := nI 0) hx hb dS_listLetters_49 (by decide) ?_
        refine lv_istore_n (lv' := [(2, .int (nI 0)), (0, .ref (a 2)), (1, .int (nI sn))]) hx hb dS_listLetters_50 rfl hl (by decide) rfl (fun ls hl => ?_)
        rw [show sn = zSn t n 0 0 by rw [← hR, show n - i = 0 by omega]; rfl] at hl
        exact loop2 27 0 0 (g 4) (g 5) _ _ ls (by omega) (by omega) (by omega) rfl (by rw [show sA g 4 (g 4) = g from sA_self g 4, sA_self]; exact hP) hS (lv_sub hl [1, 2, 0] rfl)
      · have c_9 := mt (nI_leI (a := n) (b := i) (by omega) (by omega)).mpr c_9
        refine lv_aload_n hx hb dS_listLetters_12 rfl (lv_at hl 0 rfl) ?_
        refine gr_2_bytes hx hb hz hi_S hown hK hP (hz _ q_76) dS_listLetters_13 ?_
        refine lv_iload_n hx hb dS_listLetters_16 rfl (lv_at hl 2 rfl) ?_
        refine zald (v := nI (t i)) hx hb hK hP 3 0 rfl rfl i rfl (by omega) (by decide) (ht i (by omega)).1 dS_listLetters_17 ?_
        refine zq_e (zrSN0 (rest := []) ⟨hx, hb, hml, hown, hz⟩ (c_isLetter l  (nI (t i))) ⟨zcN 1 hz hN qn_258 q_1 q_224 (by decide +kernel) rfl rfl ⟨Nat.le_of_ble_eq_true rfl, Nat.le_of_ble_eq_true rfl⟩, hz _ q_223, trivial⟩ rfl hl.1 rfl (Nat.le_of_ble_eq_true rfl) dS_listLetters_18 ⟨Nat.zero_le _, Nat.zero_le _⟩) ?_
        refine lv_if_eq (tgt := 38) hx hb dS_listLetters_21 (by decide) (fun c_21 => ?_) (fun c_21 => ?_)
        · have c_21 := zLet_f (by have := (ht i (by omega)).2; omega) c_21
          refine lv_iinc (v := nI (i + 1)) (lv' := [(2, .int (nI (i + 1))), (0, .ref (a 2)), (1, .int (nI sn))]) hx hb dS_listLetters_38 hl (k := 2) rfl (nI_1 _) (by decide) rfl (fun ls hl => ?_)
          refine lv_goto (tgt := 4) hx hb dS_listLetters_41 (by decide) ?_
          exact ih (i + 1) sn ls (by omega) (by omega) hsn (by rw [← hR, show n - i = (n - (i + 1)) + 1 by omega]; simp only [zSn]; rw [if_neg c_21]) (lv_sub hl [1, 2, 0] rfl)
        · have c_21 := zLet_t (by have := (ht i (by omega)).2; omega) c_21
          refine lv_iload_n hx hb dS_listLetters_24 rfl (lv_at hl 1 rfl) ?_
          refine lv_iconst (v := nI 1) hx hb dS_listLetters_25 (by decide) ?_
          refine lv_aload_n hx hb dS_listLetters_26 rfl (lv_at hl 0 rfl) ?_
          refine gr_2_bytes hx hb hz hi_S hown hK hP (hz _ q_76) dS_listLetters_27 ?_
          refine lv_iload_n hx hb dS_listLetters_30 rfl (lv_at hl 2 rfl) ?_
          refine zald (v := nI (t i)) hx hb hK hP 3 0 rfl rfl i rfl (by omega) (by decide) (ht i (by omega)).1 dS_listLetters_31 ?_
          refine lv_bipush (v := nI 97) hx hb dS_listLetters_32 (by decide) ?_
          refine lv_isub hx hb dS_listLetters_34 ?_
          refine zt (y := nI (t i - 97)) (pk_sub c_21.1) ?_
          refine lv_ishl hx hb dS_listLetters_35 ?_
          refine lv_ior hx hb dS_listLetters_36 ?_
          refine zt (y := nI (sn ||| 2 ^ (t i - 97))) (zSeen c_21.1 c_21.2) ?_
          refine lv_istore_n (lv' := [(1, .int (nI (sn ||| 2 ^ (t i - 97)))), (0, .ref (a 2)), (2, .int (nI i))]) hx hb dS_listLetters_37 rfl hl (by decide) rfl (fun ls hl => ?_)
          refine lv_iinc (v := nI (i + 1)) (lv' := [(2, .int (nI (i + 1))), (1, .int (nI (sn ||| 2 ^ (t i - 97)))), (0, .ref (a 2))]) hx hb dS_listLetters_38 hl (k := 2) rfl (nI_1 _) (by decide) rfl (fun ls hl => ?_)
          refine lv_goto (tgt := 4) hx hb dS_listLetters_41 (by decide) ?_
          exact ih (i + 1) (sn ||| 2 ^ (t i - 97)) ls (by omega) (by omega) (zSnLt hsn c_21.2) (by rw [← hR, show n - i = (n - (i + 1)) + 1 by omega]; simp only [zSn]; rw [if_pos c_21]) (lv_sub hl [2, 1, 0] rfl)
  refine lv_iconst (v := nI 0) hx hb dS_listLetters_0 (by decide) ?_
  refine lv_istore_n (lv' := [(1, .int (nI 0)), (0, .ref (a 2))]) hx hb dS_listLetters_1 rfl hl (by decide) rfl (fun ls hl => ?_)
  refine lv_iconst (v := nI 0) hx hb dS_listLetters_2 (by decide) ?_
  refine lv_istore_n (lv' := [(2, .int (nI 0)), (1, .int (nI 0)), (0, .ref (a 2))]) hx hb dS_listLetters_3 rfl hl (by decide) rfl (fun ls hl => ?_)
  exact loop (n + 1) 0 0 ls (by omega) (by omega) (by decide) rfl (lv_sub hl [2, 1, 0] rfl)

set_option maxHeartbeats 4000000 in
set_option maxRecDepth 100000 in
theorem c_take (l : Launch) (dC : Nat → ClassId) (dI : Nat → Nat → Nat) (cA : ClassId) (a : Nat → Nat) (f : Nat → Int32) (g : Nat → Nat → Int32) (hWD : WDist a) (n : Nat) (hn : n ≤ 80) (t : Nat → Nat) (ht : ∀ j, j < n → g 0 j = nI (t j) ∧ t j < 256) : Met l yS_take wsS_take ({ frames := 2, cells := 0, slots := 0, locals := 43 }) (va_Pc [.ref (a 2), .ref (a 0), .int (nI n)] (zPW (dC, dI) vwCl [(cA, .int)] (WT cA a f g))) (va_Qv (fun s : zSt => ∃ F1 w SA SE q lc B4 S5, (∀ j, j < n → F1 j = nI (t j)) ∧ zLw t n 0 0 (g 2) (g 3) (f 10) false = (w, SA, SE, q) ∧ zLl (zSn t n 0 0) 26 0 0 (g 4) (g 5) = (lc, B4, S5) ∧ s = (upd (upd (upd (upd f 9 (nI n)) 11 (nI w)) 10 q) 12 (nI lc), sA (sA (sA (sA (sA g 1 F1) 2 SA) 3 SE) 4 B4) 5 S5)) (zBW (dC, dI) vwCl (fun u : zSt => WT cA a u.1 u.2)) (AT a)) 0 0 (AT a) := by
  refine Met.ofW (cc := prog_5_method_2_code) (maxL := 4) (ret := none) (by decide) rfl ?_
  intro zp ze s zm args below meth zc s₁ zBL hml hv
  obtain ⟨rfl, hP, hK, hN⟩ := hv
  have hx := zBL.exec
  have hb := zBL.bytes
  have hr := zBL.returns
  have hts := atoms_spec (ws := wsS_take) zBL.pre
  have hz : ∀ w ∈ zBig, w.before _ s = true := fun w h => hts w (List.mem_cons_of_mem _ h)
  have hown : s.vm.findClass "LetterSums$Sum" = some zm.cls := findClass_of_methodNamed zBL.named
  have hlocks := zBL.notSynchronized
  have hD : ∀ f g, va_D (AT a) (WT cA a f g) := fun f g => WT_D hWD f g
  have hS : va_S (AT a) s.heap s.heap [] := va_S.rf
  have hl := lv_entry ([.ref (a 2), .ref (a 0), .int (nI n)]) (n := 4) (Nat.le_of_ble_eq_true rfl)
  rw [lg_entry_eq]
  generalize (lg_sl ([.ref (a 2), .ref (a 0), .int (nI n)]) ++ List.replicate (4 - (lg_sl ([.ref (a 2), .ref (a 0), .int (nI n)])).length) Slot.unset).toArray = ls at hl ⊢
  have hl : lv_has ls 4 [(0, .ref (a 2)), (1, .ref (a 0)), (2, .int (nI n))] := hl
  have loop : ∀ (k0 : Nat) (i : Nat) (F1 : Nat → Int32) (H : Heap) (locs : List Loc) (ls : Array Slot), n + 1 ≤ i + k0 → i ≤ n → (∀ j, j < i → F1 j = nI (t j)) → va_P (dC, dI) vwCl (WT cA a (upd f 9 (nI i)) (sA g 1 F1)) H → va_S (AT a) s.heap H locs → lv_has ls 4 [(0, .ref (a 2)), (1, .ref (a 0)), (2, .int (nI n)), (3, .int (nI i))] → W zp l ze (headSpec wsS_take ({ frames := 2, cells := 0, slots := 0, locals := 43 })).room s zm ([.ref (a 2), .ref (a 0), .int (nI n)] : List Value).toArray below meth zc H locs 0 0 (MQ below (va_Qv (fun s : zSt => ∃ F1 w SA SE q lc B4 S5, (∀ j, j < n → F1 j = nI (t j)) ∧ zLw t n 0 0 (g 2) (g 3) (f 10) false = (w, SA, SE, q) ∧ zLl (zSn t n 0 0) 26 0 0 (g 4) (g 5) = (lc, B4, S5) ∧ s = (upd (upd (upd (upd f 9 (nI n)) 11 (nI w)) 10 q) 12 (nI lc), sA (sA (sA (sA (sA g 1 F1) 2 SA) 3 SE) 4 B4) 5 S5)) (zBW (dC, dI) vwCl (fun u : zSt => WT cA a u.1 u.2)) (AT a)) ([.ref (a 2), .ref (a 0), .int (nI n)] : List Value).toArray s 0 0 (AT a)) (F0 zm 7 ls []) := by
    intro k0
    induction k0 with
    | zero => intro i F1 H locs ls q1 q2; omega
    | succ k0 ih =>
      intro i F1 H locs ls hk0 hi hF hP hS hl
      refine lv_iload_n hx hb dS_take_7 rfl (lv_at hl 3 rfl) ?_
      refine lv_iload_n hx hb dS_take_8 rfl (lv_at hl 2 rfl) ?_
      refine lv_icmp_ge (tgt := 52) hx hb dS_take_9 (by decide) (fun c_9 => ?_) (fun c_9 => ?_)
      · have c_9 := (nI_leI (a := n) (b := i) (by omega) (by omega)).mp c_9
        have hin2 : i = n := by omega
        rw [hin2] at hP
        refine lv_aload_n hx hb dS_take_52 rfl (lv_at hl 0 rfl) ?_
        refine zk_v (zrV (rest := []) ⟨hx, hb, hml, hown, hz⟩ (c_listWords l dC dI cA a (upd f 9 (nI n)) (sA g 1 F1) hWD n hn rfl t (fun j hj => ⟨hF j (by omega), (ht j hj).2⟩)) ⟨zcB 0 hz q_254 q_5 q_257 (by decide +kernel) rfl rfl ⟨Nat.le_of_ble_eq_true rfl, Nat.le_of_ble_eq_true rfl⟩, hz _ q_256, hz _ qs_5⟩ hK hN hP 2 4 rfl rfl rfl rfl hl.1 rfl (Nat.le_of_ble_eq_true rfl) dS_take_53 ⟨Nat.zero_le _, Nat.zero_le _⟩) hS (fun _ h => h) (fun zu H1 locs zhu hP1 hS hk => ?_)
        obtain ⟨w, SA, SE, q, hlw, rfl⟩ := zhu
        have hlw : zLw t n 0 0 (g 2) (g 3) (f 10) false = (w, SA, SE, q) := hlw
        have hP1 : va_P (dC, dI) vwCl (WT cA a (upd (upd (upd f 9 (nI n)) 11 (nI w)) 10 q) (sA (sA (sA g 1 F1) 2 SA) 3 SE)) H1 := hP1
        have hP := hP1
        generalize H1 = H at hP hS ⊢
        refine lv_aload_n hx hb dS_take_56 rfl (lv_at hl 0 rfl) ?_
        refine zk_v (zrV (rest := []) ⟨hx, hb, hml, hown, hz⟩ (c_listLetters l dC dI cA a (upd (upd (upd f 9 (nI n)) 11 (nI w)) 10 q) (sA (sA (sA g 1 F1) 2 SA) 3 SE) hWD n hn rfl t (fun j hj => ⟨hF j (by omega), (ht j hj).2⟩)) ⟨zcB 0 hz q_260 q_5 q_263 (by decide +kernel) rfl rfl ⟨Nat.le_of_ble_eq_true rfl, Nat.le_of_ble_eq_true rfl⟩, hz _ q_262, hz _ qs_6⟩ hK hN hP 2 4 rfl rfl rfl rfl hl.1 rfl (Nat.le_of_ble_eq_true rfl) dS_take_57 ⟨Nat.zero_le _, Nat.zero_le _⟩) hS (fun _ h => h) (fun zu H1 locs zhu hP1 hS hk => ?_)
        obtain ⟨lc, B4, S5, hll, rfl⟩ := zhu
        have hll : zLl (zSn t n 0 0) 26 0 0 (g 4) (g 5) = (lc, B4, S5) := hll
        have hP1 : va_P (dC, dI) vwCl (WT cA a (upd (upd (upd (upd f 9 (nI n)) 11 (nI w)) 10 q) 12 (nI lc)) (sA (sA (sA (sA (sA g 1 F1) 2 SA) 3 SE) 4 B4) 5 S5)) H1 := hP1
        have hP := hP1
        generalize H1 = H at hP hS ⊢
        exact W.vret hx hb hr (fun zT zh _ => ⟨⟨(upd (upd (upd (upd f 9 (nI n)) 11 (nI w)) 10 q) 12 (nI lc), sA (sA (sA (sA (sA g 1 F1) 2 SA) 3 SE) 4 B4) 5 S5), rfl, ⟨F1, w, SA, SE, q, lc, B4, S5, fun j hj => hF j (by omega), hlw, hll, rfl⟩, zbw zh hP⟩, hS.F zh⟩) hS.2.2 dS_take_60
      · have c_9 := mt (nI_leI (a := n) (b := i) (by omega) (by omega)).mpr c_9
        refine lv_iload_n hx hb dS_take_12 rfl (lv_at hl 3 rfl) ?_
        refine lv_aload_n hx hb dS_take_13 rfl (lv_at hl 1 rfl) ?_
        refine zalen hx hb hK hP 0 0 rfl rfl dS_take_14 ?_
        refine lv_icmp_ge (tgt := 52) hx hb dS_take_15 (by decide) (fun c_15 => ?_) (fun c_15 => ?_)
        · have c_15 := (nI_leI (a := 80) (b := i) (by omega) (by omega)).mp c_15
          have hin2 : i = n := by omega
          rw [hin2] at hP
          refine lv_aload_n hx hb dS_take_52 rfl (lv_at hl 0 rfl) ?_
          refine zk_v (zrV (rest := []) ⟨hx, hb, hml, hown, hz⟩ (c_listWords l dC dI cA a (upd f 9 (nI n)) (sA g 1 F1) hWD n hn rfl t (fun j hj => ⟨hF j (by omega), (ht j hj).2⟩)) ⟨zcB 0 hz q_254 q_5 q_257 (by decide +kernel) rfl rfl ⟨Nat.le_of_ble_eq_true rfl, Nat.le_of_ble_eq_true rfl⟩, hz _ q_256, hz _ qs_5⟩ hK hN hP 2 4 rfl rfl rfl rfl hl.1 rfl (Nat.le_of_ble_eq_true rfl) dS_take_53 ⟨Nat.zero_le _, Nat.zero_le _⟩) hS (fun _ h => h) (fun zu H1 locs zhu hP1 hS hk => ?_)
          obtain ⟨w, SA, SE, q, hlw, rfl⟩ := zhu
          have hlw : zLw t n 0 0 (g 2) (g 3) (f 10) false = (w, SA, SE, q) := hlw
          have hP1 : va_P (dC, dI) vwCl (WT cA a (upd (upd (upd f 9 (nI n)) 11 (nI w)) 10 q) (sA (sA (sA g 1 F1) 2 SA) 3 SE)) H1 := hP1
          have hP := hP1
          generalize H1 = H at hP hS ⊢
          refine lv_aload_n hx hb dS_take_56 rfl (lv_at hl 0 rfl) ?_
          refine zk_v (zrV (rest := []) ⟨hx, hb, hml, hown, hz⟩ (c_listLetters l dC dI cA a (upd (upd (upd f 9 (nI n)) 11 (nI w)) 10 q) (sA (sA (sA g 1 F1) 2 SA) 3 SE) hWD n hn rfl t (fun j hj => ⟨hF j (by omega), (ht j hj).2⟩)) ⟨zcB 0 hz q_260 q_5 q_263 (by decide +kernel) rfl rfl ⟨Nat.le_of_ble_eq_true rfl, Nat.le_of_ble_eq_true rfl⟩, hz _ q_262, hz _ qs_6⟩ hK hN hP 2 4 rfl rfl rfl rfl hl.1 rfl (Nat.le_of_ble_eq_true rfl) dS_take_57 ⟨Nat.zero_le _, Nat.zero_le _⟩) hS (fun _ h => h) (fun zu H1 locs zhu hP1 hS hk => ?_)
          obtain ⟨lc, B4, S5, hll, rfl⟩ := zhu
          have hll : zLl (zSn t n 0 0) 26 0 0 (g 4) (g 5) = (lc, B4, S5) := hll
          have hP1 : va_P (dC, dI) vwCl (WT cA a (upd (upd (upd (upd f 9 (nI n)) 11 (nI w)) 10 q) 12 (nI lc)) (sA (sA (sA (sA (sA g 1 F1) 2 SA) 3 SE) 4 B4) 5 S5)) H1 := hP1
          have hP := hP1
          generalize H1 = H at hP hS ⊢
          exact W.vret hx hb hr (fun zT zh _ => ⟨⟨(upd (upd (upd (upd f 9 (nI n)) 11 (nI w)) 10 q) 12 (nI lc), sA (sA (sA (sA (sA g 1 F1) 2 SA) 3 SE) 4 B4) 5 S5), rfl, ⟨F1, w, SA, SE, q, lc, B4, S5, fun j hj => hF j (by omega), hlw, hll, rfl⟩, zbw zh hP⟩, hS.F zh⟩) hS.2.2 dS_take_60
        · have c_15 := mt (nI_leI (a := 80) (b := i) (by omega) (by omega)).mpr c_15
          refine lv_iload_n hx hb dS_take_18 rfl (lv_at hl 3 rfl) ?_
          refine lv_aload_n hx hb dS_take_19 rfl (lv_at hl 0 rfl) ?_
          refine gr_2_bytes hx hb hz hi_S hown hK hP (hz _ q_76) dS_take_20 ?_
          refine zalen hx hb hK hP 3 0 rfl rfl dS_take_23 ?_
          refine lv_icmp_ge (tgt := 52) hx hb dS_take_24 (by decide) (fun c_24 => ?_) (fun c_24 => ?_)
          · have c_24 := (nI_leI (a := 80) (b := i) (by omega) (by omega)).mp c_24
            have hin2 : i = n := by omega
            rw [hin2] at hP
            refine lv_aload_n hx hb dS_take_52 rfl (lv_at hl 0 rfl) ?_
            refine zk_v (zrV (rest := []) ⟨hx, hb, hml, hown, hz⟩ (c_listWords l dC dI cA a (upd f 9 (nI n)) (sA g 1 F1) hWD n hn rfl t (fun j hj => ⟨hF j (by omega), (ht j hj).2⟩)) ⟨zcB 0 hz q_254 q_5 q_257 (by decide +kernel) rfl rfl ⟨Nat.le_of_ble_eq_true rfl, Nat.le_of_ble_eq_true rfl⟩, hz _ q_256, hz _ qs_5⟩ hK hN hP 2 4 rfl rfl rfl rfl hl.1 rfl (Nat.le_of_ble_eq_true rfl) dS_take_53 ⟨Nat.zero_le _, Nat.zero_le _⟩) hS (fun _ h => h) (fun zu H1 locs zhu hP1 hS hk => ?_)
            obtain ⟨w, SA, SE, q, hlw, rfl⟩ := zhu
            have hlw : zLw t n 0 0 (g 2) (g 3) (f 10) false = (w, SA, SE, q) := hlw
            have hP1 : va_P (dC, dI) vwCl (WT cA a (upd (upd (upd f 9 (nI n)) 11 (nI w)) 10 q) (sA (sA (sA g 1 F1) 2 SA) 3 SE)) H1 := hP1
            have hP := hP1
            generalize H1 = H at hP hS ⊢
            refine lv_aload_n hx hb dS_take_56 rfl (lv_at hl 0 rfl) ?_
            refine zk_v (zrV (rest := []) ⟨hx, hb, hml, hown, hz⟩ (c_listLetters l dC dI cA a (upd (upd (upd f 9 (nI n)) 11 (nI w)) 10 q) (sA (sA (sA g 1 F1) 2 SA) 3 SE) hWD n hn rfl t (fun j hj => ⟨hF j (by omega), (ht j hj).2⟩)) ⟨zcB 0 hz q_260 q_5 q_263 (by decide +kernel) rfl rfl ⟨Nat.le_of_ble_eq_true rfl, Nat.le_of_ble_eq_true rfl⟩, hz _ q_262, hz _ qs_6⟩ hK hN hP 2 4 rfl rfl rfl rfl hl.1 rfl (Nat.le_of_ble_eq_true rfl) dS_take_57 ⟨Nat.zero_le _, Nat.zero_le _⟩) hS (fun _ h => h) (fun zu H1 locs zhu hP1 hS hk => ?_)
            obtain ⟨lc, B4, S5, hll, rfl⟩ := zhu
            have hll : zLl (zSn t n 0 0) 26 0 0 (g 4) (g 5) = (lc, B4, S5) := hll
            have hP1 : va_P (dC, dI) vwCl (WT cA a (upd (upd (upd (upd f 9 (nI n)) 11 (nI w)) 10 q) 12 (nI lc)) (sA (sA (sA (sA (sA g 1 F1) 2 SA) 3 SE) 4 B4) 5 S5)) H1 := hP1
            have hP := hP1
            generalize H1 = H at hP hS ⊢
            exact W.vret hx hb hr (fun zT zh _ => ⟨⟨(upd (upd (upd (upd f 9 (nI n)) 11 (nI w)) 10 q) 12 (nI lc), sA (sA (sA (sA (sA g 1 F1) 2 SA) 3 SE) 4 B4) 5 S5), rfl, ⟨F1, w, SA, SE, q, lc, B4, S5, fun j hj => hF j (by omega), hlw, hll, rfl⟩, zbw zh hP⟩, hS.F zh⟩) hS.2.2 dS_take_60
          · have c_24 := mt (nI_leI (a := 80) (b := i) (by omega) (by omega)).mpr c_24
            refine lv_aload_n hx hb dS_take_27 rfl (lv_at hl 0 rfl) ?_
            refine gr_2_bytes hx hb hz hi_S hown hK hP (hz _ q_76) dS_take_28 ?_
            refine lv_iload_n hx hb dS_take_31 rfl (lv_at hl 3 rfl) ?_
            refine lv_aload_n hx hb dS_take_32 rfl (lv_at hl 1 rfl) ?_
            refine lv_iload_n hx hb dS_take_33 rfl (lv_at hl 3 rfl) ?_
            refine zald (v := nI (t i)) hx hb hK hP 0 0 rfl rfl i rfl (by omega) (by decide) (ht i (by omega)).1 dS_take_34 ?_
            refine zast (wd' := WT cA a (upd f 9 (nI i)) (updA (sA g 1 F1) 1 i (nI (t i)))) hx hb hK hP (hD _ _) hS 3 0 rfl rfl i rfl (by omega) (by decide) rfl dS_take_35 (fun H locs hP hS => ?_)
            refine lv_aload_n hx hb dS_take_36 rfl (lv_at hl 0 rfl) ?_
            refine lv_dup hx hb dS_take_37 rfl ?_
            refine gf_9 (v := nI i) hx hb hz hi_S hown hK hP (hz _ q_77) rfl dS_take_38 ?_
            refine lv_iconst (v := nI 1) hx hb dS_take_41 (by decide) ?_
            refine lv_iadd hx hb dS_take_42 ?_
            refine zt (nI_add _ _) ?_
            refine pf_9 hx hb hz hi_S hown hK hP (hD _ _) hS (hz _ q_77) dS_take_43 (fun H locs hP hS => ?_)
            refine lv_iinc (v := nI (i + 1)) (lv' := [(3, .int (nI (i + 1))), (0, .ref (a 2)), (1, .ref (a 0)), (2, .int (nI n))]) hx hb dS_take_46 hl (k := 3) rfl (nI_1 _) (by decide) rfl (fun ls hl => ?_)
            refine lv_goto (tgt := 7) hx hb dS_take_49 (by decide) ?_
            exact ih (i + 1) (upd F1 i (nI (t i))) H locs ls (by omega) (by omega) (fun j hj => by
              by_cases e : j = i
              · rw [e, pk_us]
              · rw [pk_un e]; exact hF j (by omega)) (by rw [← upd_upd f 9 (nI i) _, ← sA_sA g 1 F1 _]; exact hP) hS (lv_sub hl [1, 2, 3, 0] rfl)
  refine lv_aload_n hx hb dS_take_0 rfl (lv_at hl 0 rfl) ?_
  refine lv_iconst (v := nI 0) hx hb dS_take_1 (by decide) ?_
  refine pf_9 hx hb hz hi_S hown hK hP (hD _ _) hS (hz _ q_77) dS_take_2 (fun H locs hP hS => ?_)
  refine lv_iconst (v := nI 0) hx hb dS_take_5 (by decide) ?_
  refine lv_istore_n (lv' := [(3, .int (nI 0)), (0, .ref (a 2)), (1, .ref (a 0)), (2, .int (nI n))]) hx hb dS_take_6 rfl hl (by decide) rfl (fun ls hl => ?_)
  exact loop (n + 1) 0 (g 1) _ _ ls (by omega) (by omega) (fun j hj => by omega) (by rw [show sA g 1 (g 1) = g from sA_self g 1]; exact hP) hS (lv_sub hl [1, 2, 3, 0] rfl)
