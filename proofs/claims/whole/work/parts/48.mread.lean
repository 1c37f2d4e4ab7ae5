set_option maxHeartbeats 4000000 in
set_option maxRecDepth 100000 in
theorem c_M_read (l : Launch) (dC : Nat → ClassId) (dI : Nat → Nat → Nat) (cA cZ cJ : ClassId) (a : Nat → Nat) (f : Nat → Int32) (g : Nat → Nat → Int32) (h : Nat → Int64) (r : Int64) (hWD : MDist a) (B : Nat) (hB : B ≤ 10) (h0 : f 0 = nI B) (tn : Nat) (htn : tn ≤ 80) (h1 : f 1 = nI tn) (t : Nat → Nat) (ht : ∀ i, i < tn → g 0 i = nI (t i) ∧ t i < 256) : Met l yM_read wsM_read ({ frames := 3, cells := 0, slots := 0, locals := 68 }) (va_Pc [.ref (a 17)] (zPW (dC, dI) vwCl [(cA, .int), (cZ, .boolean), (cJ, .long)] (WM cA cZ cJ a f g h r))) (va_Qi (fun (z : Int32) (s : zMt) => ∃ f1 g1, s = (f1, g1, h, r) ∧ if gRun B t tn 0 0 0 0 false = -1 then z = nI (zR0 t tn).1 ∧ zRd f g t tn f1 g1 else z = -1 - gRun B t tn 0 0 0 0 false ∧ (∀ j, j ≠ 1 → j ≠ 2 → j ≠ 9 → f1 j = f j) ∧ f1 1 = nI 0 ∧ (∀ j, j < 7 ∨ 11 < j → g1 j = g j)) (zBW (dC, dI) vwCl (fun u : zMt => WM cA cZ cJ a u.1 u.2.1 u.2.2.1 u.2.2.2)) (AM a)) 0 0 (AM a) := by
  refine Met.ofW (cc := prog_8_method_7_code) (maxL := 4) (ret := (some .int)) (by decide) rfl ?_
  intro zp ze s zm args below meth zc s₁ zBL hml hv
  obtain ⟨rfl, hP, hK, hN⟩ := hv
  have hx := zBL.exec
  have hb := zBL.bytes
  have hr := zBL.returns
  have hts := atoms_spec (ws := wsM_read) zBL.pre
  have hz : ∀ w ∈ zBig, w.before _ s = true := fun w h => hts w (List.mem_cons_of_mem _ h)
  have hown : s.vm.findClass "LetterSumsModel" = some zm.cls := findClass_of_methodNamed zBL.named
  have hlocks := zBL.notSynchronized
  have hD : ∀ f g h r, va_D (AM a) (WM cA cZ cJ a f g h r) := fun f g h r => WM_D hWD f g h r
  have hS : va_S (AM a) s.heap s.heap [] := va_S.rf
  have hl := lv_entry ([.ref (a 17)]) (n := 4) (Nat.le_of_ble_eq_true rfl)
  rw [lg_entry_eq]
  generalize (lg_sl ([.ref (a 17)]) ++ List.replicate (4 - (lg_sl ([.ref (a 17)])).length) Slot.unset).toArray = ls at hl ⊢
  have hl : lv_has ls 4 [(0, .ref (a 17))] := hl
  have loop3 : ∀ (k0 : Nat) (i : Nat) (le : Nat → Nat) (f2 : Nat → Int32) (g2 : Nat → Nat → Int32) (H : Heap) (locs : List Loc) (ls : Array Slot), 27 ≤ i + k0 → i ≤ 26 → gRun B t tn 0 0 0 0 false = -1 → zS3 f g t tn f2 g2 (zCn (zSn t tn 0 0) i) le → zLn (zSn t tn 0 0) (26 - i) i (zCn (zSn t tn 0 0) i) le = (zL0 (zSn t tn 0 0)) → va_P (dC, dI) vwCl (WM cA cZ cJ a f2 g2 h r) H → va_S (AM a) s.heap H locs → lv_has ls 4 [(0, .ref (a 17)), (1, .int (nI tn)), (2, .int (-1)), (3, .int (nI i))] → W zp l ze (headSpec wsM_read ({ frames := 3, cells := 0, slots := 0, locals := 68 })).room s zm ([.ref (a 17)] : List Value).toArray below meth zc H locs 0 0 (MQ below (va_Qi (fun (z : Int32) (s : zMt) => ∃ f1 g1, s = (f1, g1, h, r) ∧ if gRun B t tn 0 0 0 0 false = -1 then z = nI (zR0 t tn).1 ∧ zRd f g t tn f1 g1 else z = -1 - gRun B t tn 0 0 0 0 false ∧ (∀ j, j ≠ 1 → j ≠ 2 → j ≠ 9 → f1 j = f j) ∧ f1 1 = nI 0 ∧ (∀ j, j < 7 ∨ 11 < j → g1 j = g j)) (zBW (dC, dI) vwCl (fun u : zMt => WM cA cZ cJ a u.1 u.2.1 u.2.2.1 u.2.2.2)) (AM a)) ([.ref (a 17)] : List Value).toArray s 0 0 (AM a)) (F0 zm 139 ls []) := by
    intro k0
    induction k0 with
    | zero => intro i le f2 g2 H locs ls q1 q2; omega
    | succ k0 ih =>
      intro i le f2 g2 H locs ls hk0 hi hG9 hS3 hR hP hS hl
      have hc5 : f2 5 = nI (zCn (zSn t tn 0 0) i) := hS3.2.1
      have hc4 : f2 4 = nI (zR0 t tn).1 := hS3.1.2.2.1
      have hpc : zPc (zSn t tn 0 0) ≤ 8 := zSn_pc tn 0 0 0 0 false (by decide) hG9 (by omega)
      refine lv_iload_n hx hb dM_read_139 rfl (lv_at hl 3 rfl) ?_
      refine lv_bipush (v := nI 26) hx hb dM_read_140 (by decide) ?_
      refine lv_icmp_ge (tgt := 183) hx hb dM_read_142 (by decide) (fun c_142 => ?_) (fun c_142 => ?_)
      · have c_142 := (nI_leI (a := 26) (b := i) (by omega) (by omega)).mp c_142
        refine lv_aload_n hx hb dM_read_183 rfl (lv_at hl 0 rfl) ?_
        refine lv_iconst (v := nI 0) hx hb dM_read_184 (by decide) ?_
        refine mpf_6 hx hb hz hi_M hown hK hP (hD _ _ _ _) hS (hz _ q_466) dM_read_185 (fun H locs hP hS => ?_)
        refine lv_aload_n hx hb dM_read_188 rfl (lv_at hl 0 rfl) ?_
        refine mgf_4 (v := nI (zR0 t tn).1) hx hb hz hi_M hown hK hP (hz _ q_464) hc4 dM_read_189 ?_
        exact W.iret hx hb hr (fun zT zh _ => ⟨⟨_, (upd f2 6 (nI 0), g2, h, r), rfl, ⟨_, _, rfl, (by rw [if_pos hG9]; refine ⟨rfl, ?_, pk_us⟩; rw [show 26 - i = 0 by omega] at hR; rw [← hR]; exact ⟨zS2_f hS3.1 (Or.inr rfl), hS3.2.1, hS3.2.2⟩)⟩, zbw zh hP⟩, hS.F zh⟩) hS.2.2 dM_read_192
      · have c_142 := mt (nI_leI (a := 26) (b := i) (by omega) (by omega)).mpr c_142
        refine lv_aload_n hx hb dM_read_145 rfl (lv_at hl 0 rfl) ?_
        refine mgr_seen hx hb hz hi_M hown hK hP (hz _ q_477) dM_read_146 ?_
        refine lv_iload_n hx hb dM_read_149 rfl (lv_at hl 3 rfl) ?_
        refine zbld (v := zB ((zSn t tn 0 0).testBit i)) hx hb hK hP 11 1 rfl rfl i rfl (by omega) (by decide) (hS3.1.1.2.2.1.2.2.1 i (by omega)) dM_read_150 ?_
        refine lv_if_eq (tgt := 177) hx hb dM_read_151 (by decide) (fun c_151 => ?_) (fun c_151 => ?_)
        · have c_151 : (zSn t tn 0 0).testBit i = false := zB_eq0.mp c_151
          refine lv_iinc (v := nI (i + 1)) (lv' := [(3, .int (nI (i + 1))), (0, .ref (a 17)), (1, .int (nI tn)), (2, .int (-1))]) hx hb dM_read_177 hl (k := 3) rfl (nI_1 _) (by decide) rfl (fun ls hl => ?_)
          refine lv_goto (tgt := 139) hx hb dM_read_180 (by decide) ?_
          exact ih (i + 1) le _ _ H locs ls (by omega) (by omega) hG9 (by rw [zCn_S, c_151]; exact hS3) (by rw [zCn_S, c_151, ← hR]; exact (zLn_b (by omega) c_151).symm) hP hS (lv_sub hl [1, 2, 3, 0] rfl)
        · have c_151 : (zSn t tn 0 0).testBit i = true := zB_n0 c_151
          refine lv_aload_n hx hb dM_read_154 rfl (lv_at hl 0 rfl) ?_
          refine mgr_letter hx hb hz hi_M hown hK hP (hz _ q_471) dM_read_155 ?_
          refine lv_aload_n hx hb dM_read_158 rfl (lv_at hl 0 rfl) ?_
          refine mgf_5 (v := nI (zCn (zSn t tn 0 0) i)) hx hb hz hi_M hown hK hP (hz _ q_465) hc5 dM_read_159 ?_
          refine lv_bipush (v := nI 97) hx hb dM_read_162 (by decide) ?_
          refine lv_iload_n hx hb dM_read_164 rfl (lv_at hl 3 rfl) ?_
          refine lv_iadd hx hb dM_read_165 ?_
          refine zt (nI_add _ _) ?_
          refine zast (wd' := WM cA cZ cJ a f2 (updA g2 6 (zCn (zSn t tn 0 0) i) (nI (97 + i))) h r) hx hb hK hP (hD _ _ _ _) hS 6 0 rfl rfl (zCn (zSn t tn 0 0) i) rfl (zCn_lt hpc (by omega) c_151) (by decide) rfl dM_read_166 (fun H locs hP hS => ?_)
          refine lv_aload_n hx hb dM_read_167 rfl (lv_at hl 0 rfl) ?_
          refine lv_dup hx hb dM_read_168 rfl ?_
          refine mgf_5 (v := nI (zCn (zSn t tn 0 0) i)) hx hb hz hi_M hown hK hP (hz _ q_465) hc5 dM_read_169 ?_
          refine lv_iconst (v := nI 1) hx hb dM_read_172 (by decide) ?_
          refine lv_iadd hx hb dM_read_173 ?_
          refine zt (nI_add _ _) ?_
          refine mpf_5 hx hb hz hi_M hown hK hP (hD _ _ _ _) hS (hz _ q_465) dM_read_174 (fun H locs hP hS => ?_)
          refine lv_iinc (v := nI (i + 1)) (lv' := [(3, .int (nI (i + 1))), (0, .ref (a 17)), (1, .int (nI tn)), (2, .int (-1))]) hx hb dM_read_177 hl (k := 3) rfl (nI_1 _) (by decide) rfl (fun ls hl => ?_)
          refine lv_goto (tgt := 139) hx hb dM_read_180 (by decide) ?_
          exact ih (i + 1) (upN le (zCn (zSn t tn 0 0) i) i) _ _ H locs ls (by omega) (by omega) hG9 (by rw [zCn_S, c_151]; exact zS3_s hS3) (by rw [zCn_S, c_151, ← hR]; exact (zLn_a (by omega) c_151).symm) hP hS (lv_sub hl [1, 2, 3, 0] rfl)
  have loop2 : ∀ (k0 : Nat) (i : Nat) (f2 : Nat → Int32) (g2 : Nat → Nat → Int32) (H : Heap) (locs : List Loc) (ls : Array Slot), (zR0 t tn).1 + 1 ≤ i + k0 → i ≤ (zR0 t tn).1 → gRun B t tn 0 0 0 0 false = -1 → zS2 f g t tn f2 g2 i → va_P (dC, dI) vwCl (WM cA cZ cJ a f2 g2 h r) H → va_S (AM a) s.heap H locs → lv_has ls 4 [(0, .ref (a 17)), (1, .int (nI tn)), (2, .int (-1)), (3, .int (nI i))] → W zp l ze (headSpec wsM_read ({ frames := 3, cells := 0, slots := 0, locals := 68 })).room s zm ([.ref (a 17)] : List Value).toArray below meth zc H locs 0 0 (MQ below (va_Qi (fun (z : Int32) (s : zMt) => ∃ f1 g1, s = (f1, g1, h, r) ∧ if gRun B t tn 0 0 0 0 false = -1 then z = nI (zR0 t tn).1 ∧ zRd f g t tn f1 g1 else z = -1 - gRun B t tn 0 0 0 0 false ∧ (∀ j, j ≠ 1 → j ≠ 2 → j ≠ 9 → f1 j = f j) ∧ f1 1 = nI 0 ∧ (∀ j, j < 7 ∨ 11 < j → g1 j = g j)) (zBW (dC, dI) vwCl (fun u : zMt => WM cA cZ cJ a u.1 u.2.1 u.2.2.1 u.2.2.2)) (AM a)) ([.ref (a 17)] : List Value).toArray s 0 0 (AM a)) (F0 zm 70 ls []) := by
    intro k0
    induction k0 with
    | zero => intro i f2 g2 H locs ls q1 q2; omega
    | succ k0 ih =>
      intro i f2 g2 H locs ls hk0 hi hG9 hS2 hP hS hl
      have hc4 : f2 4 = nI (zR0 t tn).1 := hS2.2.2.1
      have hw8 : (zR0 t tn).1 ≤ 8 := hS2.1.2.2.1.2.1
      have hwd : i < (zR0 t tn).1 → _ := hS2.1.2.2.1.2.2.2 i
      refine lv_iload_n hx hb dM_read_70 rfl (lv_at hl 3 rfl) ?_
      refine lv_aload_n hx hb dM_read_71 rfl (lv_at hl 0 rfl) ?_
      refine mgf_4 (v := nI (zR0 t tn).1) hx hb hz hi_M hown hK hP (hz _ q_464) hc4 dM_read_72 ?_
      refine lv_icmp_ge (tgt := 132) hx hb dM_read_75 (by decide) (fun c_75 => ?_) (fun c_75 => ?_)
      · have c_75 : (zR0 t tn).1 ≤ i := (nI_leI (a := (zR0 t tn).1) (b := i) (by omega) (by omega)).mp c_75
        refine lv_aload_n hx hb dM_read_132 rfl (lv_at hl 0 rfl) ?_
        refine lv_iconst (v := nI 0) hx hb dM_read_133 (by decide) ?_
        refine mpf_5 hx hb hz hi_M hown hK hP (hD _ _ _ _) hS (hz _ q_465) dM_read_134 (fun H locs hP hS => ?_)
        refine lv_iconst (v := nI 0) hx hb dM_read_137 (by decide) ?_
        refine lv_istore_n (lv' := [(3, .int (nI 0)), (0, .ref (a 17)), (1, .int (nI tn)), (2, .int (-1))]) hx hb dM_read_138 rfl hl (by decide) rfl (fun ls hl => ?_)
        exact loop3 27 0 (fun _ => 0) _ _ H locs ls (by omega) (by omega) hG9 ⟨zS2_f (by rw [show (zR0 t tn).1 = i by omega]; exact hS2) (Or.inl rfl), pk_us, fun j hj => absurd hj (Nat.not_lt_zero j)⟩ rfl hP hS (lv_sub hl [1, 2, 3, 0] rfl)
      · have c_75 : i < (zR0 t tn).1 := by have := mt (nI_leI (a := (zR0 t tn).1) (b := i) (by omega) (by omega)).mpr c_75; omega
        refine lv_aload_n hx hb dM_read_78 rfl (lv_at hl 0 rfl) ?_
        refine mgr_wordAt hx hb hz hi_M hown hK hP (hz _ q_467) dM_read_79 ?_
        refine lv_iload_n hx hb dM_read_82 rfl (lv_at hl 3 rfl) ?_
        refine lv_aload_n hx hb dM_read_83 rfl (lv_at hl 0 rfl) ?_
        refine mgr_newAt hx hb hz hi_M hown hK hP (hz _ q_473) dM_read_84 ?_
        refine lv_iload_n hx hb dM_read_87 rfl (lv_at hl 3 rfl) ?_
        refine zald (v := nI ((zR0 t tn).2.1 i)) hx hb hK hP 7 0 rfl rfl i rfl (by omega) (by decide) ((hwd c_75).1) dM_read_88 ?_
        refine zast (wd' := WM cA cZ cJ a f2 (updA g2 2 i (nI ((zR0 t tn).2.1 i))) h r) hx hb hK hP (hD _ _ _ _) hS 2 0 rfl rfl i rfl (by omega) (by decide) rfl dM_read_89 (fun H locs hP hS => ?_)
        refine lv_aload_n hx hb dM_read_90 rfl (lv_at hl 0 rfl) ?_
        refine mgr_wordLong hx hb hz hi_M hown hK hP (hz _ q_468) dM_read_91 ?_
        refine lv_iload_n hx hb dM_read_94 rfl (lv_at hl 3 rfl) ?_
        refine lv_aload_n hx hb dM_read_95 rfl (lv_at hl 0 rfl) ?_
        refine mgr_newLong hx hb hz hi_M hown hK hP (hz _ q_474) dM_read_96 ?_
        refine lv_iload_n hx hb dM_read_99 rfl (lv_at hl 3 rfl) ?_
        refine zald (v := nI ((zR0 t tn).2.2.1 i)) hx hb hK hP 8 0 rfl rfl i rfl (by omega) (by decide) ((hwd c_75).2.1) dM_read_100 ?_
        refine zast (wd' := WM cA cZ cJ a f2 (updA (updA g2 2 i (nI ((zR0 t tn).2.1 i))) 3 i (nI ((zR0 t tn).2.2.1 i))) h r) hx hb hK hP (hD _ _ _ _) hS 3 0 rfl rfl i rfl (by omega) (by decide) rfl dM_read_101 (fun H locs hP hS => ?_)
        refine lv_aload_n hx hb dM_read_102 rfl (lv_at hl 0 rfl) ?_
        refine mgr_minus hx hb hz hi_M hown hK hP (hz _ q_469) dM_read_103 ?_
        refine lv_iload_n hx hb dM_read_106 rfl (lv_at hl 3 rfl) ?_
        refine lv_aload_n hx hb dM_read_107 rfl (lv_at hl 0 rfl) ?_
        refine mgr_newMinus hx hb hz hi_M hown hK hP (hz _ q_475) dM_read_108 ?_
        refine lv_iload_n hx hb dM_read_111 rfl (lv_at hl 3 rfl) ?_
        refine zbld (v := zB ((zR0 t tn).2.2.2.1 i)) hx hb hK hP 9 1 rfl rfl i rfl (by omega) (by decide) ((hwd c_75).2.2.1) dM_read_112 ?_
        refine zbst (wd' := WM cA cZ cJ a f2 (updA (updA (updA g2 2 i (nI ((zR0 t tn).2.1 i))) 3 i (nI ((zR0 t tn).2.2.1 i))) 4 i (zB ((zR0 t tn).2.2.2.1 i))) h r) hx hb hK hP (hD _ _ _ _) hS 4 1 rfl rfl i rfl (by omega) (by decide) (zB_vn _) rfl dM_read_113 (fun H locs hP hS => ?_)
        refine lv_aload_n hx hb dM_read_114 rfl (lv_at hl 0 rfl) ?_
        refine mgr_wordSide hx hb hz hi_M hown hK hP (hz _ q_470) dM_read_115 ?_
        refine lv_iload_n hx hb dM_read_118 rfl (lv_at hl 3 rfl) ?_
        refine lv_aload_n hx hb dM_read_119 rfl (lv_at hl 0 rfl) ?_
        refine mgr_newSide hx hb hz hi_M hown hK hP (hz _ q_476) dM_read_120 ?_
        refine lv_iload_n hx hb dM_read_123 rfl (lv_at hl 3 rfl) ?_
        refine zald (v := zB ((zR0 t tn).2.2.2.2 i)) hx hb hK hP 10 0 rfl rfl i rfl (by omega) (by decide) ((hwd c_75).2.2.2) dM_read_124 ?_
        refine zast (wd' := WM cA cZ cJ a f2 (updA (updA (updA (updA g2 2 i (nI ((zR0 t tn).2.1 i))) 3 i (nI ((zR0 t tn).2.2.1 i))) 4 i (zB ((zR0 t tn).2.2.2.1 i))) 5 i (zB ((zR0 t tn).2.2.2.2 i))) h r) hx hb hK hP (hD _ _ _ _) hS 5 0 rfl rfl i rfl (by omega) (by decide) rfl dM_read_125 (fun H locs hP hS => ?_)
        refine lv_iinc (v := nI (i + 1)) (lv' := [(3, .int (nI (i + 1))), (0, .ref (a 17)), (1, .int (nI tn)), (2, .int (-1))]) hx hb dM_read_126 hl (k := 3) rfl (nI_1 _) (by decide) rfl (fun ls hl => ?_)
        refine lv_goto (tgt := 70) hx hb dM_read_129 (by decide) ?_
        exact ih (i + 1) _ _ H locs ls (by omega) (by omega) hG9 (zS2_s hS2) hP hS (lv_sub hl [1, 2, 3, 0] rfl)
  have loop1 : ∀ (k0 : Nat) (i : Nat) (f2 : Nat → Int32) (g2 : Nat → Nat → Int32) (H : Heap) (locs : List Loc) (ls : Array Slot), tn + 1 ≤ i + k0 → i ≤ tn → gRun B t tn 0 0 0 0 false = -1 → zS1 f g t tn f2 g2 i → va_P (dC, dI) vwCl (WM cA cZ cJ a f2 g2 h r) H → va_S (AM a) s.heap H locs → lv_has ls 4 [(0, .ref (a 17)), (1, .int (nI tn)), (2, .int (-1)), (3, .int (nI i))] → W zp l ze (headSpec wsM_read ({ frames := 3, cells := 0, slots := 0, locals := 68 })).room s zm ([.ref (a 17)] : List Value).toArray below meth zc H locs 0 0 (MQ below (va_Qi (fun (z : Int32) (s : zMt) => ∃ f1 g1, s = (f1, g1, h, r) ∧ if gRun B t tn 0 0 0 0 false = -1 then z = nI (zR0 t tn).1 ∧ zRd f g t tn f1 g1 else z = -1 - gRun B t tn 0 0 0 0 false ∧ (∀ j, j ≠ 1 → j ≠ 2 → j ≠ 9 → f1 j = f j) ∧ f1 1 = nI 0 ∧ (∀ j, j < 7 ∨ 11 < j → g1 j = g j)) (zBW (dC, dI) vwCl (fun u : zMt => WM cA cZ cJ a u.1 u.2.1 u.2.2.1 u.2.2.2)) (AM a)) ([.ref (a 17)] : List Value).toArray s 0 0 (AM a)) (F0 zm 32 ls []) := by
    intro k0
    induction k0 with
    | zero => intro i f2 g2 H locs ls q1 q2; omega
    | succ k0 ih =>
      intro i f2 g2 H locs ls hk0 hi hG9 hS1 hP hS hl
      have hc9 : f2 9 = nI (zR0 t tn).1 := hS1.2.2.1.1
      refine lv_iload_n hx hb dM_read_32 rfl (lv_at hl 3 rfl) ?_
      refine lv_iload_n hx hb dM_read_33 rfl (lv_at hl 1 rfl) ?_
      refine lv_icmp_ge (tgt := 55) hx hb dM_read_34 (by decide) (fun c_34 => ?_) (fun c_34 => ?_)
      · have c_34 := (nI_leI (a := tn) (b := i) (by omega) (by omega)).mp c_34
        refine lv_aload_n hx hb dM_read_55 rfl (lv_at hl 0 rfl) ?_
        refine lv_iload_n hx hb dM_read_56 rfl (lv_at hl 1 rfl) ?_
        refine mpf_3 hx hb hz hi_M hown hK hP (hD _ _ _ _) hS (hz _ q_463) dM_read_57 (fun H locs hP hS => ?_)
        refine lv_aload_n hx hb dM_read_60 rfl (lv_at hl 0 rfl) ?_
        refine lv_aload_n hx hb dM_read_61 rfl (lv_at hl 0 rfl) ?_
        refine mgf_9 (v := nI (zR0 t tn).1) hx hb hz hi_M hown hK hP (hz _ q_485) hc9 dM_read_62 ?_
        refine mpf_4 hx hb hz hi_M hown hK hP (hD _ _ _ _) hS (hz _ q_464) dM_read_65 (fun H locs hP hS => ?_)
        refine lv_iconst (v := nI 0) hx hb dM_read_68 (by decide) ?_
        refine lv_istore_n (lv' := [(3, .int (nI 0)), (0, .ref (a 17)), (1, .int (nI tn)), (2, .int (-1))]) hx hb dM_read_69 rfl hl (by decide) rfl (fun ls hl => ?_)
        exact loop2 ((zR0 t tn).1 + 1) 0 _ _ H locs ls (by omega) (by omega) hG9 ⟨zS1_f (zS1_f (by rw [show tn = i by omega] at hS1 ⊢; exact hS1) (by decide) (by decide) (by decide) (by decide)) (by decide) (by decide) (by decide) (by decide), by rw [pk_un (by decide), pk_us], pk_us, fun j hj => absurd hj (Nat.not_lt_zero j)⟩ hP hS (lv_sub hl [1, 2, 3, 0] rfl)
      · have c_34 := mt (nI_leI (a := tn) (b := i) (by omega) (by omega)).mpr c_34
        refine lv_aload_n hx hb dM_read_37 rfl (lv_at hl 0 rfl) ?_
        refine mgr_text hx hb hz hi_M hown hK hP (hz _ q_462) dM_read_38 ?_
        refine lv_iload_n hx hb dM_read_41 rfl (lv_at hl 3 rfl) ?_
        refine lv_aload_n hx hb dM_read_42 rfl (lv_at hl 0 rfl) ?_
        refine mgr_fed hx hb hz hi_M hown hK hP (hz _ q_459) dM_read_43 ?_
        refine lv_iload_n hx hb dM_read_46 rfl (lv_at hl 3 rfl) ?_
        refine zald (v := nI (t i)) hx hb hK hP 0 0 rfl rfl i rfl (by omega) (by decide) (by rw [hS1.2.2.2.1]; exact (ht i (by omega)).1) dM_read_47 ?_
        refine zast (wd' := WM cA cZ cJ a f2 (updA g2 1 i (nI (t i))) h r) hx hb hK hP (hD _ _ _ _) hS 1 0 rfl rfl i rfl (by omega) (by decide) rfl dM_read_48 (fun H locs hP hS => ?_)
        refine lv_iinc (v := nI (i + 1)) (lv' := [(3, .int (nI (i + 1))), (0, .ref (a 17)), (1, .int (nI tn)), (2, .int (-1))]) hx hb dM_read_49 hl (k := 3) rfl (nI_1 _) (by decide) rfl (fun ls hl => ?_)
        refine lv_goto (tgt := 32) hx hb dM_read_52 (by decide) ?_
        exact ih (i + 1) _ _ H locs ls (by omega) (by omega) hG9 (zS1_s hS1) hP hS (lv_sub hl [1, 2, 3, 0] rfl)
  refine lv_aload_n hx hb dM_read_0 rfl (lv_at hl 0 rfl) ?_
  refine lv_iconst (v := nI 0) hx hb dM_read_1 (by decide) ?_
  refine mpf_2 hx hb hz hi_M hown hK hP (hD _ _ _ _) hS (hz _ q_461) dM_read_2 (fun H locs hP hS => ?_)
  refine lv_aload_n hx hb dM_read_5 rfl (lv_at hl 0 rfl) ?_
  refine mgf_1 (v := nI tn) hx hb hz hi_M hown hK hP (hz _ q_460) h1 dM_read_6 ?_
  refine lv_istore_n (lv' := [(1, .int (nI tn)), (0, .ref (a 17))]) hx hb dM_read_9 rfl hl (by decide) rfl (fun ls hl => ?_)
  refine lv_aload_n hx hb dM_read_10 rfl (lv_at hl 1 rfl) ?_
  refine lv_iconst (v := nI 0) hx hb dM_read_11 (by decide) ?_
  refine mpf_1 hx hb hz hi_M hown hK hP (hD _ _ _ _) hS (hz _ q_460) dM_read_12 (fun H locs hP hS => ?_)
  refine lv_aload_n hx hb dM_read_15 rfl (lv_at hl 1 rfl) ?_
  refine lv_iload_n hx hb dM_read_16 rfl (lv_at hl 0 rfl) ?_
  refine zk_i (zrV (rest := []) ⟨hx, hb, hml, hown, hz⟩ (c_M_look l dC dI cA cZ cJ a (upd (upd f 2 (nI 0)) 1 (nI 0)) g h r hWD B hB h0 tn htn t ht) ⟨zcB 1 hz q_553 q_9 q_556 (by decide +kernel) rfl rfl ⟨Nat.le_of_ble_eq_true rfl, Nat.le_of_ble_eq_true rfl⟩, hz _ q_555, hz _ qs_21⟩ hK hN hP 17 6 rfl rfl rfl rfl hl.1 rfl (Nat.le_of_ble_eq_true rfl) dM_read_17 ⟨Nat.zero_le _, Nat.zero_le _⟩) hS (fun _ h => h) (fun zr zu H1 locs zhu hP1 hS hk => ?_)
  obtain ⟨f1, g1, rfl, hzr, hkf, hkg, hzE⟩ := zhu
  have hP := hP1
  generalize H1 = H at hP hS ⊢
  refine lv_istore_n (lv' := [(2, .int zr), (1, .int (nI tn)), (0, .ref (a 17))]) hx hb dM_read_20 rfl hl (by decide) rfl (fun ls hl => ?_)
  refine lv_iload_n hx hb dM_read_21 rfl (lv_at hl 0 rfl) ?_
  refine lv_iconst (v := (-1)) hx hb dM_read_22 (by decide) ?_
  refine lv_icmp_eq (tgt := 30) hx hb dM_read_23 (by decide) (fun c_23 => ?_) (fun c_23 => ?_)
  · subst c_23
    refine lv_iconst (v := nI 0) hx hb dM_read_30 (by decide) ?_
    refine lv_istore_n (lv' := [(3, .int (nI 0)), (2, .int (-1)), (1, .int (nI tn)), (0, .ref (a 17))]) hx hb dM_read_31 rfl hl (by decide) rfl (fun ls hl => ?_)
    exact loop1 (tn + 1) 0 f1 g1 H locs ls (by omega) (by omega) hzr.symm ⟨fun j hj => by rw [hkf j (by omega), pk_un (by omega), pk_un (by omega)], by rw [hkf 1 (by decide), pk_us], hzE rfl, hkg 0 (by omega), fun k hk => absurd hk (Nat.not_lt_zero k)⟩ hP hS (lv_sub hl [3, 2, 1, 0] rfl)
  · refine lv_iconst (v := (-1)) hx hb dM_read_26 (by decide) ?_
    refine lv_iload_n hx hb dM_read_27 rfl (lv_at hl 0 rfl) ?_
    refine lv_isub hx hb dM_read_28 ?_
    exact W.iret hx hb hr (fun zT zh _ => ⟨⟨_, (f1, g1, h, r), rfl, ⟨_, _, rfl, (by rw [if_neg (by rw [← hzr]; exact c_23), ← hzr]; exact ⟨rfl, fun j q1 q2 q3 => by rw [hkf j q3, pk_un q1, pk_un q2], by rw [hkf 1 (by decide), pk_us], hkg⟩)⟩, zbw zh hP⟩, hS.F zh⟩) hS.2.2 dM_read_29
