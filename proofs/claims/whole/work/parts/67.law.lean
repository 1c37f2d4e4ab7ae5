set_option maxHeartbeats 2000000 in
set_option maxRecDepth 100000 in
theorem law_c0 {p : Program} {e : Env} {s : State} {m : MethodId} {below : List Frame} {meth : Method} {c : Code} (l : Launch) {b L : Nat} {xs : Nat → Int32} (hL : L ≤ 1537) (C0 : lw_At p s m meth c b L xs) {dC : Nat → ClassId} {dI : Nat → Nat → Nat} {cA cZ cJ : ClassId} (hK : va_K (dC, dI) vwCl [(cA, .int), (cZ, .boolean), (cJ, .long)] s) (hN : zN s) {a1 a2 : Nat → Nat} (hW1 : WDist a1) (hW2 : MDist a2) (hAd : ∀ i j, i < 21 → j < 18 → a1 i ≠ a2 j) (h1s : ∀ i, i < 21 → s.heap.size ≤ a1 i) (h2s : ∀ j, j < 18 → s.heap.size ≤ a2 j) : ∀ (i : Nat), i + 3 ≤ L → (ih : ∀ (i0 : Nat) (f : Nat → Int32) (g : Nat → Nat → Int32) (f' : Nat → Int32) (g' : Nat → Nat → Int32) (h : Nat → Int64) (r : Int64) (B tn n nw lc : Nat) (tt t at0 ln le : Nat → Nat) (mi sd : Nat → Bool) (bar : Bool) (as : List (List Nat)) (H : Heap) (locs : List Loc) (ls : Array Slot), i0 = i + 3 → i0 ≤ L → zIV f g f' g' B tn n nw lc tt t at0 ln le mi sd bar as → va_P (dC, dI) vwCl (WS cA a1 f g) H → va_P (dC, dI) vwCl (WM cA cZ cJ a2 f' g' h r) H → va_S (fun q : Nat => s.heap.size ≤ q) s.heap H locs → lv_has ls 4 [(0, .ref b), (1, .ref (a1 20)), (2, .ref (a2 17)), (3, .int (nI i0))] → W p l e room_1 s m #[Value.ref b] below meth c H locs 39 34843 (lw_Z below #[Value.ref b] s) (F0 m 28 ls [])) → ∀ (f : Nat → Int32) (g : Nat → Nat → Int32) (f' : Nat → Int32) (g' : Nat → Nat → Int32) (h : Nat → Int64) (r : Int64) (B tn n nw lc : Nat) (tt t at0 ln le : Nat → Nat) (mi sd : Nat → Bool) (bar : Bool) (as : List (List Nat)) (H : Heap) (locs : List Loc) (ls : Array Slot), i + 3 ≤ L → zIV f g f' g' B tn n nw lc tt t at0 ln le mi sd bar as → va_P (dC, dI) vwCl (WS cA a1 f g) H → va_P (dC, dI) vwCl (WM cA cZ cJ a2 f' g' h r) H → va_S (fun q : Nat => s.heap.size ≤ q) s.heap H locs → lv_has ls 4 [(0, .ref b), (1, .ref (a1 20)), (2, .ref (a2 17)), (3, .int (nI i))] → W p l e room_1 s m #[Value.ref b] below meth c H locs 39 34843 (lw_Z below #[Value.ref b] s) (F0 m 104 ls []) := by
  intro i hi0 ih
  obtain ⟨hx, hb, hr, hml, hown, hts, hX, hbl, hlocks, hgv⟩ := id C0
  have hz : ∀ w ∈ zBig, w.before #[Value.ref b] s = true := fun w hw => hts w (List.mem_filter.mp hw).1
  have hK1 : va_K (dC, dI) vwCl [(cA, .int)] s := hK.sub [0] rfl
  have hbA : ¬ (fun q : Nat => s.heap.size ≤ q) b := Nat.not_le.mpr hbl
  have hA1 : ∀ q, AW a1 q → s.heap.size ≤ q := fun q ⟨k, h1, h2⟩ => by rw [h2]; exact h1s k h1
  have hA2 : ∀ q, AM a2 q → s.heap.size ≤ q := fun q ⟨k, h1, h2⟩ => by rw [h2]; exact h2s k h1
  intro f g f' g' h r B tn n nw lc tt t at0 ln le mi sd bar as H locs ls hi hIV hP1 hP2 hS hl
  obtain ⟨hPI, hPx, hC, hR⟩ := id hIV
  obtain ⟨p1, p2, p3, p4, p5, p6, p7, p8, p9, p10, p11⟩ := id hPI
  obtain ⟨⟨cF0, cF1, cF2, cF3, cF8, cF9, cF11, cF12, cF13, cF18⟩, cTy, ⟨cT1, cT2, cT4, cT5⟩, cCK, cKA⟩ := id hC
  obtain ⟨⟨rF0, rF1, rF3, rF4, rF5, rF6, rF7⟩, rTy, ⟨rT1, rT2, rT6⟩, rAr⟩ := id hR
  obtain ⟨cnt, hcnt, hcc, -⟩ := id cKA
  obtain ⟨kn, cnt2, -, hc2, hkn, hinv0⟩ := cCK bar
  have hinv : kn = true → f (cond bar 22 24) = nI (zPQ B nw lc t at0 ln le mi sd bar).length ∧ zIs (cond bar (g 12) (g 13)) (zPQ B nw lc t at0 ln le mi sd bar) := fun q => ⟨by rw [hc2, (hinv0 q).1], (hinv0 q).2⟩
  refine lv_aload_n hx hb dL_law_104 rfl (lv_at hl 1 rfl) ?_
  refine lv_aload_n hx hb dL_law_105 rfl (lv_at hl 0 rfl) ?_
  refine lv_iload_n hx hb dL_law_106 rfl (lv_at hl 3 rfl) ?_
  refine lv_iconst (v := nI 1) hx hb dL_law_107 (by decide) ?_
  refine lv_iadd hx hb dL_law_108 ?_
  refine zt (nI_add _ _) ?_
  refine va_sld hx hb hX hbl hbA hS (vp_in_nI (by omega) (by omega)) dL_law_109 ?_
  refine zt (y := xs (i + 1)) (by rw [nI_clamp (by omega)]) ?_
  refine zk_i (zrV (rest := []) ⟨hx, hb, hml, hown, hz⟩ (c_unit l dC dI cA a1 f g hW1 (xs (i + 1)) tn p3 cF0) ⟨zcB 1 hz q_206 q_1 q_209 (by decide +kernel) rfl rfl ⟨Nat.le_of_ble_eq_true rfl, Nat.le_of_ble_eq_true rfl⟩, hz _ q_207, hz _ q_208⟩ hK1 hN hP1 20 0 rfl rfl rfl rfl hl.1 rfl (Nat.le_of_ble_eq_true rfl) dL_law_110 ⟨Nat.le_of_ble_eq_true rfl, Nat.le_of_ble_eq_true rfl⟩) hS hA1 (fun z1 u1 H1 locs hp1 hPn hS hk => ?_)
  have hP2 := zKeepM hAd hP2 hk
  have hP1 := hPn
  clear hPn hk
  generalize H1 = H at hP1 hP2 hS ⊢
  refine lv_aload_n hx hb dL_law_113 rfl (lv_at hl 2 rfl) ?_
  refine lv_aload_n hx hb dL_law_114 rfl (lv_at hl 0 rfl) ?_
  refine lv_iload_n hx hb dL_law_115 rfl (lv_at hl 3 rfl) ?_
  refine lv_iconst (v := nI 1) hx hb dL_law_116 (by decide) ?_
  refine lv_iadd hx hb dL_law_117 ?_
  refine zt (nI_add _ _) ?_
  refine va_sld hx hb hX hbl hbA hS (vp_in_nI (by omega) (by omega)) dL_law_118 ?_
  refine zt (y := xs (i + 1)) (by rw [nI_clamp (by omega)]) ?_
  refine zk_i (zrV (rest := [.int z1]) ⟨hx, hb, hml, hown, hz⟩ (c_M_unit l dC dI cA cZ cJ a2 f' g' h r hW2 (xs (i + 1)) tn p3 rF1) ⟨zcB 1 hz q_545 q_9 q_548 (by decide +kernel) rfl rfl ⟨Nat.le_of_ble_eq_true rfl, Nat.le_of_ble_eq_true rfl⟩, hz _ q_546, hz _ q_547⟩ hK hN hP2 17 6 rfl rfl rfl rfl hl.1 rfl (Nat.le_of_ble_eq_true rfl) dL_law_119 ⟨Nat.le_of_ble_eq_true rfl, Nat.le_of_ble_eq_true rfl⟩) hS hA2 (fun z2 u2 H1 locs hp2 hPn hS hk => ?_)
  have hP1 := zKeepS hAd hP1 hk
  have hP2 := hPn
  clear hPn hk
  generalize H1 = H at hP1 hP2 hS ⊢
  by_cases hu : zUn (xs (i + 1)) tn
  · rw [if_pos hu] at hp1 hp2
    obtain ⟨hz1, hu1⟩ := hp1
    obtain ⟨hz2, hu2⟩ := hp2
    subst hu1
    subst hu2
    have hz12 : z1 = z2 := by rw [hz1, hz2]
    have hIV2 := s_unit hu hIV
    refine lv_icmp_eq (tgt := 395) hx hb dL_law_122 (by decide) (fun c_122 => ?_) (fun c_122 => ?_)
    · refine lv_iinc (v := nI (i + 3)) (lv' := [(3, .int (nI (i + 3))), (0, .ref b), (1, .ref (a1 20)), (2, .ref (a2 17))]) hx hb dL_law_395 hl (k := 3) rfl (nI_add i 3) (by decide) rfl (fun ls hl => ?_)
      refine lv_goto (tgt := 28) hx hb dL_law_398 (by decide) ?_
      exact ih (i + 3) _ _ _ _ _ _ _ _ _ _ _ _ _ _ _ _ _ _ _ _ H locs ls (by omega) (by omega) hIV2 hP1 hP2 hS (lv_sub hl [1, 2, 3, 0] rfl)
    · exact absurd hz12 c_122
  · rw [if_neg hu] at hp1 hp2
    obtain ⟨hz1, hu1⟩ := hp1
    obtain ⟨hz2, hu2⟩ := hp2
    subst hu1
    subst hu2
    have hz12 : z1 = z2 := by rw [hz1, hz2]
    have hIV2 := s_thr hIV
    refine lv_icmp_eq (tgt := 395) hx hb dL_law_122 (by decide) (fun c_122 => ?_) (fun c_122 => ?_)
    · refine lv_iinc (v := nI (i + 3)) (lv' := [(3, .int (nI (i + 3))), (0, .ref b), (1, .ref (a1 20)), (2, .ref (a2 17))]) hx hb dL_law_395 hl (k := 3) rfl (nI_add i 3) (by decide) rfl (fun ls hl => ?_)
      refine lv_goto (tgt := 28) hx hb dL_law_398 (by decide) ?_
      exact ih (i + 3) _ _ _ _ _ _ _ _ _ _ _ _ _ _ _ _ _ _ _ _ H locs ls (by omega) (by omega) hIV2 hP1 hP2 hS (lv_sub hl [1, 2, 3, 0] rfl)
    · exact absurd hz12 c_122

set_option maxHeartbeats 2000000 in
set_option maxRecDepth 100000 in
theorem law_c1 {p : Program} {e : Env} {s : State} {m : MethodId} {below : List Frame} {meth : Method} {c : Code} (l : Launch) {b L : Nat} {xs : Nat → Int32} (hL : L ≤ 1537) (C0 : lw_At p s m meth c b L xs) {dC : Nat → ClassId} {dI : Nat → Nat → Nat} {cA cZ cJ : ClassId} (hK : va_K (dC, dI) vwCl [(cA, .int), (cZ, .boolean), (cJ, .long)] s) (hN : zN s) {a1 a2 : Nat → Nat} (hW1 : WDist a1) (hW2 : MDist a2) (hAd : ∀ i j, i < 21 → j < 18 → a1 i ≠ a2 j) (h1s : ∀ i, i < 21 → s.heap.size ≤ a1 i) (h2s : ∀ j, j < 18 → s.heap.size ≤ a2 j) : ∀ (i : Nat), i + 3 ≤ L → (ih : ∀ (i0 : Nat) (f : Nat → Int32) (g : Nat → Nat → Int32) (f' : Nat → Int32) (g' : Nat → Nat → Int32) (h : Nat → Int64) (r : Int64) (B tn n nw lc : Nat) (tt t at0 ln le : Nat → Nat) (mi sd : Nat → Bool) (bar : Bool) (as : List (List Nat)) (H : Heap) (locs : List Loc) (ls : Array Slot), i0 = i + 3 → i0 ≤ L → zIV f g f' g' B tn n nw lc tt t at0 ln le mi sd bar as → va_P (dC, dI) vwCl (WS cA a1 f g) H → va_P (dC, dI) vwCl (WM cA cZ cJ a2 f' g' h r) H → va_S (fun q : Nat => s.heap.size ≤ q) s.heap H locs → lv_has ls 4 [(0, .ref b), (1, .ref (a1 20)), (2, .ref (a2 17)), (3, .int (nI i0))] → W p l e room_1 s m #[Value.ref b] below meth c H locs 39 34843 (lw_Z below #[Value.ref b] s) (F0 m 28 ls [])) → ∀ (f : Nat → Int32) (g : Nat → Nat → Int32) (f' : Nat → Int32) (g' : Nat → Nat → Int32) (h : Nat → Int64) (r : Int64) (B tn n nw lc : Nat) (tt t at0 ln le : Nat → Nat) (mi sd : Nat → Bool) (bar : Bool) (as : List (List Nat)) (H : Heap) (locs : List Loc) (ls : Array Slot), i + 3 ≤ L → zIV f g f' g' B tn n nw lc tt t at0 ln le mi sd bar as → va_P (dC, dI) vwCl (WS cA a1 f g) H → va_P (dC, dI) vwCl (WM cA cZ cJ a2 f' g' h r) H → va_S (fun q : Nat => s.heap.size ≤ q) s.heap H locs → lv_has ls 4 [(0, .ref b), (1, .ref (a1 20)), (2, .ref (a2 17)), (3, .int (nI i))] → W p l e room_1 s m #[Value.ref b] below meth c H locs 39 34843 (lw_Z below #[Value.ref b] s) (F0 m 127 ls []) := by
  intro i hi0 ih
  obtain ⟨hx, hb, hr, hml, hown, hts, hX, hbl, hlocks, hgv⟩ := id C0
  have hz : ∀ w ∈ zBig, w.before #[Value.ref b] s = true := fun w hw => hts w (List.mem_filter.mp hw).1
  have hK1 : va_K (dC, dI) vwCl [(cA, .int)] s := hK.sub [0] rfl
  have hbA : ¬ (fun q : Nat => s.heap.size ≤ q) b := Nat.not_le.mpr hbl
  have hA1 : ∀ q, AW a1 q → s.heap.size ≤ q := fun q ⟨k, h1, h2⟩ => by rw [h2]; exact h1s k h1
  have hA2 : ∀ q, AM a2 q → s.heap.size ≤ q := fun q ⟨k, h1, h2⟩ => by rw [h2]; exact h2s k h1
  intro f g f' g' h r B tn n nw lc tt t at0 ln le mi sd bar as H locs ls hi hIV hP1 hP2 hS hl
  obtain ⟨hPI, hPx, hC, hR⟩ := id hIV
  obtain ⟨p1, p2, p3, p4, p5, p6, p7, p8, p9, p10, p11⟩ := id hPI
  obtain ⟨⟨cF0, cF1, cF2, cF3, cF8, cF9, cF11, cF12, cF13, cF18⟩, cTy, ⟨cT1, cT2, cT4, cT5⟩, cCK, cKA⟩ := id hC
  obtain ⟨⟨rF0, rF1, rF3, rF4, rF5, rF6, rF7⟩, rTy, ⟨rT1, rT2, rT6⟩, rAr⟩ := id hR
  obtain ⟨cnt, hcnt, hcc, -⟩ := id cKA
  obtain ⟨kn, cnt2, -, hc2, hkn, hinv0⟩ := cCK bar
  have hinv : kn = true → f (cond bar 22 24) = nI (zPQ B nw lc t at0 ln le mi sd bar).length ∧ zIs (cond bar (g 12) (g 13)) (zPQ B nw lc t at0 ln le mi sd bar) := fun q => ⟨by rw [hc2, (hinv0 q).1], (hinv0 q).2⟩
  refine lv_aload_n hx hb dL_law_127 rfl (lv_at hl 1 rfl) ?_
  refine zk_i (zrV (rest := []) ⟨hx, hb, hml, hown, hz⟩ (c_read l dC dI cA a1 f g hW1 tn p3 cF0 B cF3 p2 tt cTy) ⟨zcB 0 hz q_210 q_1 q_213 (by decide +kernel) rfl rfl ⟨Nat.le_of_ble_eq_true rfl, Nat.le_of_ble_eq_true rfl⟩, hz _ q_211, hz _ q_212⟩ hK1 hN hP1 20 0 rfl rfl rfl rfl hl.1 rfl (Nat.le_of_ble_eq_true rfl) dL_law_128 ⟨Nat.le_of_ble_eq_true rfl, Nat.le_of_ble_eq_true rfl⟩) hS hA1 (fun z1 u1 H1 locs hp1 hPn hS hk => ?_)
  have hP2 := zKeepM hAd hP2 hk
  have hP1 := hPn
  clear hPn hk
  generalize H1 = H at hP1 hP2 hS ⊢
  refine lv_aload_n hx hb dL_law_131 rfl (lv_at hl 2 rfl) ?_
  refine zk_i (zrV (rest := [.int z1]) ⟨hx, hb, hml, hown, hz⟩ (c_M_read l dC dI cA cZ cJ a2 f' g' h r hW2 B p2 rF0 tn p3 rF1 tt rTy) ⟨zcB 0 hz q_549 q_9 q_552 (by decide +kernel) rfl rfl ⟨Nat.le_of_ble_eq_true rfl, Nat.le_of_ble_eq_true rfl⟩, hz _ q_550, hz _ q_551⟩ hK hN hP2 17 6 rfl rfl rfl rfl hl.1 rfl (Nat.le_of_ble_eq_true rfl) dL_law_132 ⟨Nat.le_of_ble_eq_true rfl, Nat.le_of_ble_eq_true rfl⟩) hS hA2 (fun z2 u2 H1 locs hp2 hPn hS hk => ?_)
  have hP1 := zKeepS hAd hP1 hk
  have hP2 := hPn
  clear hPn hk
  generalize H1 = H at hP1 hP2 hS ⊢
  by_cases hg9 : gRun B tt tn 0 0 0 0 false = -1
  · rw [if_pos hg9] at hp1
    obtain ⟨w1, sg1, sn1, bh1, F1, w, SA, SE, q, lc2, B4, S5, hF1, hlw, hll, hz1, hu1⟩ := hp1
    obtain ⟨f3, g3, hu2, hp2⟩ := hp2
    rw [if_pos hg9] at hp2
    obtain ⟨hz2, hRd⟩ := hp2
    subst hu1
    subst hu2
    obtain ⟨hIV2, hweq⟩ := s_readT (w1 := w1) (sg1 := sg1) (sn1 := sn1) (bh1 := bh1) hIV hg9 hF1 hlw hll hRd
    have hz12 : z1 = z2 := by rw [hz1, hz2, hweq]
    refine lv_icmp_eq (tgt := 395) hx hb dL_law_135 (by decide) (fun c_135 => ?_) (fun c_135 => ?_)
    · refine lv_iinc (v := nI (i + 3)) (lv' := [(3, .int (nI (i + 3))), (0, .ref b), (1, .ref (a1 20)), (2, .ref (a2 17))]) hx hb dL_law_395 hl (k := 3) rfl (nI_add i 3) (by decide) rfl (fun ls hl => ?_)
      refine lv_goto (tgt := 28) hx hb dL_law_398 (by decide) ?_
      exact ih (i + 3) _ _ _ _ _ _ _ _ _ _ _ _ _ _ _ _ _ _ _ _ H locs ls (by omega) (by omega) hIV2 hP1 hP2 hS (lv_sub hl [1, 2, 3, 0] rfl)
    · exact absurd hz12 c_135
  · rw [if_neg hg9] at hp1
    obtain ⟨hz1, w1, sg1, sn1, bh1, hu1⟩ := hp1
    obtain ⟨f3, g3, hu2, hp2⟩ := hp2
    rw [if_neg hg9] at hp2
    obtain ⟨hz2, hkf, hf1, hkg⟩ := hp2
    subst hu1
    subst hu2
    have hIV2 := s_readF (w1 := w1) (sg1 := sg1) (sn1 := sn1) (bh1 := bh1) hIV hkf hf1 hkg
    have hz12 : z1 = z2 := by rw [hz1, hz2]
    refine lv_icmp_eq (tgt := 395) hx hb dL_law_135 (by decide) (fun c_135 => ?_) (fun c_135 => ?_)
    · refine lv_iinc (v := nI (i + 3)) (lv' := [(3, .int (nI (i + 3))), (0, .ref b), (1, .ref (a1 20)), (2, .ref (a2 17))]) hx hb dL_law_395 hl (k := 3) rfl (nI_add i 3) (by decide) rfl (fun ls hl => ?_)
      refine lv_goto (tgt := 28) hx hb dL_law_398 (by decide) ?_
      exact ih (i + 3) _ _ _ _ _ _ _ _ _ _ _ _ _ _ _ _ _ _ _ _ H locs ls (by omega) (by omega) hIV2 hP1 hP2 hS (lv_sub hl [1, 2, 3, 0] rfl)
    · exact absurd hz12 c_135

set_option maxHeartbeats 2000000 in
set_option maxRecDepth 100000 in
theorem law_c3 {p : Program} {e : Env} {s : State} {m : MethodId} {below : List Frame} {meth : Method} {c : Code} (l : Launch) {b L : Nat} {xs : Nat → Int32} (hL : L ≤ 1537) (C0 : lw_At p s m meth c b L xs) {dC : Nat → ClassId} {dI : Nat → Nat → Nat} {cA cZ cJ : ClassId} (hK : va_K (dC, dI) vwCl [(cA, .int), (cZ, .boolean), (cJ, .long)] s) (hN : zN s) {a1 a2 : Nat → Nat} (hW1 : WDist a1) (hW2 : MDist a2) (hAd : ∀ i j, i < 21 → j < 18 → a1 i ≠ a2 j) (h1s : ∀ i, i < 21 → s.heap.size ≤ a1 i) (h2s : ∀ j, j < 18 → s.heap.size ≤ a2 j) : ∀ (i : Nat), i + 3 ≤ L → (ih : ∀ (i0 : Nat) (f : Nat → Int32) (g : Nat → Nat → Int32) (f' : Nat → Int32) (g' : Nat → Nat → Int32) (h : Nat → Int64) (r : Int64) (B tn n nw lc : Nat) (tt t at0 ln le : Nat → Nat) (mi sd : Nat → Bool) (bar : Bool) (as : List (List Nat)) (H : Heap) (locs : List Loc) (ls : Array Slot), i0 = i + 3 → i0 ≤ L → zIV f g f' g' B tn n nw lc tt t at0 ln le mi sd bar as → va_P (dC, dI) vwCl (WS cA a1 f g) H → va_P (dC, dI) vwCl (WM cA cZ cJ a2 f' g' h r) H → va_S (fun q : Nat => s.heap.size ≤ q) s.heap H locs → lv_has ls 4 [(0, .ref b), (1, .ref (a1 20)), (2, .ref (a2 17)), (3, .int (nI i0))] → W p l e room_1 s m #[Value.ref b] below meth c H locs 39 34843 (lw_Z below #[Value.ref b] s) (F0 m 28 ls [])) → ∀ (f : Nat → Int32) (g : Nat → Nat → Int32) (f' : Nat → Int32) (g' : Nat → Nat → Int32) (h : Nat → Int64) (r : Int64) (B tn n nw lc : Nat) (tt t at0 ln le : Nat → Nat) (mi sd : Nat → Bool) (bar : Bool) (as : List (List Nat)) (H : Heap) (locs : List Loc) (ls : Array Slot), i + 3 ≤ L → zIV f g f' g' B tn n nw lc tt t at0 ln le mi sd bar as → va_P (dC, dI) vwCl (WS cA a1 f g) H → va_P (dC, dI) vwCl (WM cA cZ cJ a2 f' g' h r) H → va_S (fun q : Nat => s.heap.size ≤ q) s.heap H locs → lv_has ls 4 [(0, .ref b), (1, .ref (a1 20)), (2, .ref (a2 17)), (3, .int (nI i))] → W p l e room_1 s m #[Value.ref b] below meth c H locs 39 34843 (lw_Z below #[Value.ref b] s) (F0 m 177 ls []) := by
  intro i hi0 ih
  obtain ⟨hx, hb, hr, hml, hown, hts, hX, hbl, hlocks, hgv⟩ := id C0
  have hz : ∀ w ∈ zBig, w.before #[Value.ref b] s = true := fun w hw => hts w (List.mem_filter.mp hw).1
  have hK1 : va_K (dC, dI) vwCl [(cA, .int)] s := hK.sub [0] rfl
  have hbA : ¬ (fun q : Nat => s.heap.size ≤ q) b := Nat.not_le.mpr hbl
  have hA1 : ∀ q, AW a1 q → s.heap.size ≤ q := fun q ⟨k, h1, h2⟩ => by rw [h2]; exact h1s k h1
  have hA2 : ∀ q, AM a2 q → s.heap.size ≤ q := fun q ⟨k, h1, h2⟩ => by rw [h2]; exact h2s k h1
  intro f g f' g' h r B tn n nw lc tt t at0 ln le mi sd bar as H locs ls hi hIV hP1 hP2 hS hl
  obtain ⟨hPI, hPx, hC, hR⟩ := id hIV
  obtain ⟨p1, p2, p3, p4, p5, p6, p7, p8, p9, p10, p11⟩ := id hPI
  obtain ⟨⟨cF0, cF1, cF2, cF3, cF8, cF9, cF11, cF12, cF13, cF18⟩, cTy, ⟨cT1, cT2, cT4, cT5⟩, cCK, cKA⟩ := id hC
  obtain ⟨⟨rF0, rF1, rF3, rF4, rF5, rF6, rF7⟩, rTy, ⟨rT1, rT2, rT6⟩, rAr⟩ := id hR
  obtain ⟨cnt, hcnt, hcc, -⟩ := id cKA
  obtain ⟨kn, cnt2, -, hc2, hkn, hinv0⟩ := cCK bar
  have hinv : kn = true → f (cond bar 22 24) = nI (zPQ B nw lc t at0 ln le mi sd bar).length ∧ zIs (cond bar (g 12) (g 13)) (zPQ B nw lc t at0 ln le mi sd bar) := fun q => ⟨by rw [hc2, (hinv0 q).1], (hinv0 q).2⟩
  refine lv_aload_n hx hb dL_law_177 rfl (lv_at hl 1 rfl) ?_
  refine zq_i (zrV (rest := []) ⟨hx, hb, hml, hown, hz⟩ (c_letters l dC dI cA a1 f g lc cF12) ⟨zcB 0 hz q_272 q_1 q_275 (by decide +kernel) rfl rfl ⟨Nat.le_of_ble_eq_true rfl, Nat.le_of_ble_eq_true rfl⟩, hz _ q_273, hz _ q_274⟩ hK1 hN hP1 20 0 rfl rfl rfl rfl hl.1 rfl (Nat.le_of_ble_eq_true rfl) dL_law_178 ⟨Nat.le_of_ble_eq_true rfl, Nat.le_of_ble_eq_true rfl⟩) (fun z1 hp1 => ?_)
  refine lv_aload_n hx hb dL_law_181 rfl (lv_at hl 2 rfl) ?_
  refine zk_i (zrV (rest := [.int z1]) ⟨hx, hb, hml, hown, hz⟩ (c_M_letters l dC dI cA cZ cJ a2 f' g' h r hW2 lc rF5) ⟨zcB 0 hz q_568 q_9 q_571 (by decide +kernel) rfl rfl ⟨Nat.le_of_ble_eq_true rfl, Nat.le_of_ble_eq_true rfl⟩, hz _ q_569, hz _ q_570⟩ hK hN hP2 17 6 rfl rfl rfl rfl hl.1 rfl (Nat.le_of_ble_eq_true rfl) dL_law_182 ⟨Nat.le_of_ble_eq_true rfl, Nat.le_of_ble_eq_true rfl⟩) hS hA2 (fun z2 u2 H1 locs hp2 hPn hS hk => ?_)
  have hP1 := zKeepS hAd hP1 hk
  have hP2 := hPn
  clear hPn hk
  generalize H1 = H at hP1 hP2 hS ⊢
  obtain ⟨hz2, hu2⟩ := hp2
  subst hu2
  have hIV2 := s_thr hIV
  have hz12 : z1 = z2 := by rw [hz2]; exact hp1
  refine lv_icmp_eq (tgt := 395) hx hb dL_law_185 (by decide) (fun c_185 => ?_) (fun c_185 => ?_)
  · refine lv_iinc (v := nI (i + 3)) (lv' := [(3, .int (nI (i + 3))), (0, .ref b), (1, .ref (a1 20)), (2, .ref (a2 17))]) hx hb dL_law_395 hl (k := 3) rfl (nI_add i 3) (by decide) rfl (fun ls hl => ?_)
    refine lv_goto (tgt := 28) hx hb dL_law_398 (by decide) ?_
    exact ih (i + 3) _ _ _ _ _ _ _ _ _ _ _ _ _ _ _ _ _ _ _ _ H locs ls (by omega) (by omega) hIV2 hP1 hP2 hS (lv_sub hl [1, 2, 3, 0] rfl)
  · exact absurd hz12 c_185

set_option maxHeartbeats 2000000 in
set_option maxRecDepth 100000 in
theorem law_c4 {p : Program} {e : Env} {s : State} {m : MethodId} {below : List Frame} {meth : Method} {c : Code} (l : Launch) {b L : Nat} {xs : Nat → Int32} (hL : L ≤ 1537) (C0 : lw_At p s m meth c b L xs) {dC : Nat → ClassId} {dI : Nat → Nat → Nat} {cA cZ cJ : ClassId} (hK : va_K (dC, dI) vwCl [(cA, .int), (cZ, .boolean), (cJ, .long)] s) (hN : zN s) {a1 a2 : Nat → Nat} (hW1 : WDist a1) (hW2 : MDist a2) (hAd : ∀ i j, i < 21 → j < 18 → a1 i ≠ a2 j) (h1s : ∀ i, i < 21 → s.heap.size ≤ a1 i) (h2s : ∀ j, j < 18 → s.heap.size ≤ a2 j) : ∀ (i : Nat), i + 3 ≤ L → (ih : ∀ (i0 : Nat) (f : Nat → Int32) (g : Nat → Nat → Int32) (f' : Nat → Int32) (g' : Nat → Nat → Int32) (h : Nat → Int64) (r : Int64) (B tn n nw lc : Nat) (tt t at0 ln le : Nat → Nat) (mi sd : Nat → Bool) (bar : Bool) (as : List (List Nat)) (H : Heap) (locs : List Loc) (ls : Array Slot), i0 = i + 3 → i0 ≤ L → zIV f g f' g' B tn n nw lc tt t at0 ln le mi sd bar as → va_P (dC, dI) vwCl (WS cA a1 f g) H → va_P (dC, dI) vwCl (WM cA cZ cJ a2 f' g' h r) H → va_S (fun q : Nat => s.heap.size ≤ q) s.heap H locs → lv_has ls 4 [(0, .ref b), (1, .ref (a1 20)), (2, .ref (a2 17)), (3, .int (nI i0))] → W p l e room_1 s m #[Value.ref b] below meth c H locs 39 34843 (lw_Z below #[Value.ref b] s) (F0 m 28 ls [])) → ∀ (f : Nat → Int32) (g : Nat → Nat → Int32) (f' : Nat → Int32) (g' : Nat → Nat → Int32) (h : Nat → Int64) (r : Int64) (B tn n nw lc : Nat) (tt t at0 ln le : Nat → Nat) (mi sd : Nat → Bool) (bar : Bool) (as : List (List Nat)) (H : Heap) (locs : List Loc) (ls : Array Slot), i + 3 ≤ L → zIV f g f' g' B tn n nw lc tt t at0 ln le mi sd bar as → va_P (dC, dI) vwCl (WS cA a1 f g) H → va_P (dC, dI) vwCl (WM cA cZ cJ a2 f' g' h r) H → va_S (fun q : Nat => s.heap.size ≤ q) s.heap H locs → lv_has ls 4 [(0, .ref b), (1, .ref (a1 20)), (2, .ref (a2 17)), (3, .int (nI i))] → W p l e room_1 s m #[Value.ref b] below meth c H locs 39 34843 (lw_Z below #[Value.ref b] s) (F0 m 190 ls []) := by
  intro i hi0 ih
  obtain ⟨hx, hb, hr, hml, hown, hts, hX, hbl, hlocks, hgv⟩ := id C0
  have hz : ∀ w ∈ zBig, w.before #[Value.ref b] s = true := fun w hw => hts w (List.mem_filter.mp hw).1
  have hK1 : va_K (dC, dI) vwCl [(cA, .int)] s := hK.sub [0] rfl
  have hbA : ¬ (fun q : Nat => s.heap.size ≤ q) b := Nat.not_le.mpr hbl
  have hA1 : ∀ q, AW a1 q → s.heap.size ≤ q := fun q ⟨k, h1, h2⟩ => by rw [h2]; exact h1s k h1
  have hA2 : ∀ q, AM a2 q → s.heap.size ≤ q := fun q ⟨k, h1, h2⟩ => by rw [h2]; exact h2s k h1
  intro f g f' g' h r B tn n nw lc tt t at0 ln le mi sd bar as H locs ls hi hIV hP1 hP2 hS hl
  obtain ⟨hPI, hPx, hC, hR⟩ := id hIV
  obtain ⟨p1, p2, p3, p4, p5, p6, p7, p8, p9, p10, p11⟩ := id hPI
  obtain ⟨⟨cF0, cF1, cF2, cF3, cF8, cF9, cF11, cF12, cF13, cF18⟩, cTy, ⟨cT1, cT2, cT4, cT5⟩, cCK, cKA⟩ := id hC
  obtain ⟨⟨rF0, rF1, rF3, rF4, rF5, rF6, rF7⟩, rTy, ⟨rT1, rT2, rT6⟩, rAr⟩ := id hR
  obtain ⟨cnt, hcnt, hcc, -⟩ := id cKA
  obtain ⟨kn, cnt2, -, hc2, hkn, hinv0⟩ := cCK bar
  have hinv : kn = true → f (cond bar 22 24) = nI (zPQ B nw lc t at0 ln le mi sd bar).length ∧ zIs (cond bar (g 12) (g 13)) (zPQ B nw lc t at0 ln le mi sd bar) := fun q => ⟨by rw [hc2, (hinv0 q).1], (hinv0 q).2⟩
  refine lv_aload_n hx hb dL_law_190 rfl (lv_at hl 1 rfl) ?_
  refine lv_aload_n hx hb dL_law_191 rfl (lv_at hl 0 rfl) ?_
  refine lv_iload_n hx hb dL_law_192 rfl (lv_at hl 3 rfl) ?_
  refine lv_iconst (v := nI 1) hx hb dL_law_193 (by decide) ?_
  refine lv_iadd hx hb dL_law_194 ?_
  refine zt (nI_add _ _) ?_
  refine va_sld hx hb hX hbl hbA hS (vp_in_nI (by omega) (by omega)) dL_law_195 ?_
  refine zt (y := xs (i + 1)) (by rw [nI_clamp (by omega)]) ?_
  refine zq_i (zrV (rest := []) ⟨hx, hb, hml, hown, hz⟩ (c_letter l dC dI cA a1 f g (xs (i + 1)) lc p6 cF12) ⟨zcB 1 hz q_276 q_1 q_279 (by decide +kernel) rfl rfl ⟨Nat.le_of_ble_eq_true rfl, Nat.le_of_ble_eq_true rfl⟩, hz _ q_277, hz _ q_278⟩ hK1 hN hP1 20 0 rfl rfl rfl rfl hl.1 rfl (Nat.le_of_ble_eq_true rfl) dL_law_196 ⟨Nat.le_of_ble_eq_true rfl, Nat.le_of_ble_eq_true rfl⟩) (fun z1 hp1 => ?_)
  refine lv_aload_n hx hb dL_law_199 rfl (lv_at hl 2 rfl) ?_
  refine lv_aload_n hx hb dL_law_200 rfl (lv_at hl 0 rfl) ?_
  refine lv_iload_n hx hb dL_law_201 rfl (lv_at hl 3 rfl) ?_
  refine lv_iconst (v := nI 1) hx hb dL_law_202 (by decide) ?_
  refine lv_iadd hx hb dL_law_203 ?_
  refine zt (nI_add _ _) ?_
  refine va_sld hx hb hX hbl hbA hS (vp_in_nI (by omega) (by omega)) dL_law_204 ?_
  refine zt (y := xs (i + 1)) (by rw [nI_clamp (by omega)]) ?_
  refine zk_i (zrV (rest := [.int z1]) ⟨hx, hb, hml, hown, hz⟩ (c_M_letter l dC dI cA cZ cJ a2 f' g' h r hW2 (xs (i + 1)) lc p6 rF5) ⟨zcB 1 hz q_572 q_9 q_575 (by decide +kernel) rfl rfl ⟨Nat.le_of_ble_eq_true rfl, Nat.le_of_ble_eq_true rfl⟩, hz _ q_573, hz _ q_574⟩ hK hN hP2 17 6 rfl rfl rfl rfl hl.1 rfl (Nat.le_of_ble_eq_true rfl) dL_law_205 ⟨Nat.le_of_ble_eq_true rfl, Nat.le_of_ble_eq_true rfl⟩) hS hA2 (fun z2 u2 H1 locs hp2 hPn hS hk => ?_)
  have hP1 := zKeepS hAd hP1 hk
  have hP2 := hPn
  clear hPn hk
  generalize H1 = H at hP1 hP2 hS ⊢
  obtain ⟨hz2, hu2⟩ := hp2
  subst hu2
  have hIV2 := s_thr hIV
  have hz12 : z1 = z2 := by rw [hz2, ← zAt_congr (F := g 4) (G := g' 6) (fun j hj => by rw [cT4 j hj, rT6 j hj]) (xs (i + 1))]; exact hp1
  refine lv_icmp_eq (tgt := 395) hx hb dL_law_208 (by decide) (fun c_208 => ?_) (fun c_208 => ?_)
  · refine lv_iinc (v := nI (i + 3)) (lv' := [(3, .int (nI (i + 3))), (0, .ref b), (1, .ref (a1 20)), (2, .ref (a2 17))]) hx hb dL_law_395 hl (k := 3) rfl (nI_add i 3) (by decide) rfl (fun ls hl => ?_)
    refine lv_goto (tgt := 28) hx hb dL_law_398 (by decide) ?_
    exact ih (i + 3) _ _ _ _ _ _ _ _ _ _ _ _ _ _ _ _ _ _ _ _ H locs ls (by omega) (by omega) hIV2 hP1 hP2 hS (lv_sub hl [1, 2, 3, 0] rfl)
  · exact absurd hz12 c_208

set_option maxHeartbeats 2000000 in
set_option maxRecDepth 100000 in
theorem law_c5 {p : Program} {e : Env} {s : State} {m : MethodId} {below : List Frame} {meth : Method} {c : Code} (l : Launch) {b L : Nat} {xs : Nat → Int32} (hL : L ≤ 1537) (C0 : lw_At p s m meth c b L xs) {dC : Nat → ClassId} {dI : Nat → Nat → Nat} {cA cZ cJ : ClassId} (hK : va_K (dC, dI) vwCl [(cA, .int), (cZ, .boolean), (cJ, .long)] s) (hN : zN s) {a1 a2 : Nat → Nat} (hW1 : WDist a1) (hW2 : MDist a2) (hAd : ∀ i j, i < 21 → j < 18 → a1 i ≠ a2 j) (h1s : ∀ i, i < 21 → s.heap.size ≤ a1 i) (h2s : ∀ j, j < 18 → s.heap.size ≤ a2 j) : ∀ (i : Nat), i + 3 ≤ L → (ih : ∀ (i0 : Nat) (f : Nat → Int32) (g : Nat → Nat → Int32) (f' : Nat → Int32) (g' : Nat → Nat → Int32) (h : Nat → Int64) (r : Int64) (B tn n nw lc : Nat) (tt t at0 ln le : Nat → Nat) (mi sd : Nat → Bool) (bar : Bool) (as : List (List Nat)) (H : Heap) (locs : List Loc) (ls : Array Slot), i0 = i + 3 → i0 ≤ L → zIV f g f' g' B tn n nw lc tt t at0 ln le mi sd bar as → va_P (dC, dI) vwCl (WS cA a1 f g) H → va_P (dC, dI) vwCl (WM cA cZ cJ a2 f' g' h r) H → va_S (fun q : Nat => s.heap.size ≤ q) s.heap H locs → lv_has ls 4 [(0, .ref b), (1, .ref (a1 20)), (2, .ref (a2 17)), (3, .int (nI i0))] → W p l e room_1 s m #[Value.ref b] below meth c H locs 39 34843 (lw_Z below #[Value.ref b] s) (F0 m 28 ls [])) → ∀ (f : Nat → Int32) (g : Nat → Nat → Int32) (f' : Nat → Int32) (g' : Nat → Nat → Int32) (h : Nat → Int64) (r : Int64) (B tn n nw lc : Nat) (tt t at0 ln le : Nat → Nat) (mi sd : Nat → Bool) (bar : Bool) (as : List (List Nat)) (H : Heap) (locs : List Loc) (ls : Array Slot), i + 3 ≤ L → zIV f g f' g' B tn n nw lc tt t at0 ln le mi sd bar as → va_P (dC, dI) vwCl (WS cA a1 f g) H → va_P (dC, dI) vwCl (WM cA cZ cJ a2 f' g' h r) H → va_S (fun q : Nat => s.heap.size ≤ q) s.heap H locs → lv_has ls 4 [(0, .ref b), (1, .ref (a1 20)), (2, .ref (a2 17)), (3, .int (nI i))] → W p l e room_1 s m #[Value.ref b] below meth c H locs 39 34843 (lw_Z below #[Value.ref b] s) (F0 m 213 ls []) := by
  intro i hi0 ih
  obtain ⟨hx, hb, hr, hml, hown, hts, hX, hbl, hlocks, hgv⟩ := id C0
  have hz : ∀ w ∈ zBig, w.before #[Value.ref b] s = true := fun w hw => hts w (List.mem_filter.mp hw).1
  have hK1 : va_K (dC, dI) vwCl [(cA, .int)] s := hK.sub [0] rfl
  have hbA : ¬ (fun q : Nat => s.heap.size ≤ q) b := Nat.not_le.mpr hbl
  have hA1 : ∀ q, AW a1 q → s.heap.size ≤ q := fun q ⟨k, h1, h2⟩ => by rw [h2]; exact h1s k h1
  have hA2 : ∀ q, AM a2 q → s.heap.size ≤ q := fun q ⟨k, h1, h2⟩ => by rw [h2]; exact h2s k h1
  intro f g f' g' h r B tn n nw lc tt t at0 ln le mi sd bar as H locs ls hi hIV hP1 hP2 hS hl
  obtain ⟨hPI, hPx, hC, hR⟩ := id hIV
  obtain ⟨p1, p2, p3, p4, p5, p6, p7, p8, p9, p10, p11⟩ := id hPI
  obtain ⟨⟨cF0, cF1, cF2, cF3, cF8, cF9, cF11, cF12, cF13, cF18⟩, cTy, ⟨cT1, cT2, cT4, cT5⟩, cCK, cKA⟩ := id hC
  obtain ⟨⟨rF0, rF1, rF3, rF4, rF5, rF6, rF7⟩, rTy, ⟨rT1, rT2, rT6⟩, rAr⟩ := id hR
  obtain ⟨cnt, hcnt, hcc, -⟩ := id cKA
  obtain ⟨kn, cnt2, -, hc2, hkn, hinv0⟩ := cCK bar
  have hinv : kn = true → f (cond bar 22 24) = nI (zPQ B nw lc t at0 ln le mi sd bar).length ∧ zIs (cond bar (g 12) (g 13)) (zPQ B nw lc t at0 ln le mi sd bar) := fun q => ⟨by rw [hc2, (hinv0 q).1], (hinv0 q).2⟩
  refine lv_aload_n hx hb dL_law_213 rfl (lv_at hl 1 rfl) ?_
  refine lv_aload_n hx hb dL_law_214 rfl (lv_at hl 0 rfl) ?_
  refine lv_iload_n hx hb dL_law_215 rfl (lv_at hl 3 rfl) ?_
  refine lv_iconst (v := nI 1) hx hb dL_law_216 (by decide) ?_
  refine lv_iadd hx hb dL_law_217 ?_
  refine zt (nI_add _ _) ?_
  refine va_sld hx hb hX hbl hbA hS (vp_in_nI (by omega) (by omega)) dL_law_218 ?_
  refine zt (y := xs (i + 1)) (by rw [nI_clamp (by omega)]) ?_
  refine zk_i (zrV (rest := []) ⟨hx, hb, hml, hown, hz⟩ (c_run l dC dI cA a1 f g hW1 (xs (i + 1)) bar cF1 n p4 cF9 B cF18 t (zSlF t le lc) nw p5 cF11 at0 ln (fun k hk => (cT2 k hk).1) (fun k hk => (cT2 k hk).2.1) (fun k hk => ⟨(p8 k hk).1, (p8 k hk).2.2.1⟩) (fun k hk p q1 q2 => zCslok p6 p9 cT5 (cT1 p (by have := (p8 k hk).2.2.1; omega)) (p7 p (by have := (p8 k hk).2.2.1; omega))) p2 cF13 lc p6 cF12 (zSgX mi sd) (fun k hk => by rw [(cT2 k hk).2.2.1, (cT2 k hk).2.2.2]; rfl) (zWF B nw lc t at0 ln le mi sd).1 (zWF B nw lc t at0 ln le mi sd).2 (zFF nw lc t at0 ln le) (zZF nw lc t at0 ln le) rfl rfl (zFm_lt nw (fun w hw l hl => Nat.lt_of_lt_of_le (zSlF_lt p6 hl) p6)) rfl kn hkn hinv) ⟨zcB 1 hz q_284 q_1 q_287 (by decide +kernel) rfl rfl ⟨Nat.le_of_ble_eq_true rfl, Nat.le_of_ble_eq_true rfl⟩, hz _ q_285, hz _ q_286⟩ hK1 hN hP1 20 0 rfl rfl rfl rfl hl.1 rfl (Nat.le_of_ble_eq_true rfl) dL_law_219 ⟨Nat.le_of_ble_eq_true rfl, Nat.le_of_ble_eq_true rfl⟩) hS hA1 (fun z1 u1 H1 locs hp1 hPn hS hk => ?_)
  have hP2 := zKeepM hAd hP2 hk
  have hP1 := hPn
  clear hPn hk
  generalize H1 = H at hP1 hP2 hS ⊢
  refine lv_aload_n hx hb dL_law_222 rfl (lv_at hl 2 rfl) ?_
  refine lv_aload_n hx hb dL_law_223 rfl (lv_at hl 0 rfl) ?_
  refine lv_iload_n hx hb dL_law_224 rfl (lv_at hl 3 rfl) ?_
  refine lv_iconst (v := nI 1) hx hb dL_law_225 (by decide) ?_
  refine lv_iadd hx hb dL_law_226 ?_
  refine zt (nI_add _ _) ?_
  refine va_sld hx hb hX hbl hbA hS (vp_in_nI (by omega) (by omega)) dL_law_227 ?_
  refine zt (y := xs (i + 1)) (by rw [nI_clamp (by omega)]) ?_
  refine zk_i (zrV (rest := [.int z1]) ⟨hx, hb, hml, hown, hz⟩ (c_M_run l dC dI cA cZ cJ a2 f' g' h r hW2 (xs (i + 1)) B p2 rF0 nw p5 rF4 lc p6 rF5 bar rF7 at0 ln mi sd (fun w hw => (rT2 w hw).1) (fun w hw => (rT2 w hw).2.1) (fun w hw => ⟨(p8 w hw).1, Nat.le_trans (p8 w hw).2.2.1 p4⟩) (fun w hw => (p8 w hw).2.1) (fun w hw => (rT2 w hw).2.2.1) (fun w hw => (rT2 w hw).2.2.2) t (zSlF t le lc) (fun k hk p q1 q2 => zRslok p6 rT6 (rT1 p (by have := (p8 k hk).2.2.1; omega)) (p7 p (by have := (p8 k hk).2.2.1; omega))) (zSgX mi sd) (fun w hw => rfl) (zWF B nw lc t at0 ln le mi sd).1 (zWF B nw lc t at0 ln le mi sd).2 (zFF nw lc t at0 ln le) (zZF nw lc t at0 ln le) rfl rfl rfl) ⟨zcB 1 hz q_576 q_9 q_579 (by decide +kernel) rfl rfl ⟨Nat.le_of_ble_eq_true rfl, Nat.le_of_ble_eq_true rfl⟩, hz _ q_577, hz _ q_578⟩ hK hN hP2 17 6 rfl rfl rfl rfl hl.1 rfl (Nat.le_of_ble_eq_true rfl) dL_law_228 ⟨Nat.le_of_ble_eq_true rfl, Nat.le_of_ble_eq_true rfl⟩) hS hA2 (fun z2 u2 H1 locs hp2 hPn hS hk => ?_)
  have hP1 := zKeepS hAd hP1 hk
  have hP2 := hPn
  clear hPn hk
  generalize H1 = H at hP1 hP2 hS ⊢
  by_cases hm : 0 ≤ (xs (i + 1)).toInt ∧ (xs (i + 1)).toInt ≤ 1000
  · rw [if_pos hm] at hp1 hp2
    obtain ⟨hz1, f3, g3, hAA, hu1⟩ := hp1
    obtain ⟨f4, g4, h4, r4, hu2, hkf, hkg, A, R, hAR, hz2, h6, hAm, hAe, hAr⟩ := hp2
    have hAR : (zAQ B nw lc t at0 ln le mi sd bar) = A ++ R := hAR
    have hAA : zAA bar (zPQ B nw lc t at0 ln le mi sd bar) f g f3 g3 := hAA
    have hlen := zRun_len hPI (m := (xs (i + 1)).toInt.toNat) (by omega) hAR hAm hAe
    have hz1 : z1 = nI (min (xs (i + 1)).toInt.toNat (zPQ B nw lc t at0 ln le mi sd bar).length) := hz1
    have hu1 : u1 = (upd f3 2 (nI (min (xs (i + 1)).toInt.toNat (zPQ B nw lc t at0 ln le mi sd bar).length)), g3) := hu1
    rw [hlen] at hz1 hu1
    subst hu1
    subst hu2
    have hz12 : z1 = z2 := by rw [hz1, hz2]
    have hIV2 := s_run hIV hAR (by omega) hAA hkf hkg h6 hAr
    refine lv_icmp_eq (tgt := 395) hx hb dL_law_231 (by decide) (fun c_231 => ?_) (fun c_231 => ?_)
    · refine lv_iinc (v := nI (i + 3)) (lv' := [(3, .int (nI (i + 3))), (0, .ref b), (1, .ref (a1 20)), (2, .ref (a2 17))]) hx hb dL_law_395 hl (k := 3) rfl (nI_add i 3) (by decide) rfl (fun ls hl => ?_)
      refine lv_goto (tgt := 28) hx hb dL_law_398 (by decide) ?_
      exact ih (i + 3) _ _ _ _ _ _ _ _ _ _ _ _ _ _ _ _ _ _ _ _ H locs ls (by omega) (by omega) hIV2 hP1 hP2 hS (lv_sub hl [1, 2, 3, 0] rfl)
    · exact absurd hz12 c_231
  · rw [if_neg hm] at hp1 hp2
    obtain ⟨hz1, hu1⟩ := hp1
    obtain ⟨hz2, hu2⟩ := hp2
    subst hu1
    subst hu2
    have hz12 : z1 = z2 := by rw [hz1, hz2]
    have hIV2 := s_thr hIV
    refine lv_icmp_eq (tgt := 395) hx hb dL_law_231 (by decide) (fun c_231 => ?_) (fun c_231 => ?_)
    · refine lv_iinc (v := nI (i + 3)) (lv' := [(3, .int (nI (i + 3))), (0, .ref b), (1, .ref (a1 20)), (2, .ref (a2 17))]) hx hb dL_law_395 hl (k := 3) rfl (nI_add i 3) (by decide) rfl (fun ls hl => ?_)
      refine lv_goto (tgt := 28) hx hb dL_law_398 (by decide) ?_
      exact ih (i + 3) _ _ _ _ _ _ _ _ _ _ _ _ _ _ _ _ _ _ _ _ H locs ls (by omega) (by omega) hIV2 hP1 hP2 hS (lv_sub hl [1, 2, 3, 0] rfl)
    · exact absurd hz12 c_231

set_option maxHeartbeats 2000000 in
set_option maxRecDepth 100000 in
theorem law_c6 {p : Program} {e : Env} {s : State} {m : MethodId} {below : List Frame} {meth : Method} {c : Code} (l : Launch) {b L : Nat} {xs : Nat → Int32} (hL : L ≤ 1537) (C0 : lw_At p s m meth c b L xs) {dC : Nat → ClassId} {dI : Nat → Nat → Nat} {cA cZ cJ : ClassId} (hK : va_K (dC, dI) vwCl [(cA, .int), (cZ, .boolean), (cJ, .long)] s) (hN : zN s) {a1 a2 : Nat → Nat} (hW1 : WDist a1) (hW2 : MDist a2) (hAd : ∀ i j, i < 21 → j < 18 → a1 i ≠ a2 j) (h1s : ∀ i, i < 21 → s.heap.size ≤ a1 i) (h2s : ∀ j, j < 18 → s.heap.size ≤ a2 j) : ∀ (i : Nat), i + 3 ≤ L → (ih : ∀ (i0 : Nat) (f : Nat → Int32) (g : Nat → Nat → Int32) (f' : Nat → Int32) (g' : Nat → Nat → Int32) (h : Nat → Int64) (r : Int64) (B tn n nw lc : Nat) (tt t at0 ln le : Nat → Nat) (mi sd : Nat → Bool) (bar : Bool) (as : List (List Nat)) (H : Heap) (locs : List Loc) (ls : Array Slot), i0 = i + 3 → i0 ≤ L → zIV f g f' g' B tn n nw lc tt t at0 ln le mi sd bar as → va_P (dC, dI) vwCl (WS cA a1 f g) H → va_P (dC, dI) vwCl (WM cA cZ cJ a2 f' g' h r) H → va_S (fun q : Nat => s.heap.size ≤ q) s.heap H locs → lv_has ls 4 [(0, .ref b), (1, .ref (a1 20)), (2, .ref (a2 17)), (3, .int (nI i0))] → W p l e room_1 s m #[Value.ref b] below meth c H locs 39 34843 (lw_Z below #[Value.ref b] s) (F0 m 28 ls [])) → ∀ (f : Nat → Int32) (g : Nat → Nat → Int32) (f' : Nat → Int32) (g' : Nat → Nat → Int32) (h : Nat → Int64) (r : Int64) (B tn n nw lc : Nat) (tt t at0 ln le : Nat → Nat) (mi sd : Nat → Bool) (bar : Bool) (as : List (List Nat)) (H : Heap) (locs : List Loc) (ls : Array Slot), i + 3 ≤ L → zIV f g f' g' B tn n nw lc tt t at0 ln le mi sd bar as → va_P (dC, dI) vwCl (WS cA a1 f g) H → va_P (dC, dI) vwCl (WM cA cZ cJ a2 f' g' h r) H → va_S (fun q : Nat => s.heap.size ≤ q) s.heap H locs → lv_has ls 4 [(0, .ref b), (1, .ref (a1 20)), (2, .ref (a2 17)), (3, .int (nI i))] → W p l e room_1 s m #[Value.ref b] below meth c H locs 39 34843 (lw_Z below #[Value.ref b] s) (F0 m 236 ls []) := by
  intro i hi0 ih
  obtain ⟨hx, hb, hr, hml, hown, hts, hX, hbl, hlocks, hgv⟩ := id C0
  have hz : ∀ w ∈ zBig, w.before #[Value.ref b] s = true := fun w hw => hts w (List.mem_filter.mp hw).1
  have hK1 : va_K (dC, dI) vwCl [(cA, .int)] s := hK.sub [0] rfl
  have hbA : ¬ (fun q : Nat => s.heap.size ≤ q) b := Nat.not_le.mpr hbl
  have hA1 : ∀ q, AW a1 q → s.heap.size ≤ q := fun q ⟨k, h1, h2⟩ => by rw [h2]; exact h1s k h1
  have hA2 : ∀ q, AM a2 q → s.heap.size ≤ q := fun q ⟨k, h1, h2⟩ => by rw [h2]; exact h2s k h1
  intro f g f' g' h r B tn n nw lc tt t at0 ln le mi sd bar as H locs ls hi hIV hP1 hP2 hS hl
  obtain ⟨hPI, hPx, hC, hR⟩ := id hIV
  obtain ⟨p1, p2, p3, p4, p5, p6, p7, p8, p9, p10, p11⟩ := id hPI
  obtain ⟨⟨cF0, cF1, cF2, cF3, cF8, cF9, cF11, cF12, cF13, cF18⟩, cTy, ⟨cT1, cT2, cT4, cT5⟩, cCK, cKA⟩ := id hC
  obtain ⟨⟨rF0, rF1, rF3, rF4, rF5, rF6, rF7⟩, rTy, ⟨rT1, rT2, rT6⟩, rAr⟩ := id hR
  obtain ⟨cnt, hcnt, hcc, -⟩ := id cKA
  obtain ⟨kn, cnt2, -, hc2, hkn, hinv0⟩ := cCK bar
  have hinv : kn = true → f (cond bar 22 24) = nI (zPQ B nw lc t at0 ln le mi sd bar).length ∧ zIs (cond bar (g 12) (g 13)) (zPQ B nw lc t at0 ln le mi sd bar) := fun q => ⟨by rw [hc2, (hinv0 q).1], (hinv0 q).2⟩
  refine lv_aload_n hx hb dL_law_236 rfl (lv_at hl 1 rfl) ?_
  refine lv_aload_n hx hb dL_law_237 rfl (lv_at hl 0 rfl) ?_
  refine lv_iload_n hx hb dL_law_238 rfl (lv_at hl 3 rfl) ?_
  refine lv_iconst (v := nI 1) hx hb dL_law_239 (by decide) ?_
  refine lv_iadd hx hb dL_law_240 ?_
  refine zt (nI_add _ _) ?_
  refine va_sld hx hb hX hbl hbA hS (vp_in_nI (by omega) (by omega)) dL_law_241 ?_
  refine zt (y := xs (i + 1)) (by rw [nI_clamp (by omega)]) ?_
  refine lv_aload_n hx hb dL_law_242 rfl (lv_at hl 0 rfl) ?_
  refine lv_iload_n hx hb dL_law_243 rfl (lv_at hl 3 rfl) ?_
  refine lv_iconst (v := nI 2) hx hb dL_law_244 (by decide) ?_
  refine lv_iadd hx hb dL_law_245 ?_
  refine zt (nI_add _ _) ?_
  refine va_sld hx hb hX hbl hbA hS (vp_in_nI (by omega) (by omega)) dL_law_246 ?_
  refine zt (y := xs (i + 2)) (by rw [nI_clamp (by omega)]) ?_
  refine zq_i (zrV (rest := []) ⟨hx, hb, hml, hown, hz⟩ (c_digit l dC dI cA a1 f g (xs (i + 1)) (xs (i + 2)) as.length p10 cF2 bar cF1 cnt hcnt hcc) ⟨zcB 2 hz q_376 q_1 q_379 (by decide +kernel) rfl rfl ⟨Nat.le_of_ble_eq_true rfl, Nat.le_of_ble_eq_true rfl⟩, hz _ q_377, hz _ q_378⟩ hK1 hN hP1 20 0 rfl rfl rfl rfl hl.1 rfl (Nat.le_of_ble_eq_true rfl) dL_law_247 ⟨Nat.le_of_ble_eq_true rfl, Nat.le_of_ble_eq_true rfl⟩) (fun z1 hp1 => ?_)
  refine lv_aload_n hx hb dL_law_250 rfl (lv_at hl 2 rfl) ?_
  refine lv_aload_n hx hb dL_law_251 rfl (lv_at hl 0 rfl) ?_
  refine lv_iload_n hx hb dL_law_252 rfl (lv_at hl 3 rfl) ?_
  refine lv_iconst (v := nI 1) hx hb dL_law_253 (by decide) ?_
  refine lv_iadd hx hb dL_law_254 ?_
  refine zt (nI_add _ _) ?_
  refine va_sld hx hb hX hbl hbA hS (vp_in_nI (by omega) (by omega)) dL_law_255 ?_
  refine zt (y := xs (i + 1)) (by rw [nI_clamp (by omega)]) ?_
  refine lv_aload_n hx hb dL_law_256 rfl (lv_at hl 0 rfl) ?_
  refine lv_iload_n hx hb dL_law_257 rfl (lv_at hl 3 rfl) ?_
  refine lv_iconst (v := nI 2) hx hb dL_law_258 (by decide) ?_
  refine lv_iadd hx hb dL_law_259 ?_
  refine zt (nI_add _ _) ?_
  refine va_sld hx hb hX hbl hbA hS (vp_in_nI (by omega) (by omega)) dL_law_260 ?_
  refine zt (y := xs (i + 2)) (by rw [nI_clamp (by omega)]) ?_
  refine zk_i (zrV (rest := [.int z1]) ⟨hx, hb, hml, hown, hz⟩ (c_M_digit l dC dI cA cZ cJ a2 f' g' h r hW2 (xs (i + 1)) (xs (i + 2)) as.length p10 rF6 lc p6 rF5) ⟨zcB 2 hz q_597 q_9 q_600 (by decide +kernel) rfl rfl ⟨Nat.le_of_ble_eq_true rfl, Nat.le_of_ble_eq_true rfl⟩, hz _ q_598, hz _ q_599⟩ hK hN hP2 17 6 rfl rfl rfl rfl hl.1 rfl (Nat.le_of_ble_eq_true rfl) dL_law_261 ⟨Nat.le_of_ble_eq_true rfl, Nat.le_of_ble_eq_true rfl⟩) hS hA2 (fun z2 u2 H1 locs hp2 hPn hS hk => ?_)
  have hP1 := zKeepS hAd hP1 hk
  have hP2 := hPn
  clear hPn hk
  generalize H1 = H at hP1 hP2 hS ⊢
  obtain ⟨hz2, hu2⟩ := hp2
  subst hu2
  have hIV2 := s_thr hIV
  have hz12 : z1 = z2 := by rw [hz2, ← e_digit hPI hC hR hcnt hcc]; exact hp1
  refine lv_icmp_eq (tgt := 395) hx hb dL_law_264 (by decide) (fun c_264 => ?_) (fun c_264 => ?_)
  · refine lv_iinc (v := nI (i + 3)) (lv' := [(3, .int (nI (i + 3))), (0, .ref b), (1, .ref (a1 20)), (2, .ref (a2 17))]) hx hb dL_law_395 hl (k := 3) rfl (nI_add i 3) (by decide) rfl (fun ls hl => ?_)
    refine lv_goto (tgt := 28) hx hb dL_law_398 (by decide) ?_
    exact ih (i + 3) _ _ _ _ _ _ _ _ _ _ _ _ _ _ _ _ _ _ _ _ H locs ls (by omega) (by omega) hIV2 hP1 hP2 hS (lv_sub hl [1, 2, 3, 0] rfl)
  · exact absurd hz12 c_264

set_option maxHeartbeats 2000000 in
set_option maxRecDepth 100000 in
theorem law_c7 {p : Program} {e : Env} {s : State} {m : MethodId} {below : List Frame} {meth : Method} {c : Code} (l : Launch) {b L : Nat} {xs : Nat → Int32} (hL : L ≤ 1537) (C0 : lw_At p s m meth c b L xs) {dC : Nat → ClassId} {dI : Nat → Nat → Nat} {cA cZ cJ : ClassId} (hK : va_K (dC, dI) vwCl [(cA, .int), (cZ, .boolean), (cJ, .long)] s) (hN : zN s) {a1 a2 : Nat → Nat} (hW1 : WDist a1) (hW2 : MDist a2) (hAd : ∀ i j, i < 21 → j < 18 → a1 i ≠ a2 j) (h1s : ∀ i, i < 21 → s.heap.size ≤ a1 i) (h2s : ∀ j, j < 18 → s.heap.size ≤ a2 j) : ∀ (i : Nat), i + 3 ≤ L → (ih : ∀ (i0 : Nat) (f : Nat → Int32) (g : Nat → Nat → Int32) (f' : Nat → Int32) (g' : Nat → Nat → Int32) (h : Nat → Int64) (r : Int64) (B tn n nw lc : Nat) (tt t at0 ln le : Nat → Nat) (mi sd : Nat → Bool) (bar : Bool) (as : List (List Nat)) (H : Heap) (locs : List Loc) (ls : Array Slot), i0 = i + 3 → i0 ≤ L → zIV f g f' g' B tn n nw lc tt t at0 ln le mi sd bar as → va_P (dC, dI) vwCl (WS cA a1 f g) H → va_P (dC, dI) vwCl (WM cA cZ cJ a2 f' g' h r) H → va_S (fun q : Nat => s.heap.size ≤ q) s.heap H locs → lv_has ls 4 [(0, .ref b), (1, .ref (a1 20)), (2, .ref (a2 17)), (3, .int (nI i0))] → W p l e room_1 s m #[Value.ref b] below meth c H locs 39 34843 (lw_Z below #[Value.ref b] s) (F0 m 28 ls [])) → ∀ (f : Nat → Int32) (g : Nat → Nat → Int32) (f' : Nat → Int32) (g' : Nat → Nat → Int32) (h : Nat → Int64) (r : Int64) (B tn n nw lc : Nat) (tt t at0 ln le : Nat → Nat) (mi sd : Nat → Bool) (bar : Bool) (as : List (List Nat)) (H : Heap) (locs : List Loc) (ls : Array Slot), i + 3 ≤ L → zIV f g f' g' B tn n nw lc tt t at0 ln le mi sd bar as → va_P (dC, dI) vwCl (WS cA a1 f g) H → va_P (dC, dI) vwCl (WM cA cZ cJ a2 f' g' h r) H → va_S (fun q : Nat => s.heap.size ≤ q) s.heap H locs → lv_has ls 4 [(0, .ref b), (1, .ref (a1 20)), (2, .ref (a2 17)), (3, .int (nI i))] → W p l e room_1 s m #[Value.ref b] below meth c H locs 39 34843 (lw_Z below #[Value.ref b] s) (F0 m 269 ls []) := by
  intro i hi0 ih
  obtain ⟨hx, hb, hr, hml, hown, hts, hX, hbl, hlocks, hgv⟩ := id C0
  have hz : ∀ w ∈ zBig, w.before #[Value.ref b] s = true := fun w hw => hts w (List.mem_filter.mp hw).1
  have hK1 : va_K (dC, dI) vwCl [(cA, .int)] s := hK.sub [0] rfl
  have hbA : ¬ (fun q : Nat => s.heap.size ≤ q) b := Nat.not_le.mpr hbl
  have hA1 : ∀ q, AW a1 q → s.heap.size ≤ q := fun q ⟨k, h1, h2⟩ => by rw [h2]; exact h1s k h1
  have hA2 : ∀ q, AM a2 q → s.heap.size ≤ q := fun q ⟨k, h1, h2⟩ => by rw [h2]; exact h2s k h1
  intro f g f' g' h r B tn n nw lc tt t at0 ln le mi sd bar as H locs ls hi hIV hP1 hP2 hS hl
  obtain ⟨hPI, hPx, hC, hR⟩ := id hIV
  obtain ⟨p1, p2, p3, p4, p5, p6, p7, p8, p9, p10, p11⟩ := id hPI
  obtain ⟨⟨cF0, cF1, cF2, cF3, cF8, cF9, cF11, cF12, cF13, cF18⟩, cTy, ⟨cT1, cT2, cT4, cT5⟩, cCK, cKA⟩ := id hC
  obtain ⟨⟨rF0, rF1, rF3, rF4, rF5, rF6, rF7⟩, rTy, ⟨rT1, rT2, rT6⟩, rAr⟩ := id hR
  obtain ⟨cnt, hcnt, hcc, -⟩ := id cKA
  obtain ⟨kn, cnt2, -, hc2, hkn, hinv0⟩ := cCK bar
  have hinv : kn = true → f (cond bar 22 24) = nI (zPQ B nw lc t at0 ln le mi sd bar).length ∧ zIs (cond bar (g 12) (g 13)) (zPQ B nw lc t at0 ln le mi sd bar) := fun q => ⟨by rw [hc2, (hinv0 q).1], (hinv0 q).2⟩
  refine lv_aload_n hx hb dL_law_269 rfl (lv_at hl 1 rfl) ?_
  refine lv_aload_n hx hb dL_law_270 rfl (lv_at hl 0 rfl) ?_
  refine lv_iload_n hx hb dL_law_271 rfl (lv_at hl 3 rfl) ?_
  refine lv_iconst (v := nI 1) hx hb dL_law_272 (by decide) ?_
  refine lv_iadd hx hb dL_law_273 ?_
  refine zt (nI_add _ _) ?_
  refine va_sld hx hb hX hbl hbA hS (vp_in_nI (by omega) (by omega)) dL_law_274 ?_
  refine zt (y := xs (i + 1)) (by rw [nI_clamp (by omega)]) ?_
  refine lv_aload_n hx hb dL_law_275 rfl (lv_at hl 0 rfl) ?_
  refine lv_iload_n hx hb dL_law_276 rfl (lv_at hl 3 rfl) ?_
  refine lv_iconst (v := nI 2) hx hb dL_law_277 (by decide) ?_
  refine lv_iadd hx hb dL_law_278 ?_
  refine zt (nI_add _ _) ?_
  refine va_sld hx hb hX hbl hbA hS (vp_in_nI (by omega) (by omega)) dL_law_279 ?_
  refine zt (y := xs (i + 2)) (by rw [nI_clamp (by omega)]) ?_
  refine zq_l (zrV (rest := []) ⟨hx, hb, hml, hown, hz⟩ (c_side l dC dI cA a1 f g (xs (i + 1)) (xs (i + 2)) as.length p10 cF2 bar cF1 cnt hcnt hcc n p4 cF9 nw p5 cF11 B cF8 at0 (fun k => at0 k + ln k) (fun k hk => (cT2 k hk).1) (fun k hk => (cT2 k hk).2.1) (fun k hk => ⟨Nat.le_add_right _ _, Nat.le_trans (p8 k hk).2.2.1 p4⟩)) ⟨zcB 2 hz q_396 q_1 q_399 (by decide +kernel) rfl rfl ⟨Nat.le_of_ble_eq_true rfl, Nat.le_of_ble_eq_true rfl⟩, hz _ q_397, hz _ q_398⟩ hK1 hN hP1 20 0 rfl rfl rfl rfl hl.1 rfl (Nat.le_of_ble_eq_true rfl) dL_law_280 ⟨Nat.le_of_ble_eq_true rfl, Nat.le_of_ble_eq_true rfl⟩) (fun z1 hp1 => ?_)
  refine lv_aload_n hx hb dL_law_283 rfl (lv_at hl 2 rfl) ?_
  refine lv_aload_n hx hb dL_law_284 rfl (lv_at hl 0 rfl) ?_
  refine lv_iload_n hx hb dL_law_285 rfl (lv_at hl 3 rfl) ?_
  refine lv_iconst (v := nI 1) hx hb dL_law_286 (by decide) ?_
  refine lv_iadd hx hb dL_law_287 ?_
  refine zt (nI_add _ _) ?_
  refine va_sld hx hb hX hbl hbA hS (vp_in_nI (by omega) (by omega)) dL_law_288 ?_
  refine zt (y := xs (i + 1)) (by rw [nI_clamp (by omega)]) ?_
  refine lv_aload_n hx hb dL_law_289 rfl (lv_at hl 0 rfl) ?_
  refine lv_iload_n hx hb dL_law_290 rfl (lv_at hl 3 rfl) ?_
  refine lv_iconst (v := nI 2) hx hb dL_law_291 (by decide) ?_
  refine lv_iadd hx hb dL_law_292 ?_
  refine zt (nI_add _ _) ?_
  refine va_sld hx hb hX hbl hbA hS (vp_in_nI (by omega) (by omega)) dL_law_293 ?_
  refine zt (y := xs (i + 2)) (by rw [nI_clamp (by omega)]) ?_
  refine zk_l (zrV (rest := [.long z1]) ⟨hx, hb, hml, hown, hz⟩ (c_M_side l dC dI cA cZ cJ a2 f' g' h r hW2 (xs (i + 1)) (xs (i + 2)) as.length p10 rF6 lc p6 rF5 B rF0 nw p5 rF4 at0 ln mi sd (fun w hw => (rT2 w hw).1) (fun w hw => (rT2 w hw).2.1) (fun w hw => ⟨(p8 w hw).2.1, Nat.le_trans (p8 w hw).2.2.1 p4⟩) (fun w hw => (rT2 w hw).2.2.1) (fun w hw => (rT2 w hw).2.2.2)) ⟨zcB 2 hz q_605 q_9 q_608 (by decide +kernel) rfl rfl ⟨Nat.le_of_ble_eq_true rfl, Nat.le_of_ble_eq_true rfl⟩, hz _ q_606, hz _ q_607⟩ hK hN hP2 17 6 rfl rfl rfl rfl hl.1 rfl (Nat.le_of_ble_eq_true rfl) dL_law_294 ⟨Nat.le_of_ble_eq_true rfl, Nat.le_of_ble_eq_true rfl⟩) hS hA2 (fun z2 u2 H1 locs hp2 hPn hS hk => ?_)
  have hP1 := zKeepS hAd hP1 hk
  have hP2 := hPn
  clear hPn hk
  generalize H1 = H at hP1 hP2 hS ⊢
  obtain ⟨hz2, hu2⟩ := hp2
  subst hu2
  have hIV2 := s_thr hIV
  have hz12 : z1 = z2 := by rw [hz2, ← e_side hPI hC hR hcnt hcc]; exact hp1
  refine W.lcmp hx hb dL_law_297 ?_
  refine lv_if_eq (tgt := 395) hx hb dL_law_298 (by decide) (fun c_298 => ?_) (fun c_298 => ?_)
  · refine lv_iinc (v := nI (i + 3)) (lv' := [(3, .int (nI (i + 3))), (0, .ref b), (1, .ref (a1 20)), (2, .ref (a2 17))]) hx hb dL_law_395 hl (k := 3) rfl (nI_add i 3) (by decide) rfl (fun ls hl => ?_)
    refine lv_goto (tgt := 28) hx hb dL_law_398 (by decide) ?_
    exact ih (i + 3) _ _ _ _ _ _ _ _ _ _ _ _ _ _ _ _ _ _ _ _ H locs ls (by omega) (by omega) hIV2 hP1 hP2 hS (lv_sub hl [1, 2, 3, 0] rfl)
  · exact absurd (zCmpE.mpr hz12) c_298

set_option maxHeartbeats 2000000 in
set_option maxRecDepth 100000 in
theorem law_c8 {p : Program} {e : Env} {s : State} {m : MethodId} {below : List Frame} {meth : Method} {c : Code} (l : Launch) {b L : Nat} {xs : Nat → Int32} (hL : L ≤ 1537) (C0 : lw_At p s m meth c b L xs) {dC : Nat → ClassId} {dI : Nat → Nat → Nat} {cA cZ cJ : ClassId} (hK : va_K (dC, dI) vwCl [(cA, .int), (cZ, .boolean), (cJ, .long)] s) (hN : zN s) {a1 a2 : Nat → Nat} (hW1 : WDist a1) (hW2 : MDist a2) (hAd : ∀ i j, i < 21 → j < 18 → a1 i ≠ a2 j) (h1s : ∀ i, i < 21 → s.heap.size ≤ a1 i) (h2s : ∀ j, j < 18 → s.heap.size ≤ a2 j) : ∀ (i : Nat), i + 3 ≤ L → (ih : ∀ (i0 : Nat) (f : Nat → Int32) (g : Nat → Nat → Int32) (f' : Nat → Int32) (g' : Nat → Nat → Int32) (h : Nat → Int64) (r : Int64) (B tn n nw lc : Nat) (tt t at0 ln le : Nat → Nat) (mi sd : Nat → Bool) (bar : Bool) (as : List (List Nat)) (H : Heap) (locs : List Loc) (ls : Array Slot), i0 = i + 3 → i0 ≤ L → zIV f g f' g' B tn n nw lc tt t at0 ln le mi sd bar as → va_P (dC, dI) vwCl (WS cA a1 f g) H → va_P (dC, dI) vwCl (WM cA cZ cJ a2 f' g' h r) H → va_S (fun q : Nat => s.heap.size ≤ q) s.heap H locs → lv_has ls 4 [(0, .ref b), (1, .ref (a1 20)), (2, .ref (a2 17)), (3, .int (nI i0))] → W p l e room_1 s m #[Value.ref b] below meth c H locs 39 34843 (lw_Z below #[Value.ref b] s) (F0 m 28 ls [])) → ∀ (f : Nat → Int32) (g : Nat → Nat → Int32) (f' : Nat → Int32) (g' : Nat → Nat → Int32) (h : Nat → Int64) (r : Int64) (B tn n nw lc : Nat) (tt t at0 ln le : Nat → Nat) (mi sd : Nat → Bool) (bar : Bool) (as : List (List Nat)) (H : Heap) (locs : List Loc) (ls : Array Slot), i + 3 ≤ L → zIV f g f' g' B tn n nw lc tt t at0 ln le mi sd bar as → va_P (dC, dI) vwCl (WS cA a1 f g) H → va_P (dC, dI) vwCl (WM cA cZ cJ a2 f' g' h r) H → va_S (fun q : Nat => s.heap.size ≤ q) s.heap H locs → lv_has ls 4 [(0, .ref b), (1, .ref (a1 20)), (2, .ref (a2 17)), (3, .int (nI i))] → W p l e room_1 s m #[Value.ref b] below meth c H locs 39 34843 (lw_Z below #[Value.ref b] s) (F0 m 303 ls []) := by
  intro i hi0 ih
  obtain ⟨hx, hb, hr, hml, hown, hts, hX, hbl, hlocks, hgv⟩ := id C0
  have hz : ∀ w ∈ zBig, w.before #[Value.ref b] s = true := fun w hw => hts w (List.mem_filter.mp hw).1
  have hK1 : va_K (dC, dI) vwCl [(cA, .int)] s := hK.sub [0] rfl
  have hbA : ¬ (fun q : Nat => s.heap.size ≤ q) b := Nat.not_le.mpr hbl
  have hA1 : ∀ q, AW a1 q → s.heap.size ≤ q := fun q ⟨k, h1, h2⟩ => by rw [h2]; exact h1s k h1
  have hA2 : ∀ q, AM a2 q → s.heap.size ≤ q := fun q ⟨k, h1, h2⟩ => by rw [h2]; exact h2s k h1
  intro f g f' g' h r B tn n nw lc tt t at0 ln le mi sd bar as H locs ls hi hIV hP1 hP2 hS hl
  obtain ⟨hPI, hPx, hC, hR⟩ := id hIV
  obtain ⟨p1, p2, p3, p4, p5, p6, p7, p8, p9, p10, p11⟩ := id hPI
  obtain ⟨⟨cF0, cF1, cF2, cF3, cF8, cF9, cF11, cF12, cF13, cF18⟩, cTy, ⟨cT1, cT2, cT4, cT5⟩, cCK, cKA⟩ := id hC
  obtain ⟨⟨rF0, rF1, rF3, rF4, rF5, rF6, rF7⟩, rTy, ⟨rT1, rT2, rT6⟩, rAr⟩ := id hR
  obtain ⟨cnt, hcnt, hcc, -⟩ := id cKA
  obtain ⟨kn, cnt2, -, hc2, hkn, hinv0⟩ := cCK bar
  have hinv : kn = true → f (cond bar 22 24) = nI (zPQ B nw lc t at0 ln le mi sd bar).length ∧ zIs (cond bar (g 12) (g 13)) (zPQ B nw lc t at0 ln le mi sd bar) := fun q => ⟨by rw [hc2, (hinv0 q).1], (hinv0 q).2⟩
  refine lv_aload_n hx hb dL_law_303 rfl (lv_at hl 1 rfl) ?_
  refine lv_aload_n hx hb dL_law_304 rfl (lv_at hl 0 rfl) ?_
  refine lv_iload_n hx hb dL_law_305 rfl (lv_at hl 3 rfl) ?_
  refine lv_iconst (v := nI 1) hx hb dL_law_306 (by decide) ?_
  refine lv_iadd hx hb dL_law_307 ?_
  refine zt (nI_add _ _) ?_
  refine va_sld hx hb hX hbl hbA hS (vp_in_nI (by omega) (by omega)) dL_law_308 ?_
  refine zt (y := xs (i + 1)) (by rw [nI_clamp (by omega)]) ?_
  refine lv_aload_n hx hb dL_law_309 rfl (lv_at hl 0 rfl) ?_
  refine lv_iload_n hx hb dL_law_310 rfl (lv_at hl 3 rfl) ?_
  refine lv_iconst (v := nI 2) hx hb dL_law_311 (by decide) ?_
  refine lv_iadd hx hb dL_law_312 ?_
  refine zt (nI_add _ _) ?_
  refine va_sld hx hb hX hbl hbA hS (vp_in_nI (by omega) (by omega)) dL_law_313 ?_
  refine zt (y := xs (i + 2)) (by rw [nI_clamp (by omega)]) ?_
  refine zq_i (zrV (rest := []) ⟨hx, hb, hml, hown, hz⟩ (c_carry l dC dI cA a1 f g (xs (i + 1)) (xs (i + 2)) B (by omega) p2 as.length p10 cF2 bar cF1 cnt hcnt hcc n p4 cF9 nw p5 cF11 cF8 at0 (fun k => at0 k + ln k) (fun k hk => (cT2 k hk).1) (fun k hk => (cT2 k hk).2.1) (fun k hk => ⟨Nat.le_add_right _ _, Nat.le_trans (p8 k hk).2.2.1 p4⟩)) ⟨zcB 2 hz q_418 q_1 q_421 (by decide +kernel) rfl rfl ⟨Nat.le_of_ble_eq_true rfl, Nat.le_of_ble_eq_true rfl⟩, hz _ q_419, hz _ q_420⟩ hK1 hN hP1 20 0 rfl rfl rfl rfl hl.1 rfl (Nat.le_of_ble_eq_true rfl) dL_law_314 ⟨Nat.le_of_ble_eq_true rfl, Nat.le_of_ble_eq_true rfl⟩) (fun z1 hp1 => ?_)
  refine lv_aload_n hx hb dL_law_317 rfl (lv_at hl 2 rfl) ?_
  refine lv_aload_n hx hb dL_law_318 rfl (lv_at hl 0 rfl) ?_
  refine lv_iload_n hx hb dL_law_319 rfl (lv_at hl 3 rfl) ?_
  refine lv_iconst (v := nI 1) hx hb dL_law_320 (by decide) ?_
  refine lv_iadd hx hb dL_law_321 ?_
  refine zt (nI_add _ _) ?_
  refine va_sld hx hb hX hbl hbA hS (vp_in_nI (by omega) (by omega)) dL_law_322 ?_
  refine zt (y := xs (i + 1)) (by rw [nI_clamp (by omega)]) ?_
  refine lv_aload_n hx hb dL_law_323 rfl (lv_at hl 0 rfl) ?_
  refine lv_iload_n hx hb dL_law_324 rfl (lv_at hl 3 rfl) ?_
  refine lv_iconst (v := nI 2) hx hb dL_law_325 (by decide) ?_
  refine lv_iadd hx hb dL_law_326 ?_
  refine zt (nI_add _ _) ?_
  refine va_sld hx hb hX hbl hbA hS (vp_in_nI (by omega) (by omega)) dL_law_327 ?_
  refine zt (y := xs (i + 2)) (by rw [nI_clamp (by omega)]) ?_
  refine zk_i (zrV (rest := [.int z1]) ⟨hx, hb, hml, hown, hz⟩ (c_M_carry l dC dI cA cZ cJ a2 f' g' h r hW2 (xs (i + 1)) (xs (i + 2)) as.length p10 rF6 lc p6 rF5 B rF0 nw p5 rF4 at0 ln mi sd (fun w hw => (rT2 w hw).1) (fun w hw => (rT2 w hw).2.1) (fun w hw => ⟨(p8 w hw).2.1, Nat.le_trans (p8 w hw).2.2.1 p4⟩) (fun w hw => (rT2 w hw).2.2.1) (fun w hw => (rT2 w hw).2.2.2) (by omega) p2) ⟨zcB 2 hz q_617 q_9 q_620 (by decide +kernel) rfl rfl ⟨Nat.le_of_ble_eq_true rfl, Nat.le_of_ble_eq_true rfl⟩, hz _ q_618, hz _ q_619⟩ hK hN hP2 17 6 rfl rfl rfl rfl hl.1 rfl (Nat.le_of_ble_eq_true rfl) dL_law_328 ⟨Nat.le_of_ble_eq_true rfl, Nat.le_of_ble_eq_true rfl⟩) hS hA2 (fun z2 u2 H1 locs hp2 hPn hS hk => ?_)
  have hP1 := zKeepS hAd hP1 hk
  have hP2 := hPn
  clear hPn hk
  generalize H1 = H at hP1 hP2 hS ⊢
  obtain ⟨hz2, hu2⟩ := hp2
  subst hu2
  have hIV2 := s_thr hIV
  have hz12 : z1 = z2 := by rw [hz2, ← e_carry hPI hC hR hcnt hcc]; exact hp1
  refine lv_icmp_eq (tgt := 395) hx hb dL_law_331 (by decide) (fun c_331 => ?_) (fun c_331 => ?_)
  · refine lv_iinc (v := nI (i + 3)) (lv' := [(3, .int (nI (i + 3))), (0, .ref b), (1, .ref (a1 20)), (2, .ref (a2 17))]) hx hb dL_law_395 hl (k := 3) rfl (nI_add i 3) (by decide) rfl (fun ls hl => ?_)
    refine lv_goto (tgt := 28) hx hb dL_law_398 (by decide) ?_
    exact ih (i + 3) _ _ _ _ _ _ _ _ _ _ _ _ _ _ _ _ _ _ _ _ H locs ls (by omega) (by omega) hIV2 hP1 hP2 hS (lv_sub hl [1, 2, 3, 0] rfl)
  · exact absurd hz12 c_331

set_option maxHeartbeats 2000000 in
set_option maxRecDepth 100000 in
theorem law_c9 {p : Program} {e : Env} {s : State} {m : MethodId} {below : List Frame} {meth : Method} {c : Code} (l : Launch) {b L : Nat} {xs : Nat → Int32} (hL : L ≤ 1537) (C0 : lw_At p s m meth c b L xs) {dC : Nat → ClassId} {dI : Nat → Nat → Nat} {cA cZ cJ : ClassId} (hK : va_K (dC, dI) vwCl [(cA, .int), (cZ, .boolean), (cJ, .long)] s) (hN : zN s) {a1 a2 : Nat → Nat} (hW1 : WDist a1) (hW2 : MDist a2) (hAd : ∀ i j, i < 21 → j < 18 → a1 i ≠ a2 j) (h1s : ∀ i, i < 21 → s.heap.size ≤ a1 i) (h2s : ∀ j, j < 18 → s.heap.size ≤ a2 j) : ∀ (i : Nat), i + 3 ≤ L → (ih : ∀ (i0 : Nat) (f : Nat → Int32) (g : Nat → Nat → Int32) (f' : Nat → Int32) (g' : Nat → Nat → Int32) (h : Nat → Int64) (r : Int64) (B tn n nw lc : Nat) (tt t at0 ln le : Nat → Nat) (mi sd : Nat → Bool) (bar : Bool) (as : List (List Nat)) (H : Heap) (locs : List Loc) (ls : Array Slot), i0 = i + 3 → i0 ≤ L → zIV f g f' g' B tn n nw lc tt t at0 ln le mi sd bar as → va_P (dC, dI) vwCl (WS cA a1 f g) H → va_P (dC, dI) vwCl (WM cA cZ cJ a2 f' g' h r) H → va_S (fun q : Nat => s.heap.size ≤ q) s.heap H locs → lv_has ls 4 [(0, .ref b), (1, .ref (a1 20)), (2, .ref (a2 17)), (3, .int (nI i0))] → W p l e room_1 s m #[Value.ref b] below meth c H locs 39 34843 (lw_Z below #[Value.ref b] s) (F0 m 28 ls [])) → ∀ (f : Nat → Int32) (g : Nat → Nat → Int32) (f' : Nat → Int32) (g' : Nat → Nat → Int32) (h : Nat → Int64) (r : Int64) (B tn n nw lc : Nat) (tt t at0 ln le : Nat → Nat) (mi sd : Nat → Bool) (bar : Bool) (as : List (List Nat)) (H : Heap) (locs : List Loc) (ls : Array Slot), i + 3 ≤ L → zIV f g f' g' B tn n nw lc tt t at0 ln le mi sd bar as → va_P (dC, dI) vwCl (WS cA a1 f g) H → va_P (dC, dI) vwCl (WM cA cZ cJ a2 f' g' h r) H → va_S (fun q : Nat => s.heap.size ≤ q) s.heap H locs → lv_has ls 4 [(0, .ref b), (1, .ref (a1 20)), (2, .ref (a2 17)), (3, .int (nI i))] → W p l e room_1 s m #[Value.ref b] below meth c H locs 39 34843 (lw_Z below #[Value.ref b] s) (F0 m 336 ls []) := by
  intro i hi0 ih
  obtain ⟨hx, hb, hr, hml, hown, hts, hX, hbl, hlocks, hgv⟩ := id C0
  have hz : ∀ w ∈ zBig, w.before #[Value.ref b] s = true := fun w hw => hts w (List.mem_filter.mp hw).1
  have hK1 : va_K (dC, dI) vwCl [(cA, .int)] s := hK.sub [0] rfl
  have hbA : ¬ (fun q : Nat => s.heap.size ≤ q) b := Nat.not_le.mpr hbl
  have hA1 : ∀ q, AW a1 q → s.heap.size ≤ q := fun q ⟨k, h1, h2⟩ => by rw [h2]; exact h1s k h1
  have hA2 : ∀ q, AM a2 q → s.heap.size ≤ q := fun q ⟨k, h1, h2⟩ => by rw [h2]; exact h2s k h1
  intro f g f' g' h r B tn n nw lc tt t at0 ln le mi sd bar as H locs ls hi hIV hP1 hP2 hS hl
  obtain ⟨hPI, hPx, hC, hR⟩ := id hIV
  obtain ⟨p1, p2, p3, p4, p5, p6, p7, p8, p9, p10, p11⟩ := id hPI
  obtain ⟨⟨cF0, cF1, cF2, cF3, cF8, cF9, cF11, cF12, cF13, cF18⟩, cTy, ⟨cT1, cT2, cT4, cT5⟩, cCK, cKA⟩ := id hC
  obtain ⟨⟨rF0, rF1, rF3, rF4, rF5, rF6, rF7⟩, rTy, ⟨rT1, rT2, rT6⟩, rAr⟩ := id hR
  obtain ⟨cnt, hcnt, hcc, -⟩ := id cKA
  obtain ⟨kn, cnt2, -, hc2, hkn, hinv0⟩ := cCK bar
  have hinv : kn = true → f (cond bar 22 24) = nI (zPQ B nw lc t at0 ln le mi sd bar).length ∧ zIs (cond bar (g 12) (g 13)) (zPQ B nw lc t at0 ln le mi sd bar) := fun q => ⟨by rw [hc2, (hinv0 q).1], (hinv0 q).2⟩
  refine lv_aload_n hx hb dL_law_336 rfl (lv_at hl 1 rfl) ?_
  refine lv_aload_n hx hb dL_law_337 rfl (lv_at hl 0 rfl) ?_
  refine lv_iload_n hx hb dL_law_338 rfl (lv_at hl 3 rfl) ?_
  refine lv_iconst (v := nI 1) hx hb dL_law_339 (by decide) ?_
  refine lv_iadd hx hb dL_law_340 ?_
  refine zt (nI_add _ _) ?_
  refine va_sld hx hb hX hbl hbA hS (vp_in_nI (by omega) (by omega)) dL_law_341 ?_
  refine zt (y := xs (i + 1)) (by rw [nI_clamp (by omega)]) ?_
  refine lv_aload_n hx hb dL_law_342 rfl (lv_at hl 0 rfl) ?_
  refine lv_iload_n hx hb dL_law_343 rfl (lv_at hl 3 rfl) ?_
  refine lv_iconst (v := nI 2) hx hb dL_law_344 (by decide) ?_
  refine lv_iadd hx hb dL_law_345 ?_
  refine zt (nI_add _ _) ?_
  refine va_sld hx hb hX hbl hbA hS (vp_in_nI (by omega) (by omega)) dL_law_346 ?_
  refine zt (y := xs (i + 2)) (by rw [nI_clamp (by omega)]) ?_
  refine zq_i (zrV (rest := []) ⟨hx, hb, hml, hown, hz⟩ (c_text l dC dI cA a1 f g (xs (i + 1)) (xs (i + 2)) as.length p10 cF2 bar cF1 cnt hcnt hcc n p4 cF9) ⟨zcB 2 hz q_430 q_1 q_433 (by decide +kernel) rfl rfl ⟨Nat.le_of_ble_eq_true rfl, Nat.le_of_ble_eq_true rfl⟩, hz _ q_431, hz _ q_432⟩ hK1 hN hP1 20 0 rfl rfl rfl rfl hl.1 rfl (Nat.le_of_ble_eq_true rfl) dL_law_347 ⟨Nat.le_of_ble_eq_true rfl, Nat.le_of_ble_eq_true rfl⟩) (fun z1 hp1 => ?_)
  refine lv_aload_n hx hb dL_law_350 rfl (lv_at hl 2 rfl) ?_
  refine lv_aload_n hx hb dL_law_351 rfl (lv_at hl 0 rfl) ?_
  refine lv_iload_n hx hb dL_law_352 rfl (lv_at hl 3 rfl) ?_
  refine lv_iconst (v := nI 1) hx hb dL_law_353 (by decide) ?_
  refine lv_iadd hx hb dL_law_354 ?_
  refine zt (nI_add _ _) ?_
  refine va_sld hx hb hX hbl hbA hS (vp_in_nI (by omega) (by omega)) dL_law_355 ?_
  refine zt (y := xs (i + 1)) (by rw [nI_clamp (by omega)]) ?_
  refine lv_aload_n hx hb dL_law_356 rfl (lv_at hl 0 rfl) ?_
  refine lv_iload_n hx hb dL_law_357 rfl (lv_at hl 3 rfl) ?_
  refine lv_iconst (v := nI 2) hx hb dL_law_358 (by decide) ?_
  refine lv_iadd hx hb dL_law_359 ?_
  refine zt (nI_add _ _) ?_
  refine va_sld hx hb hX hbl hbA hS (vp_in_nI (by omega) (by omega)) dL_law_360 ?_
  refine zt (y := xs (i + 2)) (by rw [nI_clamp (by omega)]) ?_
  refine zk_i (zrV (rest := [.int z1]) ⟨hx, hb, hml, hown, hz⟩ (c_M_text l dC dI cA cZ cJ a2 f' g' h r hW2 (xs (i + 1)) (xs (i + 2)) as.length p10 rF6 lc p6 rF5 n p4 rF3) ⟨zcB 2 hz q_625 q_9 q_628 (by decide +kernel) rfl rfl ⟨Nat.le_of_ble_eq_true rfl, Nat.le_of_ble_eq_true rfl⟩, hz _ q_626, hz _ q_627⟩ hK hN hP2 17 6 rfl rfl rfl rfl hl.1 rfl (Nat.le_of_ble_eq_true rfl) dL_law_361 ⟨Nat.le_of_ble_eq_true rfl, Nat.le_of_ble_eq_true rfl⟩) hS hA2 (fun z2 u2 H1 locs hp2 hPn hS hk => ?_)
  have hP1 := zKeepS hAd hP1 hk
  have hP2 := hPn
  clear hPn hk
  generalize H1 = H at hP1 hP2 hS ⊢
  obtain ⟨hz2, hu2⟩ := hp2
  subst hu2
  have hIV2 := s_thr hIV
  have hz12 : z1 = z2 := by rw [hz2, ← e_text hPI hC hR hcnt hcc]; exact hp1
  refine lv_icmp_eq (tgt := 395) hx hb dL_law_364 (by decide) (fun c_364 => ?_) (fun c_364 => ?_)
  · refine lv_iinc (v := nI (i + 3)) (lv' := [(3, .int (nI (i + 3))), (0, .ref b), (1, .ref (a1 20)), (2, .ref (a2 17))]) hx hb dL_law_395 hl (k := 3) rfl (nI_add i 3) (by decide) rfl (fun ls hl => ?_)
    refine lv_goto (tgt := 28) hx hb dL_law_398 (by decide) ?_
    exact ih (i + 3) _ _ _ _ _ _ _ _ _ _ _ _ _ _ _ _ _ _ _ _ H locs ls (by omega) (by omega) hIV2 hP1 hP2 hS (lv_sub hl [1, 2, 3, 0] rfl)
  · exact absurd hz12 c_364

set_option maxHeartbeats 2000000 in
set_option maxRecDepth 100000 in
theorem law_c10 {p : Program} {e : Env} {s : State} {m : MethodId} {below : List Frame} {meth : Method} {c : Code} (l : Launch) {b L : Nat} {xs : Nat → Int32} (hL : L ≤ 1537) (C0 : lw_At p s m meth c b L xs) {dC : Nat → ClassId} {dI : Nat → Nat → Nat} {cA cZ cJ : ClassId} (hK : va_K (dC, dI) vwCl [(cA, .int), (cZ, .boolean), (cJ, .long)] s) (hN : zN s) {a1 a2 : Nat → Nat} (hW1 : WDist a1) (hW2 : MDist a2) (hAd : ∀ i j, i < 21 → j < 18 → a1 i ≠ a2 j) (h1s : ∀ i, i < 21 → s.heap.size ≤ a1 i) (h2s : ∀ j, j < 18 → s.heap.size ≤ a2 j) : ∀ (i : Nat), i + 3 ≤ L → (ih : ∀ (i0 : Nat) (f : Nat → Int32) (g : Nat → Nat → Int32) (f' : Nat → Int32) (g' : Nat → Nat → Int32) (h : Nat → Int64) (r : Int64) (B tn n nw lc : Nat) (tt t at0 ln le : Nat → Nat) (mi sd : Nat → Bool) (bar : Bool) (as : List (List Nat)) (H : Heap) (locs : List Loc) (ls : Array Slot), i0 = i + 3 → i0 ≤ L → zIV f g f' g' B tn n nw lc tt t at0 ln le mi sd bar as → va_P (dC, dI) vwCl (WS cA a1 f g) H → va_P (dC, dI) vwCl (WM cA cZ cJ a2 f' g' h r) H → va_S (fun q : Nat => s.heap.size ≤ q) s.heap H locs → lv_has ls 4 [(0, .ref b), (1, .ref (a1 20)), (2, .ref (a2 17)), (3, .int (nI i0))] → W p l e room_1 s m #[Value.ref b] below meth c H locs 39 34843 (lw_Z below #[Value.ref b] s) (F0 m 28 ls [])) → ∀ (f : Nat → Int32) (g : Nat → Nat → Int32) (f' : Nat → Int32) (g' : Nat → Nat → Int32) (h : Nat → Int64) (r : Int64) (B tn n nw lc : Nat) (tt t at0 ln le : Nat → Nat) (mi sd : Nat → Bool) (bar : Bool) (as : List (List Nat)) (H : Heap) (locs : List Loc) (ls : Array Slot), i + 3 ≤ L → zIV f g f' g' B tn n nw lc tt t at0 ln le mi sd bar as → va_P (dC, dI) vwCl (WS cA a1 f g) H → va_P (dC, dI) vwCl (WM cA cZ cJ a2 f' g' h r) H → va_S (fun q : Nat => s.heap.size ≤ q) s.heap H locs → lv_has ls 4 [(0, .ref b), (1, .ref (a1 20)), (2, .ref (a2 17)), (3, .int (nI i))] → W p l e room_1 s m #[Value.ref b] below meth c H locs 39 34843 (lw_Z below #[Value.ref b] s) (F0 m 369 ls []) := by
  intro i hi0 ih
  obtain ⟨hx, hb, hr, hml, hown, hts, hX, hbl, hlocks, hgv⟩ := id C0
  have hz : ∀ w ∈ zBig, w.before #[Value.ref b] s = true := fun w hw => hts w (List.mem_filter.mp hw).1
  have hK1 : va_K (dC, dI) vwCl [(cA, .int)] s := hK.sub [0] rfl
  have hbA : ¬ (fun q : Nat => s.heap.size ≤ q) b := Nat.not_le.mpr hbl
  have hA1 : ∀ q, AW a1 q → s.heap.size ≤ q := fun q ⟨k, h1, h2⟩ => by rw [h2]; exact h1s k h1
  have hA2 : ∀ q, AM a2 q → s.heap.size ≤ q := fun q ⟨k, h1, h2⟩ => by rw [h2]; exact h2s k h1
  intro f g f' g' h r B tn n nw lc tt t at0 ln le mi sd bar as H locs ls hi hIV hP1 hP2 hS hl
  obtain ⟨hPI, hPx, hC, hR⟩ := id hIV
  obtain ⟨p1, p2, p3, p4, p5, p6, p7, p8, p9, p10, p11⟩ := id hPI
  obtain ⟨⟨cF0, cF1, cF2, cF3, cF8, cF9, cF11, cF12, cF13, cF18⟩, cTy, ⟨cT1, cT2, cT4, cT5⟩, cCK, cKA⟩ := id hC
  obtain ⟨⟨rF0, rF1, rF3, rF4, rF5, rF6, rF7⟩, rTy, ⟨rT1, rT2, rT6⟩, rAr⟩ := id hR
  obtain ⟨cnt, hcnt, hcc, -⟩ := id cKA
  obtain ⟨kn, cnt2, -, hc2, hkn, hinv0⟩ := cCK bar
  have hinv : kn = true → f (cond bar 22 24) = nI (zPQ B nw lc t at0 ln le mi sd bar).length ∧ zIs (cond bar (g 12) (g 13)) (zPQ B nw lc t at0 ln le mi sd bar) := fun q => ⟨by rw [hc2, (hinv0 q).1], (hinv0 q).2⟩
  refine lv_aload_n hx hb dL_law_369 rfl (lv_at hl 1 rfl) ?_
  refine zk_i (zrV (rest := []) ⟨hx, hb, hml, hown, hz⟩ (c_one l dC dI cA a1 f g hW1 bar cF1 n p4 cF9 B cF18 t (zSlF t le lc) nw p5 cF11 at0 ln (fun k hk => (cT2 k hk).1) (fun k hk => (cT2 k hk).2.1) (fun k hk => ⟨(p8 k hk).1, (p8 k hk).2.2.1⟩) (fun k hk p q1 q2 => zCslok p6 p9 cT5 (cT1 p (by have := (p8 k hk).2.2.1; omega)) (p7 p (by have := (p8 k hk).2.2.1; omega))) p2 cF13 lc p6 cF12 (zSgX mi sd) (fun k hk => by rw [(cT2 k hk).2.2.1, (cT2 k hk).2.2.2]; rfl) (zWF B nw lc t at0 ln le mi sd).1 (zWF B nw lc t at0 ln le mi sd).2 (zFF nw lc t at0 ln le) (zZF nw lc t at0 ln le) rfl rfl (zFm_lt nw (fun w hw l hl => Nat.lt_of_lt_of_le (zSlF_lt p6 hl) p6)) rfl kn hkn hinv) ⟨zcB 0 hz q_437 q_1 q_440 (by decide +kernel) rfl rfl ⟨Nat.le_of_ble_eq_true rfl, Nat.le_of_ble_eq_true rfl⟩, hz _ q_438, hz _ q_439⟩ hK1 hN hP1 20 0 rfl rfl rfl rfl hl.1 rfl (Nat.le_of_ble_eq_true rfl) dL_law_370 ⟨Nat.le_of_ble_eq_true rfl, Nat.le_of_ble_eq_true rfl⟩) hS hA1 (fun z1 u1 H1 locs hp1 hPn hS hk => ?_)
  have hP2 := zKeepM hAd hP2 hk
  have hP1 := hPn
  clear hPn hk
  generalize H1 = H at hP1 hP2 hS ⊢
  refine lv_aload_n hx hb dL_law_373 rfl (lv_at hl 2 rfl) ?_
  refine zk_i (zrV (rest := [.int z1]) ⟨hx, hb, hml, hown, hz⟩ (c_M_one l dC dI cA cZ cJ a2 f' g' h r hW2 B p2 rF0 nw p5 rF4 lc p6 rF5 bar rF7 at0 ln mi sd (fun w hw => (rT2 w hw).1) (fun w hw => (rT2 w hw).2.1) (fun w hw => ⟨(p8 w hw).1, Nat.le_trans (p8 w hw).2.2.1 p4⟩) (fun w hw => (p8 w hw).2.1) (fun w hw => (rT2 w hw).2.2.1) (fun w hw => (rT2 w hw).2.2.2) t (zSlF t le lc) (fun k hk p q1 q2 => zRslok p6 rT6 (rT1 p (by have := (p8 k hk).2.2.1; omega)) (p7 p (by have := (p8 k hk).2.2.1; omega))) (zSgX mi sd) (fun w hw => rfl) (zWF B nw lc t at0 ln le mi sd).1 (zWF B nw lc t at0 ln le mi sd).2 (zFF nw lc t at0 ln le) (zZF nw lc t at0 ln le) rfl rfl rfl) ⟨zcB 0 hz q_593 q_9 q_596 (by decide +kernel) rfl rfl ⟨Nat.le_of_ble_eq_true rfl, Nat.le_of_ble_eq_true rfl⟩, hz _ q_594, hz _ q_595⟩ hK hN hP2 17 6 rfl rfl rfl rfl hl.1 rfl (Nat.le_of_ble_eq_true rfl) dL_law_374 ⟨Nat.le_of_ble_eq_true rfl, Nat.le_of_ble_eq_true rfl⟩) hS hA2 (fun z2 u2 H1 locs hp2 hPn hS hk => ?_)
  have hP1 := zKeepS hAd hP1 hk
  have hP2 := hPn
  clear hPn hk
  generalize H1 = H at hP1 hP2 hS ⊢
  obtain ⟨hz1, f3, g3, hAA, hu1⟩ := hp1
  obtain ⟨f4, g4, h4, r4, hu2, hkf, hkg, A, R, hAR, hz2, hAe⟩ := hp2
  have hAR : (zAQ B nw lc t at0 ln le mi sd bar) = A ++ R := hAR
  have hAA : zAA bar (zPQ B nw lc t at0 ln le mi sd bar) f g f3 g3 := hAA
  obtain ⟨hIV2, hone⟩ := s_one hIV hAR hAe hAA hkf hkg
  subst hu1
  subst hu2
  have hz12 : z1 = z2 := by rw [hz2, ← hone]; exact hz1
  refine lv_icmp_eq (tgt := 395) hx hb dL_law_377 (by decide) (fun c_377 => ?_) (fun c_377 => ?_)
  · refine lv_iinc (v := nI (i + 3)) (lv' := [(3, .int (nI (i + 3))), (0, .ref b), (1, .ref (a1 20)), (2, .ref (a2 17))]) hx hb dL_law_395 hl (k := 3) rfl (nI_add i 3) (by decide) rfl (fun ls hl => ?_)
    refine lv_goto (tgt := 28) hx hb dL_law_398 (by decide) ?_
    exact ih (i + 3) _ _ _ _ _ _ _ _ _ _ _ _ _ _ _ _ _ _ _ _ H locs ls (by omega) (by omega) hIV2 hP1 hP2 hS (lv_sub hl [1, 2, 3, 0] rfl)
  · exact absurd hz12 c_377

set_option maxHeartbeats 2000000 in
set_option maxRecDepth 100000 in
theorem law_c11 {p : Program} {e : Env} {s : State} {m : MethodId} {below : List Frame} {meth : Method} {c : Code} (l : Launch) {b L : Nat} {xs : Nat → Int32} (hL : L ≤ 1537) (C0 : lw_At p s m meth c b L xs) {dC : Nat → ClassId} {dI : Nat → Nat → Nat} {cA cZ cJ : ClassId} (hK : va_K (dC, dI) vwCl [(cA, .int), (cZ, .boolean), (cJ, .long)] s) (hN : zN s) {a1 a2 : Nat → Nat} (hW1 : WDist a1) (hW2 : MDist a2) (hAd : ∀ i j, i < 21 → j < 18 → a1 i ≠ a2 j) (h1s : ∀ i, i < 21 → s.heap.size ≤ a1 i) (h2s : ∀ j, j < 18 → s.heap.size ≤ a2 j) : ∀ (i : Nat), i + 3 ≤ L → (ih : ∀ (i0 : Nat) (f : Nat → Int32) (g : Nat → Nat → Int32) (f' : Nat → Int32) (g' : Nat → Nat → Int32) (h : Nat → Int64) (r : Int64) (B tn n nw lc : Nat) (tt t at0 ln le : Nat → Nat) (mi sd : Nat → Bool) (bar : Bool) (as : List (List Nat)) (H : Heap) (locs : List Loc) (ls : Array Slot), i0 = i + 3 → i0 ≤ L → zIV f g f' g' B tn n nw lc tt t at0 ln le mi sd bar as → va_P (dC, dI) vwCl (WS cA a1 f g) H → va_P (dC, dI) vwCl (WM cA cZ cJ a2 f' g' h r) H → va_S (fun q : Nat => s.heap.size ≤ q) s.heap H locs → lv_has ls 4 [(0, .ref b), (1, .ref (a1 20)), (2, .ref (a2 17)), (3, .int (nI i0))] → W p l e room_1 s m #[Value.ref b] below meth c H locs 39 34843 (lw_Z below #[Value.ref b] s) (F0 m 28 ls [])) → ∀ (f : Nat → Int32) (g : Nat → Nat → Int32) (f' : Nat → Int32) (g' : Nat → Nat → Int32) (h : Nat → Int64) (r : Int64) (B tn n nw lc : Nat) (tt t at0 ln le : Nat → Nat) (mi sd : Nat → Bool) (bar : Bool) (as : List (List Nat)) (H : Heap) (locs : List Loc) (ls : Array Slot), i + 3 ≤ L → zIV f g f' g' B tn n nw lc tt t at0 ln le mi sd bar as → va_P (dC, dI) vwCl (WS cA a1 f g) H → va_P (dC, dI) vwCl (WM cA cZ cJ a2 f' g' h r) H → va_S (fun q : Nat => s.heap.size ≤ q) s.heap H locs → lv_has ls 4 [(0, .ref b), (1, .ref (a1 20)), (2, .ref (a2 17)), (3, .int (nI i))] → W p l e room_1 s m #[Value.ref b] below meth c H locs 39 34843 (lw_Z below #[Value.ref b] s) (F0 m 382 ls []) := by
  intro i hi0 ih
  obtain ⟨hx, hb, hr, hml, hown, hts, hX, hbl, hlocks, hgv⟩ := id C0
  have hz : ∀ w ∈ zBig, w.before #[Value.ref b] s = true := fun w hw => hts w (List.mem_filter.mp hw).1
  have hK1 : va_K (dC, dI) vwCl [(cA, .int)] s := hK.sub [0] rfl
  have hbA : ¬ (fun q : Nat => s.heap.size ≤ q) b := Nat.not_le.mpr hbl
  have hA1 : ∀ q, AW a1 q → s.heap.size ≤ q := fun q ⟨k, h1, h2⟩ => by rw [h2]; exact h1s k h1
  have hA2 : ∀ q, AM a2 q → s.heap.size ≤ q := fun q ⟨k, h1, h2⟩ => by rw [h2]; exact h2s k h1
  intro f g f' g' h r B tn n nw lc tt t at0 ln le mi sd bar as H locs ls hi hIV hP1 hP2 hS hl
  obtain ⟨hPI, hPx, hC, hR⟩ := id hIV
  obtain ⟨p1, p2, p3, p4, p5, p6, p7, p8, p9, p10, p11⟩ := id hPI
  obtain ⟨⟨cF0, cF1, cF2, cF3, cF8, cF9, cF11, cF12, cF13, cF18⟩, cTy, ⟨cT1, cT2, cT4, cT5⟩, cCK, cKA⟩ := id hC
  obtain ⟨⟨rF0, rF1, rF3, rF4, rF5, rF6, rF7⟩, rTy, ⟨rT1, rT2, rT6⟩, rAr⟩ := id hR
  obtain ⟨cnt, hcnt, hcc, -⟩ := id cKA
  obtain ⟨kn, cnt2, -, hc2, hkn, hinv0⟩ := cCK bar
  have hinv : kn = true → f (cond bar 22 24) = nI (zPQ B nw lc t at0 ln le mi sd bar).length ∧ zIs (cond bar (g 12) (g 13)) (zPQ B nw lc t at0 ln le mi sd bar) := fun q => ⟨by rw [hc2, (hinv0 q).1], (hinv0 q).2⟩
  refine lv_aload_n hx hb dL_law_382 rfl (lv_at hl 1 rfl) ?_
  refine zq_i (zrV (rest := []) ⟨hx, hb, hml, hown, hz⟩ (c_fixed l dC dI cA a1 f g as.length p10 cF2 bar cF1 cnt hcnt hcc lc p6 cF12) ⟨zcB 0 hz q_441 q_1 q_444 (by decide +kernel) rfl rfl ⟨Nat.le_of_ble_eq_true rfl, Nat.le_of_ble_eq_true rfl⟩, hz _ q_442, hz _ q_443⟩ hK1 hN hP1 20 0 rfl rfl rfl rfl hl.1 rfl (Nat.le_of_ble_eq_true rfl) dL_law_383 ⟨Nat.le_of_ble_eq_true rfl, Nat.le_of_ble_eq_true rfl⟩) (fun z1 hp1 => ?_)
  refine lv_aload_n hx hb dL_law_386 rfl (lv_at hl 2 rfl) ?_
  refine zk_i (zrV (rest := [.int z1]) ⟨hx, hb, hml, hown, hz⟩ (c_M_fixed l dC dI cA cZ cJ a2 f' g' h r hW2 as.length p10 rF6 lc p6 rF5) ⟨zcB 0 hz q_629 q_9 q_632 (by decide +kernel) rfl rfl ⟨Nat.le_of_ble_eq_true rfl, Nat.le_of_ble_eq_true rfl⟩, hz _ q_630, hz _ q_631⟩ hK hN hP2 17 6 rfl rfl rfl rfl hl.1 rfl (Nat.le_of_ble_eq_true rfl) dL_law_387 ⟨Nat.le_of_ble_eq_true rfl, Nat.le_of_ble_eq_true rfl⟩) hS hA2 (fun z2 u2 H1 locs hp2 hPn hS hk => ?_)
  have hP1 := zKeepS hAd hP1 hk
  have hP2 := hPn
  clear hPn hk
  generalize H1 = H at hP1 hP2 hS ⊢
  obtain ⟨hz2, hu2⟩ := hp2
  subst hu2
  have hIV2 := s_thr hIV
  have hz12 : z1 = z2 := by rw [hz2, ← e_fixed hPI hC hR hcnt hcc]; exact hp1
  refine lv_icmp_eq (tgt := 395) hx hb dL_law_390 (by decide) (fun c_390 => ?_) (fun c_390 => ?_)
  · refine lv_iinc (v := nI (i + 3)) (lv' := [(3, .int (nI (i + 3))), (0, .ref b), (1, .ref (a1 20)), (2, .ref (a2 17))]) hx hb dL_law_395 hl (k := 3) rfl (nI_add i 3) (by decide) rfl (fun ls hl => ?_)
    refine lv_goto (tgt := 28) hx hb dL_law_398 (by decide) ?_
    exact ih (i + 3) _ _ _ _ _ _ _ _ _ _ _ _ _ _ _ _ _ _ _ _ H locs ls (by omega) (by omega) hIV2 hP1 hP2 hS (lv_sub hl [1, 2, 3, 0] rfl)
  · exact absurd hz12 c_390

set_option maxHeartbeats 2000000 in
set_option maxRecDepth 100000 in
theorem law_c2 {p : Program} {e : Env} {s : State} {m : MethodId} {below : List Frame} {meth : Method} {c : Code} (l : Launch) {b L : Nat} {xs : Nat → Int32} (hL : L ≤ 1537) (C0 : lw_At p s m meth c b L xs) {dC : Nat → ClassId} {dI : Nat → Nat → Nat} {cA cZ cJ : ClassId} (hK : va_K (dC, dI) vwCl [(cA, .int), (cZ, .boolean), (cJ, .long)] s) (hN : zN s) {a1 a2 : Nat → Nat} (hW1 : WDist a1) (hW2 : MDist a2) (hAd : ∀ i j, i < 21 → j < 18 → a1 i ≠ a2 j) (h1s : ∀ i, i < 21 → s.heap.size ≤ a1 i) (h2s : ∀ j, j < 18 → s.heap.size ≤ a2 j) : ∀ (i : Nat), i + 3 ≤ L → (ih : ∀ (i0 : Nat) (f : Nat → Int32) (g : Nat → Nat → Int32) (f' : Nat → Int32) (g' : Nat → Nat → Int32) (h : Nat → Int64) (r : Int64) (B tn n nw lc : Nat) (tt t at0 ln le : Nat → Nat) (mi sd : Nat → Bool) (bar : Bool) (as : List (List Nat)) (H : Heap) (locs : List Loc) (ls : Array Slot), i0 = i + 3 → i0 ≤ L → zIV f g f' g' B tn n nw lc tt t at0 ln le mi sd bar as → va_P (dC, dI) vwCl (WS cA a1 f g) H → va_P (dC, dI) vwCl (WM cA cZ cJ a2 f' g' h r) H → va_S (fun q : Nat => s.heap.size ≤ q) s.heap H locs → lv_has ls 4 [(0, .ref b), (1, .ref (a1 20)), (2, .ref (a2 17)), (3, .int (nI i0))] → W p l e room_1 s m #[Value.ref b] below meth c H locs 39 34843 (lw_Z below #[Value.ref b] s) (F0 m 28 ls [])) → ∀ (f : Nat → Int32) (g : Nat → Nat → Int32) (f' : Nat → Int32) (g' : Nat → Nat → Int32) (h : Nat → Int64) (r : Int64) (B tn n nw lc : Nat) (tt t at0 ln le : Nat → Nat) (mi sd : Nat → Bool) (bar : Bool) (as : List (List Nat)) (H : Heap) (locs : List Loc) (ls : Array Slot), i + 3 ≤ L → zIV f g f' g' B tn n nw lc tt t at0 ln le mi sd bar as → va_P (dC, dI) vwCl (WS cA a1 f g) H → va_P (dC, dI) vwCl (WM cA cZ cJ a2 f' g' h r) H → va_S (fun q : Nat => s.heap.size ≤ q) s.heap H locs → lv_has ls 4 [(0, .ref b), (1, .ref (a1 20)), (2, .ref (a2 17)), (3, .int (nI i))] → W p l e room_1 s m #[Value.ref b] below meth c H locs 39 34843 (lw_Z below #[Value.ref b] s) (F0 m 140 ls []) := by
  intro i hi0 ih
  obtain ⟨hx, hb, hr, hml, hown, hts, hX, hbl, hlocks, hgv⟩ := id C0
  have hz : ∀ w ∈ zBig, w.before #[Value.ref b] s = true := fun w hw => hts w (List.mem_filter.mp hw).1
  have hK1 : va_K (dC, dI) vwCl [(cA, .int)] s := hK.sub [0] rfl
  have hbA : ¬ (fun q : Nat => s.heap.size ≤ q) b := Nat.not_le.mpr hbl
  have hA1 : ∀ q, AW a1 q → s.heap.size ≤ q := fun q ⟨k, h1, h2⟩ => by rw [h2]; exact h1s k h1
  have hA2 : ∀ q, AM a2 q → s.heap.size ≤ q := fun q ⟨k, h1, h2⟩ => by rw [h2]; exact h2s k h1
  intro f g f' g' h r B tn n nw lc tt t at0 ln le mi sd bar as H locs ls hi hIV hP1 hP2 hS hl
  obtain ⟨hPI, hPx, hC, hR⟩ := id hIV
  obtain ⟨p1, p2, p3, p4, p5, p6, p7, p8, p9, p10, p11⟩ := id hPI
  obtain ⟨⟨cF0, cF1, cF2, cF3, cF8, cF9, cF11, cF12, cF13, cF18⟩, cTy, ⟨cT1, cT2, cT4, cT5⟩, cCK, cKA⟩ := id hC
  obtain ⟨⟨rF0, rF1, rF3, rF4, rF5, rF6, rF7⟩, rTy, ⟨rT1, rT2, rT6⟩, rAr⟩ := id hR
  obtain ⟨cnt, hcnt, hcc, -⟩ := id cKA
  obtain ⟨kn, cnt2, -, hc2, hkn, hinv0⟩ := cCK bar
  have hinv : kn = true → f (cond bar 22 24) = nI (zPQ B nw lc t at0 ln le mi sd bar).length ∧ zIs (cond bar (g 12) (g 13)) (zPQ B nw lc t at0 ln le mi sd bar) := fun q => ⟨by rw [hc2, (hinv0 q).1], (hinv0 q).2⟩
  refine lv_aload_n hx hb dL_law_140 rfl (lv_at hl 1 rfl) ?_
  refine lv_aload_n hx hb dL_law_141 rfl (lv_at hl 0 rfl) ?_
  refine lv_iload_n hx hb dL_law_142 rfl (lv_at hl 3 rfl) ?_
  refine lv_iconst (v := nI 1) hx hb dL_law_143 (by decide) ?_
  refine lv_iadd hx hb dL_law_144 ?_
  refine zt (nI_add _ _) ?_
  refine va_sld hx hb hX hbl hbA hS (vp_in_nI (by omega) (by omega)) dL_law_145 ?_
  refine zt (y := xs (i + 1)) (by rw [nI_clamp (by omega)]) ?_
  refine lv_if_eq (tgt := 153) hx hb dL_law_146 (by decide) (fun c_146 => ?_) (fun c_146 => ?_)
  · refine lv_iconst (v := nI 0) hx hb dL_law_153 (by decide) ?_
    refine zt (y := zB (!decide (xs (i + 1) = 0))) (by rw [decide_eq_true c_146]; rfl) ?_
    refine zk_v (zrV (rest := []) ⟨hx, hb, hml, hown, hz⟩ (c_bar l dC dI cA a1 f g hW1 (!decide (xs (i + 1) = 0))) ⟨zcB 1 hz q_268 q_1 q_271 (by decide +kernel) rfl rfl ⟨Nat.le_of_ble_eq_true rfl, Nat.le_of_ble_eq_true rfl⟩, hz _ q_269, hz _ q_270⟩ hK1 hN hP1 20 0 rfl rfl rfl rfl hl.1 rfl (Nat.le_of_ble_eq_true rfl) dL_law_154 ⟨Nat.le_of_ble_eq_true rfl, Nat.le_of_ble_eq_true rfl⟩) hS hA1 (fun u1 H1 locs hp1 hPn hS hk => ?_)
    have hP2 := zKeepM hAd hP2 hk
    have hP1 := hPn
    clear hPn hk
    generalize H1 = H at hP1 hP2 hS ⊢
    refine lv_aload_n hx hb dL_law_157 rfl (lv_at hl 2 rfl) ?_
    refine lv_aload_n hx hb dL_law_158 rfl (lv_at hl 0 rfl) ?_
    refine lv_iload_n hx hb dL_law_159 rfl (lv_at hl 3 rfl) ?_
    refine lv_iconst (v := nI 1) hx hb dL_law_160 (by decide) ?_
    refine lv_iadd hx hb dL_law_161 ?_
    refine zt (nI_add _ _) ?_
    refine va_sld hx hb hX hbl hbA hS (vp_in_nI (by omega) (by omega)) dL_law_162 ?_
    refine zt (y := xs (i + 1)) (by rw [nI_clamp (by omega)]) ?_
    refine lv_if_eq (tgt := 170) hx hb dL_law_163 (by decide) (fun c_163 => ?_) (fun c_163 => ?_)
    · refine lv_iconst (v := nI 0) hx hb dL_law_170 (by decide) ?_
      refine zt (y := zB (!decide (xs (i + 1) = 0))) (by rw [decide_eq_true c_163]; rfl) ?_
      refine zk_v (zrV (rest := []) ⟨hx, hb, hml, hown, hz⟩ (c_M_bar l dC dI cA cZ cJ a2 f' g' h r hW2 (!decide (xs (i + 1) = 0))) ⟨zcB 1 hz q_564 q_9 q_567 (by decide +kernel) rfl rfl ⟨Nat.le_of_ble_eq_true rfl, Nat.le_of_ble_eq_true rfl⟩, hz _ q_565, hz _ q_566⟩ hK hN hP2 17 6 rfl rfl rfl rfl hl.1 rfl (Nat.le_of_ble_eq_true rfl) dL_law_171 ⟨Nat.le_of_ble_eq_true rfl, Nat.le_of_ble_eq_true rfl⟩) hS hA2 (fun u2 H1 locs hp2 hPn hS hk => ?_)
      have hP1 := zKeepS hAd hP1 hk
      have hP2 := hPn
      clear hPn hk
      generalize H1 = H at hP1 hP2 hS ⊢
      subst hp1
      subst hp2
      have hIV2 := s_bar (!decide (xs (i + 1) = 0)) hIV
      refine lv_goto (tgt := 395) hx hb dL_law_174 (by decide) ?_
      refine lv_iinc (v := nI (i + 3)) (lv' := [(3, .int (nI (i + 3))), (0, .ref b), (1, .ref (a1 20)), (2, .ref (a2 17))]) hx hb dL_law_395 hl (k := 3) rfl (nI_add i 3) (by decide) rfl (fun ls hl => ?_)
      refine lv_goto (tgt := 28) hx hb dL_law_398 (by decide) ?_
      exact ih (i + 3) _ _ _ _ _ _ _ _ _ _ _ _ _ _ _ _ _ _ _ _ H locs ls (by omega) (by omega) hIV2 hP1 hP2 hS (lv_sub hl [1, 2, 3, 0] rfl)
    · refine lv_iconst (v := nI 1) hx hb dL_law_166 (by decide) ?_
      refine zt (y := zB (!decide (xs (i + 1) = 0))) (by rw [decide_eq_false c_163]; rfl) ?_
      refine lv_goto (tgt := 171) hx hb dL_law_167 (by decide) ?_
      refine zk_v (zrV (rest := []) ⟨hx, hb, hml, hown, hz⟩ (c_M_bar l dC dI cA cZ cJ a2 f' g' h r hW2 (!decide (xs (i + 1) = 0))) ⟨zcB 1 hz q_564 q_9 q_567 (by decide +kernel) rfl rfl ⟨Nat.le_of_ble_eq_true rfl, Nat.le_of_ble_eq_true rfl⟩, hz _ q_565, hz _ q_566⟩ hK hN hP2 17 6 rfl rfl rfl rfl hl.1 rfl (Nat.le_of_ble_eq_true rfl) dL_law_171 ⟨Nat.le_of_ble_eq_true rfl, Nat.le_of_ble_eq_true rfl⟩) hS hA2 (fun u2 H1 locs hp2 hPn hS hk => ?_)
      have hP1 := zKeepS hAd hP1 hk
      have hP2 := hPn
      clear hPn hk
      generalize H1 = H at hP1 hP2 hS ⊢
      subst hp1
      subst hp2
      have hIV2 := s_bar (!decide (xs (i + 1) = 0)) hIV
      refine lv_goto (tgt := 395) hx hb dL_law_174 (by decide) ?_
      refine lv_iinc (v := nI (i + 3)) (lv' := [(3, .int (nI (i + 3))), (0, .ref b), (1, .ref (a1 20)), (2, .ref (a2 17))]) hx hb dL_law_395 hl (k := 3) rfl (nI_add i 3) (by decide) rfl (fun ls hl => ?_)
      refine lv_goto (tgt := 28) hx hb dL_law_398 (by decide) ?_
      exact ih (i + 3) _ _ _ _ _ _ _ _ _ _ _ _ _ _ _ _ _ _ _ _ H locs ls (by omega) (by omega) hIV2 hP1 hP2 hS (lv_sub hl [1, 2, 3, 0] rfl)
  · refine lv_iconst (v := nI 1) hx hb dL_law_149 (by decide) ?_
    refine zt (y := zB (!decide (xs (i + 1) = 0))) (by rw [decide_eq_false c_146]; rfl) ?_
    refine lv_goto (tgt := 154) hx hb dL_law_150 (by decide) ?_
    refine zk_v (zrV (rest := []) ⟨hx, hb, hml, hown, hz⟩ (c_bar l dC dI cA a1 f g hW1 (!decide (xs (i + 1) = 0))) ⟨zcB 1 hz q_268 q_1 q_271 (by decide +kernel) rfl rfl ⟨Nat.le_of_ble_eq_true rfl, Nat.le_of_ble_eq_true rfl⟩, hz _ q_269, hz _ q_270⟩ hK1 hN hP1 20 0 rfl rfl rfl rfl hl.1 rfl (Nat.le_of_ble_eq_true rfl) dL_law_154 ⟨Nat.le_of_ble_eq_true rfl, Nat.le_of_ble_eq_true rfl⟩) hS hA1 (fun u1 H1 locs hp1 hPn hS hk => ?_)
    have hP2 := zKeepM hAd hP2 hk
    have hP1 := hPn
    clear hPn hk
    generalize H1 = H at hP1 hP2 hS ⊢
    refine lv_aload_n hx hb dL_law_157 rfl (lv_at hl 2 rfl) ?_
    refine lv_aload_n hx hb dL_law_158 rfl (lv_at hl 0 rfl) ?_
    refine lv_iload_n hx hb dL_law_159 rfl (lv_at hl 3 rfl) ?_
    refine lv_iconst (v := nI 1) hx hb dL_law_160 (by decide) ?_
    refine lv_iadd hx hb dL_law_161 ?_
    refine zt (nI_add _ _) ?_
    refine va_sld hx hb hX hbl hbA hS (vp_in_nI (by omega) (by omega)) dL_law_162 ?_
    refine zt (y := xs (i + 1)) (by rw [nI_clamp (by omega)]) ?_
    refine lv_if_eq (tgt := 170) hx hb dL_law_163 (by decide) (fun c_163 => ?_) (fun c_163 => ?_)
    · refine lv_iconst (v := nI 0) hx hb dL_law_170 (by decide) ?_
      refine zt (y := zB (!decide (xs (i + 1) = 0))) (by rw [decide_eq_true c_163]; rfl) ?_
      refine zk_v (zrV (rest := []) ⟨hx, hb, hml, hown, hz⟩ (c_M_bar l dC dI cA cZ cJ a2 f' g' h r hW2 (!decide (xs (i + 1) = 0))) ⟨zcB 1 hz q_564 q_9 q_567 (by decide +kernel) rfl rfl ⟨Nat.le_of_ble_eq_true rfl, Nat.le_of_ble_eq_true rfl⟩, hz _ q_565, hz _ q_566⟩ hK hN hP2 17 6 rfl rfl rfl rfl hl.1 rfl (Nat.le_of_ble_eq_true rfl) dL_law_171 ⟨Nat.le_of_ble_eq_true rfl, Nat.le_of_ble_eq_true rfl⟩) hS hA2 (fun u2 H1 locs hp2 hPn hS hk => ?_)
      have hP1 := zKeepS hAd hP1 hk
      have hP2 := hPn
      clear hPn hk
      generalize H1 = H at hP1 hP2 hS ⊢
      subst hp1
      subst hp2
      have hIV2 := s_bar (!decide (xs (i + 1) = 0)) hIV
      refine lv_goto (tgt := 395) hx hb dL_law_174 (by decide) ?_
      refine lv_iinc (v := nI (i + 3)) (lv' := [(3, .int (nI (i + 3))), (0, .ref b), (1, .ref (a1 20)), (2, .ref (a2 17))]) hx hb dL_law_395 hl (k := 3) rfl (nI_add i 3) (by decide) rfl (fun ls hl => ?_)
      refine lv_goto (tgt := 28) hx hb dL_law_398 (by decide) ?_
      exact ih (i + 3) _ _ _ _ _ _ _ _ _ _ _ _ _ _ _ _ _ _ _ _ H locs ls (by omega) (by omega) hIV2 hP1 hP2 hS (lv_sub hl [1, 2, 3, 0] rfl)
    · refine lv_iconst (v := nI 1) hx hb dL_law_166 (by decide) ?_
      refine zt (y := zB (!decide (xs (i + 1) = 0))) (by rw [decide_eq_false c_163]; rfl) ?_
      refine lv_goto (tgt := 171) hx hb dL_law_167 (by decide) ?_
      refine zk_v (zrV (rest := []) ⟨hx, hb, hml, hown, hz⟩ (c_M_bar l dC dI cA cZ cJ a2 f' g' h r hW2 (!decide (xs (i + 1) = 0))) ⟨zcB 1 hz q_564 q_9 q_567 (by decide +kernel) rfl rfl ⟨Nat.le_of_ble_eq_true rfl, Nat.le_of_ble_eq_true rfl⟩, hz _ q_565, hz _ q_566⟩ hK hN hP2 17 6 rfl rfl rfl rfl hl.1 rfl (Nat.le_of_ble_eq_true rfl) dL_law_171 ⟨Nat.le_of_ble_eq_true rfl, Nat.le_of_ble_eq_true rfl⟩) hS hA2 (fun u2 H1 locs hp2 hPn hS hk => ?_)
      have hP1 := zKeepS hAd hP1 hk
      have hP2 := hPn
      clear hPn hk
      generalize H1 = H at hP1 hP2 hS ⊢
      subst hp1
      subst hp2
      have hIV2 := s_bar (!decide (xs (i + 1) = 0)) hIV
      refine lv_goto (tgt := 395) hx hb dL_law_174 (by decide) ?_
      refine lv_iinc (v := nI (i + 3)) (lv' := [(3, .int (nI (i + 3))), (0, .ref b), (1, .ref (a1 20)), (2, .ref (a2 17))]) hx hb dL_law_395 hl (k := 3) rfl (nI_add i 3) (by decide) rfl (fun ls hl => ?_)
      refine lv_goto (tgt := 28) hx hb dL_law_398 (by decide) ?_
      exact ih (i + 3) _ _ _ _ _ _ _ _ _ _ _ _ _ _ _ _ _ _ _ _ H locs ls (by omega) (by omega) hIV2 hP1 hP2 hS (lv_sub hl [1, 2, 3, 0] rfl)

set_option maxHeartbeats 2000000 in
set_option maxRecDepth 100000 in
theorem law_loop {p : Program} {e : Env} {s : State} {m : MethodId} {below : List Frame} {meth : Method} {c : Code} (l : Launch) {b L : Nat} {xs : Nat → Int32} (hL : L ≤ 1537) (C0 : lw_At p s m meth c b L xs) {dC : Nat → ClassId} {dI : Nat → Nat → Nat} {cA cZ cJ : ClassId} (hK : va_K (dC, dI) vwCl [(cA, .int), (cZ, .boolean), (cJ, .long)] s) (hN : zN s) {a1 a2 : Nat → Nat} (hW1 : WDist a1) (hW2 : MDist a2) (hAd : ∀ i j, i < 21 → j < 18 → a1 i ≠ a2 j) (h1s : ∀ i, i < 21 → s.heap.size ≤ a1 i) (h2s : ∀ j, j < 18 → s.heap.size ≤ a2 j) : ∀ (k0 i : Nat) (f : Nat → Int32) (g : Nat → Nat → Int32) (f' : Nat → Int32) (g' : Nat → Nat → Int32) (h : Nat → Int64) (r : Int64) (B tn n nw lc : Nat) (tt t at0 ln le : Nat → Nat) (mi sd : Nat → Bool) (bar : Bool) (as : List (List Nat)) (H : Heap) (locs : List Loc) (ls : Array Slot), L + 3 ≤ i + k0 → i ≤ L + 2 → zIV f g f' g' B tn n nw lc tt t at0 ln le mi sd bar as → va_P (dC, dI) vwCl (WS cA a1 f g) H → va_P (dC, dI) vwCl (WM cA cZ cJ a2 f' g' h r) H → va_S (fun q : Nat => s.heap.size ≤ q) s.heap H locs → lv_has ls 4 [(0, .ref b), (1, .ref (a1 20)), (2, .ref (a2 17)), (3, .int (nI i))] → W p l e room_1 s m #[Value.ref b] below meth c H locs 39 34843 (lw_Z below #[Value.ref b] s) (F0 m 28 ls []) := by
  obtain ⟨hx, hb, hr, hml, hown, hts, hX, hbl, hlocks, hgv⟩ := id C0
  have hz : ∀ w ∈ zBig, w.before #[Value.ref b] s = true := fun w hw => hts w (List.mem_filter.mp hw).1
  have hK1 : va_K (dC, dI) vwCl [(cA, .int)] s := hK.sub [0] rfl
  have hbA : ¬ (fun q : Nat => s.heap.size ≤ q) b := Nat.not_le.mpr hbl
  have hA1 : ∀ q, AW a1 q → s.heap.size ≤ q := fun q ⟨k, h1, h2⟩ => by rw [h2]; exact h1s k h1
  have hA2 : ∀ q, AM a2 q → s.heap.size ≤ q := fun q ⟨k, h1, h2⟩ => by rw [h2]; exact h2s k h1
  intro k0
  induction k0 with
  | zero => intro i f g f' g' h r B tn n nw lc tt t at0 ln le mi sd bar as H locs ls q1 q2; omega
  | succ k0 ih =>
    intro i f g f' g' h r B tn n nw lc tt t at0 ln le mi sd bar as H locs ls hk0 hi hIV hP1 hP2 hS hl
    refine lv_iload_n hx hb dL_law_28 rfl (lv_at hl 3 rfl) ?_
    refine lv_aload_n hx hb dL_law_29 rfl (lv_at hl 0 rfl) ?_
    refine va_slen hx hb hX hbl hbA hS dL_law_30 ?_
    refine zt (y := nI L) rfl ?_
    refine lv_iconst (v := nI 3) hx hb dL_law_31 (by decide) ?_
    refine lv_isub hx hb dL_law_32 ?_
    refine zt (y := nI L - nI 3) rfl ?_
    refine lv_icmp_gt (tgt := 401) hx hb dL_law_33 (by decide) (fun c_33 => ?_) (fun c_33 => ?_)
    · refine lv_iconst (v := nI 1) hx hb dL_law_401 (by decide) ?_
      refine zt (y := 1) rfl ?_
      refine va_forget (fun q hq => hS.2.2 q hq) ?_
      refine W.widen (k := 600000) (n := 7302250) (Nat.le_of_ble_eq_true rfl) (Nat.le_of_ble_eq_true rfl) ?_
      exact lw_ret hx hb hr hlocks dL_law_402
    · have c_33 : i + 3 ≤ L := by
        have h := mt Int32.lt_iff_toInt_lt.mpr c_33
        rw [pk_sub_toInt (by omega) (by decide), nI_toInt (by omega)] at h
        omega
      refine lv_aload_n hx hb dL_law_36 rfl (lv_at hl 0 rfl) ?_
      refine lv_iload_n hx hb dL_law_37 rfl (lv_at hl 3 rfl) ?_
      refine va_sld hx hb hX hbl hbA hS (vp_in_nI (by omega) (by omega)) dL_law_38 ?_
      refine zt (y := xs i) (by rw [nI_clamp (by omega)]) ?_
      refine lv_bipush (v := nI 15) hx hb dL_law_39 (by decide) ?_
      refine lv_iand hx hb dL_law_41 ?_
      obtain ⟨k9, hk9, e9⟩ := zSw15 (xs i)
      rw [e9]
      by_cases hk12 : k9 < 12
      · rcases (show k9 = 0 ∨ k9 = 1 ∨ k9 = 2 ∨ k9 = 3 ∨ k9 = 4 ∨ k9 = 5 ∨ k9 = 6 ∨ k9 = 7 ∨ k9 = 8 ∨ k9 = 9 ∨ k9 = 10 ∨ k9 = 11 by omega) with rfl | rfl | rfl | rfl | rfl | rfl | rfl | rfl | rfl | rfl | rfl | rfl
        · refine lv_tableIn (tgt := 104) hx hb dL_law_42 (by decide) (by decide) rfl (by decide) ?_
          exact law_c0 l hL C0 hK hN hW1 hW2 hAd h1s h2s i (by omega) (fun i0 f g f' g' h r B tn n nw lc tt t at0 ln le mi sd bar as H locs ls e1 e2 => ih i0 f g f' g' h r B tn n nw lc tt t at0 ln le mi sd bar as H locs ls (by omega) (by omega)) f g f' g' h r B tn n nw lc tt t at0 ln le mi sd bar as H locs ls (by omega) hIV hP1 hP2 hS (lv_sub hl [0, 1, 2, 3] rfl)
        · refine lv_tableIn (tgt := 127) hx hb dL_law_42 (by decide) (by decide) rfl (by decide) ?_
          exact law_c1 l hL C0 hK hN hW1 hW2 hAd h1s h2s i (by omega) (fun i0 f g f' g' h r B tn n nw lc tt t at0 ln le mi sd bar as H locs ls e1 e2 => ih i0 f g f' g' h r B tn n nw lc tt t at0 ln le mi sd bar as H locs ls (by omega) (by omega)) f g f' g' h r B tn n nw lc tt t at0 ln le mi sd bar as H locs ls (by omega) hIV hP1 hP2 hS (lv_sub hl [0, 1, 2, 3] rfl)
        · refine lv_tableIn (tgt := 140) hx hb dL_law_42 (by decide) (by decide) rfl (by decide) ?_
          exact law_c2 l hL C0 hK hN hW1 hW2 hAd h1s h2s i (by omega) (fun i0 f g f' g' h r B tn n nw lc tt t at0 ln le mi sd bar as H locs ls e1 e2 => ih i0 f g f' g' h r B tn n nw lc tt t at0 ln le mi sd bar as H locs ls (by omega) (by omega)) f g f' g' h r B tn n nw lc tt t at0 ln le mi sd bar as H locs ls (by omega) hIV hP1 hP2 hS (lv_sub hl [0, 1, 2, 3] rfl)
        · refine lv_tableIn (tgt := 177) hx hb dL_law_42 (by decide) (by decide) rfl (by decide) ?_
          exact law_c3 l hL C0 hK hN hW1 hW2 hAd h1s h2s i (by omega) (fun i0 f g f' g' h r B tn n nw lc tt t at0 ln le mi sd bar as H locs ls e1 e2 => ih i0 f g f' g' h r B tn n nw lc tt t at0 ln le mi sd bar as H locs ls (by omega) (by omega)) f g f' g' h r B tn n nw lc tt t at0 ln le mi sd bar as H locs ls (by omega) hIV hP1 hP2 hS (lv_sub hl [0, 1, 2, 3] rfl)
        · refine lv_tableIn (tgt := 190) hx hb dL_law_42 (by decide) (by decide) rfl (by decide) ?_
          exact law_c4 l hL C0 hK hN hW1 hW2 hAd h1s h2s i (by omega) (fun i0 f g f' g' h r B tn n nw lc tt t at0 ln le mi sd bar as H locs ls e1 e2 => ih i0 f g f' g' h r B tn n nw lc tt t at0 ln le mi sd bar as H locs ls (by omega) (by omega)) f g f' g' h r B tn n nw lc tt t at0 ln le mi sd bar as H locs ls (by omega) hIV hP1 hP2 hS (lv_sub hl [0, 1, 2, 3] rfl)
        · refine lv_tableIn (tgt := 213) hx hb dL_law_42 (by decide) (by decide) rfl (by decide) ?_
          exact law_c5 l hL C0 hK hN hW1 hW2 hAd h1s h2s i (by omega) (fun i0 f g f' g' h r B tn n nw lc tt t at0 ln le mi sd bar as H locs ls e1 e2 => ih i0 f g f' g' h r B tn n nw lc tt t at0 ln le mi sd bar as H locs ls (by omega) (by omega)) f g f' g' h r B tn n nw lc tt t at0 ln le mi sd bar as H locs ls (by omega) hIV hP1 hP2 hS (lv_sub hl [0, 1, 2, 3] rfl)
        · refine lv_tableIn (tgt := 236) hx hb dL_law_42 (by decide) (by decide) rfl (by decide) ?_
          exact law_c6 l hL C0 hK hN hW1 hW2 hAd h1s h2s i (by omega) (fun i0 f g f' g' h r B tn n nw lc tt t at0 ln le mi sd bar as H locs ls e1 e2 => ih i0 f g f' g' h r B tn n nw lc tt t at0 ln le mi sd bar as H locs ls (by omega) (by omega)) f g f' g' h r B tn n nw lc tt t at0 ln le mi sd bar as H locs ls (by omega) hIV hP1 hP2 hS (lv_sub hl [0, 1, 2, 3] rfl)
        · refine lv_tableIn (tgt := 269) hx hb dL_law_42 (by decide) (by decide) rfl (by decide) ?_
          exact law_c7 l hL C0 hK hN hW1 hW2 hAd h1s h2s i (by omega) (fun i0 f g f' g' h r B tn n nw lc tt t at0 ln le mi sd bar as H locs ls e1 e2 => ih i0 f g f' g' h r B tn n nw lc tt t at0 ln le mi sd bar as H locs ls (by omega) (by omega)) f g f' g' h r B tn n nw lc tt t at0 ln le mi sd bar as H locs ls (by omega) hIV hP1 hP2 hS (lv_sub hl [0, 1, 2, 3] rfl)
        · refine lv_tableIn (tgt := 303) hx hb dL_law_42 (by decide) (by decide) rfl (by decide) ?_
          exact law_c8 l hL C0 hK hN hW1 hW2 hAd h1s h2s i (by omega) (fun i0 f g f' g' h r B tn n nw lc tt t at0 ln le mi sd bar as H locs ls e1 e2 => ih i0 f g f' g' h r B tn n nw lc tt t at0 ln le mi sd bar as H locs ls (by omega) (by omega)) f g f' g' h r B tn n nw lc tt t at0 ln le mi sd bar as H locs ls (by omega) hIV hP1 hP2 hS (lv_sub hl [0, 1, 2, 3] rfl)
        · refine lv_tableIn (tgt := 336) hx hb dL_law_42 (by decide) (by decide) rfl (by decide) ?_
          exact law_c9 l hL C0 hK hN hW1 hW2 hAd h1s h2s i (by omega) (fun i0 f g f' g' h r B tn n nw lc tt t at0 ln le mi sd bar as H locs ls e1 e2 => ih i0 f g f' g' h r B tn n nw lc tt t at0 ln le mi sd bar as H locs ls (by omega) (by omega)) f g f' g' h r B tn n nw lc tt t at0 ln le mi sd bar as H locs ls (by omega) hIV hP1 hP2 hS (lv_sub hl [0, 1, 2, 3] rfl)
        · refine lv_tableIn (tgt := 369) hx hb dL_law_42 (by decide) (by decide) rfl (by decide) ?_
          exact law_c10 l hL C0 hK hN hW1 hW2 hAd h1s h2s i (by omega) (fun i0 f g f' g' h r B tn n nw lc tt t at0 ln le mi sd bar as H locs ls e1 e2 => ih i0 f g f' g' h r B tn n nw lc tt t at0 ln le mi sd bar as H locs ls (by omega) (by omega)) f g f' g' h r B tn n nw lc tt t at0 ln le mi sd bar as H locs ls (by omega) hIV hP1 hP2 hS (lv_sub hl [0, 1, 2, 3] rfl)
        · refine lv_tableIn (tgt := 382) hx hb dL_law_42 (by decide) (by decide) rfl (by decide) ?_
          exact law_c11 l hL C0 hK hN hW1 hW2 hAd h1s h2s i (by omega) (fun i0 f g f' g' h r B tn n nw lc tt t at0 ln le mi sd bar as H locs ls e1 e2 => ih i0 f g f' g' h r B tn n nw lc tt t at0 ln le mi sd bar as H locs ls (by omega) (by omega)) f g f' g' h r B tn n nw lc tt t at0 ln le mi sd bar as H locs ls (by omega) hIV hP1 hP2 hS (lv_sub hl [0, 1, 2, 3] rfl)
      · refine lv_tableOut (tgt := 395) hx hb dL_law_42 (Or.inr (by rw [nI_toInt (by omega)]; omega)) (by decide) ?_
        have hIV2 := hIV
        refine lv_iinc (v := nI (i + 3)) (lv' := [(3, .int (nI (i + 3))), (0, .ref b), (1, .ref (a1 20)), (2, .ref (a2 17))]) hx hb dL_law_395 hl (k := 3) rfl (nI_add i 3) (by decide) rfl (fun ls hl => ?_)
        refine lv_goto (tgt := 28) hx hb dL_law_398 (by decide) ?_
        exact ih (i + 3) _ _ _ _ _ _ _ _ _ _ _ _ _ _ _ _ _ _ _ _ H locs ls (by omega) (by omega) hIV2 hP1 hP2 hS (lv_sub hl [1, 2, 3, 0] rfl)
