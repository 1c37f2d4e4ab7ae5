/-! THE LAW: what it calls -/
theorem dL_law_42 : decode code 42 = .ok (.tableswitch 353 0 11 #[62, 85, 98, 135, 148, 171, 194, 227, 261, 294, 327, 340], 62) := by decide +kernel
theorem zSw15 (x : Int32) : ∃ k, k < 16 ∧ x &&& nI 15 = nI k := by
  refine ⟨(x &&& nI 15).toInt.toNat, ?_, ?_⟩
  all_goals
    have h : (x &&& nI 15).toBitVec.toNat < 16 := by
      rw [Int32.toBitVec_and, BitVec.toNat_and]
      exact Nat.lt_of_le_of_lt Nat.and_le_right (by decide)
    have h2 : (x &&& nI 15).toInt = ((x &&& nI 15).toBitVec.toNat : Int) := by
      show (x &&& nI 15).toBitVec.toInt = _
      rw [BitVec.toInt_eq_toNat_of_lt (by omega)]
  · omega
  · apply Int32.toInt_inj.mp
    rw [nI_toInt (by omega)]
    omega
section ZL
variable {p : Program} {l : Launch} {e : Env} {R : Room} {s : State} {m : MethodId} {args : Array Value} {below : List Frame} {meth : Method} {c : Code} {H : Heap} {locs : List Loc} {cells slots : Nat} {Q : State → Prop}
variable {cc : ByteArray} {pc : Nat} {ls : Array Slot} {rest st0 : List Value} {D : va_G} {cl : List vw_C} {A A0 : Nat → Prop} {a : Nat} {tys : List (ClassId × FieldType)} {wd : va_W} {H0 : Heap}
theorem zk_l {S : Type} {post : Int64 → S → Prop} {wf : S → va_W} {aa : Array Value} (hr : va_Run p l e R s m args below meth c H locs cells slots 0 0 (F0 m pc ls st0) rest (va_Ql post (zBW D cl wf) A aa) A) (hS : va_S A0 H0 H locs) (hA : ∀ q, A q → A0 q) (kk : ∀ (r : Int64) (u : S) (H1 : Heap) (locs1 : List Loc), post r u → va_P D cl (wf u) H1 → va_S A0 H0 H1 locs1 → (∀ q : Nat, q < H.size → ¬ A q → H1[q]? = H[q]?) → W p l e R s m args below meth c H1 locs1 cells slots Q (F0 m (pc + 3) ls (.long r :: rest))) : W p l e R s m args below meth c H locs cells slots Q (F0 m pc ls st0) :=
  va_calll hr hS (fun q _ h => hA q h) hA (fun r u t H1 locs1 ht _ hp hB _ hk hS1 => kk r u H1 locs1 hp (by unfold zBW at hB; rw [ht] at hB; exact hB) hS1 hk)
theorem zq_l {post : Int64 → Prop} {aa : Array Value} (hr : va_Run p l e R s m args below meth c H locs cells slots 0 0 (F0 m pc ls st0) rest (vp_Sl post aa) (fun _ => False)) (kk : ∀ r : Int64, post r → W p l e R s m args below meth c H locs cells slots Q (F0 m (pc + 3) ls (.long r :: rest))) : W p l e R s m args below meth c H locs cells slots Q (F0 m pc ls st0) := by
  intro T hT X
  obtain ⟨v', st₀, t, T', L, h0, X', hL, e1, -, ⟨r, hv, hp, hh⟩, st⟩ := hr T hT X
  cases hv
  obtain ⟨t2, a1, b1⟩ := kk r hp T' (by rw [e1, hh, h0]) (Stand.forget X' (fun q h => (hL q h).elim))
  exact ⟨t2, st t2 a1, b1⟩
end ZL
theorem zKeep {D : va_G} {cl : List vw_C} {ws : va_W} {H H1 : Heap} {A1 : Nat → Prop} (h : va_P D cl ws H) (hd : ∀ (k : Nat) (q : Nat × va_E), ws[k]? = some q → ¬ A1 q.1) (hk : ∀ q : Nat, q < H.size → ¬ A1 q → H1[q]? = H[q]?) : va_P D cl ws H1 := fun k q hq => (h k q hq).kept (hk _ (h k q hq).lt (hd k q hq))
theorem zKeepM {D : va_G} {cA cZ cJ : ClassId} {a1 a2 : Nat → Nat} {f : Nat → Int32} {g : Nat → Nat → Int32} {h : Nat → Int64} {r : Int64} {H H1 : Heap} (hd : ∀ i j, i < 21 → j < 18 → a1 i ≠ a2 j) (hP : va_P D vwCl (WM cA cZ cJ a2 f g h r) H) (hk : ∀ q : Nat, q < H.size → ¬ AW a1 q → H1[q]? = H[q]?) : va_P D vwCl (WM cA cZ cJ a2 f g h r) H1 :=
  zKeep hP (fun k q hq ⟨i, hi, e⟩ => by
    obtain ⟨h1, h2⟩ := WM_at hq
    exact hd i k hi h1 (by rw [← e, h2])) hk
theorem zKeepS {D : va_G} {cA : ClassId} {a1 a2 : Nat → Nat} {f : Nat → Int32} {g : Nat → Nat → Int32} {H H1 : Heap} (hd : ∀ i j, i < 21 → j < 18 → a1 i ≠ a2 j) (hP : va_P D vwCl (WS cA a1 f g) H) (hk : ∀ q : Nat, q < H.size → ¬ AM a2 q → H1[q]? = H[q]?) : va_P D vwCl (WS cA a1 f g) H1 :=
  zKeep hP (fun k q hq ⟨i, hi, e⟩ => by
    obtain ⟨h1, h2⟩ := WS_at hq
    exact hd k i h1 hi (by rw [← e, h2])) hk
set_option maxHeartbeats 1000000 in
theorem c_cell (l : Launch) (b L : Nat) (xs : Nat → Int32) : Met l yL_cell wsL_cell ({ frames := 0, cells := 0, slots := 0, locals := 0 }) (va_Pc [.ref b, .int (nI 0)] (fun U => va_X b L xs U U.heap ∧ b < U.heap.size ∧ L ≤ 1537)) (vp_Si (fun r => r = if 0 < L then xs 0 else nI 0)) 0 0 (fun _ => False) := by
  refine Met.ofW (cc := method_2_code) (maxL := 2) (ret := (some .int)) (by decide) rfl ?_
  intro zp ze s zm args below meth zc s₁ zBL hml hv
  obtain ⟨rfl, hX, hbl, hL⟩ := hv
  have hx := zBL.exec
  have hb := zBL.bytes
  have hr := zBL.returns
  have hlocks := zBL.notSynchronized
  have hbA : ¬ (fun _ : Nat => False) b := fun h => h
  have hS : va_S (fun _ => False) s.heap s.heap [] := va_S.rf
  have hl := lv_entry ([.ref b, .int (nI 0)]) (n := 2) (Nat.le_of_ble_eq_true rfl)
  rw [lg_entry_eq]
  generalize (lg_sl ([.ref b, .int (nI 0)]) ++ List.replicate (2 - (lg_sl ([.ref b, .int (nI 0)])).length) Slot.unset).toArray = ls at hl ⊢
  have hl : lv_has ls 2 [(0, .ref b), (1, .int (nI 0))] := hl
  refine lv_iload_n hx hb dL_cell_0 rfl (lv_at hl 1 rfl) ?_
  refine lv_aload_n hx hb dL_cell_1 rfl (lv_at hl 0 rfl) ?_
  refine va_slen hx hb hX hbl hbA hS dL_cell_2 ?_
  refine zt (y := nI L) rfl ?_
  refine lv_icmp_ge (tgt := 12) hx hb dL_cell_3 (by decide) (fun c_3 => ?_) (fun c_3 => ?_)
  · have c_3 := (nI_leI (a := L) (b := 0) (by omega) (by omega)).mp c_3
    refine lv_iconst (v := nI 0) hx hb dL_cell_12 (by decide) ?_
    exact W.iret hx hb hr (fun zT zh _ => ⟨_, rfl, (if_neg (by omega)).symm, zh⟩) t_nil dL_cell_13
  · have c_3 := mt (nI_leI (a := L) (b := 0) (by omega) (by omega)).mpr c_3
    refine lv_aload_n hx hb dL_cell_6 rfl (lv_at hl 0 rfl) ?_
    refine lv_iload_n hx hb dL_cell_7 rfl (lv_at hl 1 rfl) ?_
    refine va_sld hx hb hX hbl hbA hS (vp_in_nI (by omega) (by omega)) dL_cell_8 ?_
    refine zt (y := xs 0) (by rw [nI_clamp (by omega)]) ?_
    refine lv_goto (tgt := 13) hx hb dL_cell_9 (by decide) ?_
    exact W.iret hx hb hr (fun zT zh _ => ⟨_, rfl, (if_pos (by omega)).symm, zh⟩) t_nil dL_cell_13
/-- two objects' cells lie apart -/
theorem zApart {A : Nat → Prop} {ws : va_W} {a1 a2 : Nat → Nat} (hD : va_D A ws) (hw : ws.map Prod.fst = (List.range 21).map a1 ++ (List.range 18).map a2) : WDist a1 ∧ MDist a2 ∧ (∀ i j, i < 21 → j < 18 → a1 i ≠ a2 j) ∧ (∀ i, i < 21 → A (a1 i)) ∧ ∀ j, j < 18 → A (a2 j) := by
  have g1 : ∀ i, i < 21 → ∃ p, ws[i]? = some p ∧ p.1 = a1 i := by
    intro i hi
    have h : (ws.map Prod.fst)[i]? = some (a1 i) := by
      rw [hw, List.getElem?_append_left (by simp; omega), List.getElem?_map, List.getElem?_range hi]
      rfl
    rw [List.getElem?_map] at h
    cases e : ws[i]? with
    | none => rw [e] at h; cases h
    | some p => rw [e] at h; exact ⟨p, rfl, Option.some.inj h⟩
  have g2 : ∀ j, j < 18 → ∃ p, ws[21 + j]? = some p ∧ p.1 = a2 j := by
    intro j hj
    have h : (ws.map Prod.fst)[21 + j]? = some (a2 j) := by
      rw [hw, List.getElem?_append_right (by simp), List.length_map, List.length_range, Nat.add_sub_cancel_left, List.getElem?_map, List.getElem?_range hj]
      rfl
    rw [List.getElem?_map] at h
    cases e : ws[21 + j]? with
    | none => rw [e] at h; cases h
    | some p => rw [e] at h; exact ⟨p, rfl, Option.some.inj h⟩
  refine ⟨fun i j hi hj e => ?_, fun i j hi hj e => ?_, fun i j hi hj e => ?_, fun i hi => ?_, fun j hj => ?_⟩
  · obtain ⟨p, h1, h2⟩ := g1 i hi
    obtain ⟨q, h3, h4⟩ := g1 j hj
    exact hD.1 i j p q h1 h3 (by rw [h2, h4, e])
  · obtain ⟨p, h1, h2⟩ := g2 i hi
    obtain ⟨q, h3, h4⟩ := g2 j hj
    have := hD.1 _ _ p q h1 h3 (by rw [h2, h4, e])
    omega
  · obtain ⟨p, h1, h2⟩ := g1 i hi
    obtain ⟨q, h3, h4⟩ := g2 j hj
    have := hD.1 _ _ p q h1 h3 (by rw [h2, h4, e])
    omega
  · obtain ⟨p, h1, h2⟩ := g1 i hi
    rw [← h2]
    exact hD.2 _ _ h1
  · obtain ⟨p, h1, h2⟩ := g2 j hj
    rw [← h2]
    exact hD.2 _ _ h1
