/-! THE LIBRARY OF THIS CLAIM: worlds that keep their cells, rows with the numbers in place -/
/-- the words of nest mates hold -/
def zN (U : State) : Prop := ∀ w ∈ zNest, va_Nw w U
theorem zN_ok {w : Cond} (h : w ∈ zNest) : w.onTables = true := by
  have h := (List.mem_filter.mp h).2
  cases w <;> first | rfl | (exact absurd h (by simp [zIsNest]))
theorem zN_warm {s U : State} (hW : s.WarmedH U.vm) (h : zN s) : zN U := by
  intro w hw
  have h1 := (List.mem_filter.mp hw).2
  have h2 := h w hw
  cases w <;> first | exact va_Nw.warmF hW h2 | exact va_Nw.warmM hW h2 | (exact absurd h1 (by simp [zIsNest]))
theorem zN_same {u U : State} (e : u.vm = U.vm) (h : zN u) : zN U := fun w hw => va_Nw.same (zN_ok hw) e (h w hw)
def zPW (D : va_G) (cl : List vw_C) (tys : List (ClassId × FieldType)) (ws : va_W) (U : State) : Prop := va_P D cl ws U.heap ∧ va_K D cl tys U ∧ zN U
def zBW {S : Type} (D : va_G) (cl : List vw_C) (wf : S → va_W) (u : S) (t : State) : Prop := va_P D cl (wf u) t.heap
def zB (b : Bool) : Int32 := if b then nI 1 else nI 0
/-- an array of many: place n of array k -/
def sA (g : Nat → Nat → Int32) (k : Nat) (F : Nat → Int32) : Nat → Nat → Int32 := fun q => if q = k then F else g q
def updA (g : Nat → Nat → Int32) (k n : Nat) (x : Int32) : Nat → Nat → Int32 := sA g k (upd (g k) n x)
theorem sA_s (g : Nat → Nat → Int32) (k : Nat) (F : Nat → Int32) : sA g k F k = F := by simp [sA]
theorem sA_o (g : Nat → Nat → Int32) (k : Nat) (F : Nat → Int32) {j : Nat} (h : j ≠ k) : sA g k F j = g j := by simp [sA, h]
theorem sA_sA (g : Nat → Nat → Int32) (k : Nat) (F F' : Nat → Int32) : sA (sA g k F) k F' = sA g k F' := by
  funext q
  by_cases h : q = k <;> simp [sA, h]
theorem sA_self (g : Nat → Nat → Int32) (k : Nat) : sA g k (g k) = g := by
  funext q
  by_cases h : q = k <;> simp [sA, h]
theorem sA_comm (g : Nat → Nat → Int32) {k j : Nat} (F F' : Nat → Int32) (h : k ≠ j) : sA (sA g k F) j F' = sA (sA g j F') k F := by
  funext q
  by_cases h1 : q = k
  · by_cases h2 : q = j
    · exact absurd (h1.symm.trans h2) h
    · simp [sA, h1, h]
  · by_cases h2 : q = j
    · have h3 : ¬ j = k := fun e => h1 (h2.trans e)
      simp [sA, h2, h3]
    · simp [sA, h1, h2]
theorem zB_t : zB true = 1 := rfl
theorem zB_f : zB false = 0 := rfl
theorem zB_eq0 {b : Bool} : zB b = 0 ↔ b = false := by cases b <;> decide
theorem zB_eq1 {b : Bool} : zB b = nI 1 ↔ b = true := by cases b <;> decide
theorem zB_d0 {p : Prop} [Decidable p] : zB (decide p) = 0 ↔ ¬ p := by rw [zB_eq0, decide_eq_false_iff_not]
theorem zB_n0 {b : Bool} (h : ¬ zB b = 0) : b = true := by cases b <;> first | rfl | exact absurd rfl h
theorem zB_inj {a b : Bool} (h : zB a = zB b) : a = b := by revert h; cases a <;> cases b <;> first | (intro _; rfl) | (intro h; exact absurd h (by decide))
theorem zB_nar (b : Bool) : narrow .boolean (.int (zB b)) = .int (zB b) := by cases b <;> rfl
theorem zB_fit (b : Bool) : fits .boolean (.int (zB b)) = true := by cases b <;> rfl
theorem zblind {D : va_G} {cl : List vw_C} {tys : List (ClassId × FieldType)} {ws : va_W} {av : List Value} : FrameBlind (va_Pc av (zPW D cl tys ws)) := fun a U g mk q => ⟨q.1, q.2.1, va_K.moved (u := U) (U := U.calling g mk a) (Vm.Alike.refl U.vm) q.2.2.1, zN_same (u := U) rfl q.2.2.2⟩
theorem zpre {D : va_G} {cl : List vw_C} {tys : List (ClassId × FieldType)} {ws : va_W} {av : List Value} {s : State} {H : Heap} (hK : va_K D cl tys s) (hN : zN s) (hP : va_P D cl ws H) : ∀ U : State, U.heap = H → s.WarmedH U.vm → va_Pc av (zPW D cl tys ws) av.toArray U := fun U hU hW => ⟨rfl, by rw [hU]; exact hP, va_K.moved hW.alike hK, zN_warm hW hN⟩
theorem zbw {S : Type} {D : va_G} {cl : List vw_C} {wf : S → va_W} {u : S} {t : State} {H : Heap} (h : t.heap = H) (hP : va_P D cl (wf u) H) : zBW D cl wf u t := by
  unfold zBW
  rw [h]
  exact hP
def zSr (b : Nat) : Array Value → State → Outcome → State → Prop := fun _ st o t => o = .returned (some (.ref b)) ∧ t.heap = st.heap
section ZR
variable {p : Program} {l : Launch} {e : Env} {R : Room} {s : State} {m : MethodId} {args : Array Value} {below : List Frame} {meth : Method} {c : Code} {H : Heap} {locs : List Loc} {cells slots : Nat} {Q : State → Prop}
variable {cc : ByteArray} {pc : Nat} {ls : Array Slot} {rest st0 : List Value} {D : va_G} {cl : List vw_C} {A A0 : Nat → Prop} {a : Nat} {tys : List (ClassId × FieldType)} {wd : va_W} {H0 : Heap}
variable {y : MethodName} {bytes : ByteArray} {maxL nL mc ms n index : Nat} {ret : Option FieldType} {ws : List Cond} {rm : Room} {Qc : Array Value → State → Outcome → State → Prop} {free : Addr → Prop} {Ts : List Cond} {own C host : String} {b : Addr} {As : List Value}
/-- the top of the stack by another name -/
theorem zt {x y : Int32} (h : x = y) (k : W p l e R s m args below meth c H locs cells slots Q (F0 m pc ls (.int y :: rest))) : W p l e R s m args below meth c H locs cells slots Q (F0 m pc ls (.int x :: rest)) := by
  rw [h]; exact k
theorem ztl {x y : Int64} (h : x = y) (k : W p l e R s m args below meth c H locs cells slots Q (F0 m pc ls (.long y :: rest))) : W p l e R s m args below meth c H locs cells slots Q (F0 m pc ls (.long x :: rest)) := by
  rw [h]; exact k
theorem zrV (S : CallFix p m c cc nL s args Ts own) (hM : Met l y ws rm (va_Pc (.ref b :: As) (zPW D cl tys wd)) Qc mc ms free) (cw : CallW R s args own C index y bytes maxL ret ws rm mc ms n) (hK : va_K D cl tys s) (hN : zN s) (hP : va_P D cl wd H) (q0 ci : Nat) {q : vw_C} {fs : List Value} (hc : cl[ci]? = some q) (he : wd[q0]? = some (b, .inr (ci, fs))) (hC : q.1 = C) (hn : As.length = n) (hsize : ls.size = nL) (hst : st0 = As.reverse ++ .ref b :: rest) (hW : (rest.map fun v => v.category).sum ≤ 8) (hdg : decode cc pc = .ok (.invokevirtual index, 3)) (hf : cells + mc ≤ R.cells ∧ slots + ms ≤ R.slots) : va_Run p l e R s m args below meth c H locs cells slots mc ms (F0 m pc ls st0) rest (Qc (Value.ref b :: As).toArray) free :=
  va_runV S hM cw ⟨zblind, by rw [← hC]; exact va_recv hK hP hc he, zpre hK hN hP⟩ rfl hn hsize hst (lv_room hW) hdg hf
theorem zrVN (S : CallFix p m c cc nL s args Ts own) (hM : Met l y ws rm (va_Pc (.ref b :: As) (zPW D cl tys wd)) Qc mc ms free) (cw : va_CN R s args own index y host bytes maxL ret ws rm mc ms n ∧ (Cond.instanceMethod y).before args s = true ∧ (Cond.selects C y y).before args s = true) (hK : va_K D cl tys s) (hN : zN s) (hP : va_P D cl wd H) (q0 ci : Nat) {q : vw_C} {fs : List Value} (hc : cl[ci]? = some q) (he : wd[q0]? = some (b, .inr (ci, fs))) (hC : q.1 = C) (hn : As.length = n) (hsize : ls.size = nL) (hst : st0 = As.reverse ++ .ref b :: rest) (hW : (rest.map fun v => v.category).sum ≤ 8) (hdg : decode cc pc = .ok (.invokevirtual index, 3)) (hf : cells + mc ≤ R.cells ∧ slots + ms ≤ R.slots) : va_Run p l e R s m args below meth c H locs cells slots mc ms (F0 m pc ls st0) rest (Qc (Value.ref b :: As).toArray) free :=
  va_runVN S hM cw ⟨zblind, by rw [← hC]; exact va_recv hK hP hc he, zpre hK hN hP⟩ rfl hn hsize hst (lv_room hW) hdg hf
theorem zrS (S : CallFix p m c cc nL s args Ts own) (hM : Met l y ws rm (va_Pc As (zPW D cl tys wd)) Qc mc ms free) (cw : CallB R s args own index y bytes maxL ret ws rm mc ms n ∧ (Cond.static y).before args s = true) (hK : va_K D cl tys s) (hN : zN s) (hP : va_P D cl wd H) (hn : As.length = n) (hsize : ls.size = nL) (hst : st0 = As.reverse ++ rest) (hW : (rest.map fun v => v.category).sum ≤ 8) (hdg : decode cc pc = .ok (.invokestatic index, 3)) (hf : cells + mc ≤ R.cells ∧ slots + ms ≤ R.slots) : va_Run p l e R s m args below meth c H locs cells slots mc ms (F0 m pc ls st0) rest (Qc As.toArray) free :=
  va_runS S hM cw ⟨zblind, zpre hK hN hP⟩ rfl hn hsize hst (lv_room hW) hdg hf
theorem zrSN (S : CallFix p m c cc nL s args Ts own) (hM : Met l y ws rm (va_Pc As (zPW D cl tys wd)) Qc mc ms free) (cw : va_CN R s args own index y host bytes maxL ret ws rm mc ms n ∧ (Cond.static y).before args s = true ∧ True) (hK : va_K D cl tys s) (hN : zN s) (hP : va_P D cl wd H) (hn : As.length = n) (hsize : ls.size = nL) (hst : st0 = As.reverse ++ rest) (hW : (rest.map fun v => v.category).sum ≤ 8) (hdg : decode cc pc = .ok (.invokestatic index, 3)) (hf : cells + mc ≤ R.cells ∧ slots + ms ≤ R.slots) : va_Run p l e R s m args below meth c H locs cells slots mc ms (F0 m pc ls st0) rest (Qc As.toArray) free :=
  va_runSN S hM cw ⟨zblind, zpre hK hN hP⟩ rfl hn hsize hst (lv_room hW) hdg hf
/-- static methods of numbers alone -/
def zNo (_ : State) : Prop := True
theorem zrS0 (S : CallFix p m c cc nL s args Ts own) (hM : Met l y ws rm (va_Pc As zNo) Qc mc ms free) (cw : CallB R s args own index y bytes maxL ret ws rm mc ms n ∧ (Cond.static y).before args s = true) (hn : As.length = n) (hsize : ls.size = nL) (hst : st0 = As.reverse ++ rest) (hW : (rest.map fun v => v.category).sum ≤ 8) (hdg : decode cc pc = .ok (.invokestatic index, 3)) (hf : cells + mc ≤ R.cells ∧ slots + ms ≤ R.slots) : va_Run p l e R s m args below meth c H locs cells slots mc ms (F0 m pc ls st0) rest (Qc As.toArray) free :=
  va_runS S hM cw ⟨fun _ _ _ _ h => h, fun _ _ _ => ⟨rfl, trivial⟩⟩ rfl hn hsize hst (lv_room hW) hdg hf
theorem zrSN0 (S : CallFix p m c cc nL s args Ts own) (hM : Met l y ws rm (va_Pc As zNo) Qc mc ms free) (cw : va_CN R s args own index y host bytes maxL ret ws rm mc ms n ∧ (Cond.static y).before args s = true ∧ True) (hn : As.length = n) (hsize : ls.size = nL) (hst : st0 = As.reverse ++ rest) (hW : (rest.map fun v => v.category).sum ≤ 8) (hdg : decode cc pc = .ok (.invokestatic index, 3)) (hf : cells + mc ≤ R.cells ∧ slots + ms ≤ R.slots) : va_Run p l e R s m args below meth c H locs cells slots mc ms (F0 m pc ls st0) rest (Qc As.toArray) free :=
  va_runSN S hM cw ⟨fun _ _ _ _ h => h, fun _ _ _ => ⟨rfl, trivial⟩⟩ rfl hn hsize hst (lv_room hW) hdg hf
/-- behind a call that writes -/
theorem zk_v {S : Type} {post : S → Prop} {wf : S → va_W} {aa : Array Value} (hr : va_Run p l e R s m args below meth c H locs cells slots 0 0 (F0 m pc ls st0) rest (va_Qv post (zBW D cl wf) A aa) A) (hS : va_S A0 H0 H locs) (hA : ∀ q, A q → A0 q) (kk : ∀ (u : S) (H1 : Heap) (locs1 : List Loc), post u → va_P D cl (wf u) H1 → va_S A0 H0 H1 locs1 → (∀ q : Nat, q < H.size → ¬ A q → H1[q]? = H[q]?) → W p l e R s m args below meth c H1 locs1 cells slots Q (F0 m (pc + 3) ls rest)) : W p l e R s m args below meth c H locs cells slots Q (F0 m pc ls st0) :=
  va_callv hr hS (fun q _ h => hA q h) hA (fun u t H1 locs1 ht _ hp hB _ hk hS1 => kk u H1 locs1 hp (by unfold zBW at hB; rw [ht] at hB; exact hB) hS1 hk)
theorem zk_i {S : Type} {post : Int32 → S → Prop} {wf : S → va_W} {aa : Array Value} (hr : va_Run p l e R s m args below meth c H locs cells slots 0 0 (F0 m pc ls st0) rest (va_Qi post (zBW D cl wf) A aa) A) (hS : va_S A0 H0 H locs) (hA : ∀ q, A q → A0 q) (kk : ∀ (r : Int32) (u : S) (H1 : Heap) (locs1 : List Loc), post r u → va_P D cl (wf u) H1 → va_S A0 H0 H1 locs1 → (∀ q : Nat, q < H.size → ¬ A q → H1[q]? = H[q]?) → W p l e R s m args below meth c H1 locs1 cells slots Q (F0 m (pc + 3) ls (.int r :: rest))) : W p l e R s m args below meth c H locs cells slots Q (F0 m pc ls st0) :=
  va_calli hr hS (fun q _ h => hA q h) hA (fun r u t H1 locs1 ht _ hp hB _ hk hS1 => kk r u H1 locs1 hp (by unfold zBW at hB; rw [ht] at hB; exact hB) hS1 hk)
/-- behind a call that only reads -/
theorem zq_i {post : Int32 → Prop} {aa : Array Value} (hr : va_Run p l e R s m args below meth c H locs cells slots 0 0 (F0 m pc ls st0) rest (vp_Si post aa) (fun _ => False)) (kk : ∀ r : Int32, post r → W p l e R s m args below meth c H locs cells slots Q (F0 m (pc + 3) ls (.int r :: rest))) : W p l e R s m args below meth c H locs cells slots Q (F0 m pc ls st0) := by
  intro T hT X
  obtain ⟨v, st₀, t, T', L, h0, X', hL, e1, -, ⟨r, hv, hp, hh⟩, st⟩ := hr T hT X
  cases hv
  obtain ⟨t2, a1, b1⟩ := kk r hp T' (by rw [e1, hh, h0]) (Stand.forget X' (fun q h => (hL q h).elim))
  exact ⟨t2, st t2 a1, b1⟩
theorem zq_e {v : Int32} {aa : Array Value} (hr : va_Run p l e R s m args below meth c H locs cells slots 0 0 (F0 m pc ls st0) rest (vp_Si (fun r => r = v) aa) (fun _ => False)) (kk : W p l e R s m args below meth c H locs cells slots Q (F0 m (pc + 3) ls (.int v :: rest))) : W p l e R s m args below meth c H locs cells slots Q (F0 m pc ls st0) :=
  zq_i hr (fun r hr => by rw [hr]; exact kk)
theorem zq_le {v : Int64} {aa : Array Value} (hr : va_Run p l e R s m args below meth c H locs cells slots 0 0 (F0 m pc ls st0) rest (vp_Sl (fun r => r = v) aa) (fun _ => False)) (kk : W p l e R s m args below meth c H locs cells slots Q (F0 m (pc + 3) ls (.long v :: rest))) : W p l e R s m args below meth c H locs cells slots Q (F0 m pc ls st0) := by
  intro T hT X
  obtain ⟨v', st₀, t, T', L, h0, X', hL, e1, -, ⟨r, hv, hp, hh⟩, st⟩ := hr T hT X
  cases hv
  subst hp
  obtain ⟨t2, a1, b1⟩ := kk T' (by rw [e1, hh, h0]) (Stand.forget X' (fun q h => (hL q h).elim))
  exact ⟨t2, st t2 a1, b1⟩
theorem zq_r {v : Nat} {aa : Array Value} (hr : va_Run p l e R s m args below meth c H locs cells slots 0 0 (F0 m pc ls st0) rest (zSr v aa) (fun _ => False)) (kk : W p l e R s m args below meth c H locs cells slots Q (F0 m (pc + 3) ls (.ref v :: rest))) : W p l e R s m args below meth c H locs cells slots Q (F0 m pc ls st0) := by
  intro T hT X
  obtain ⟨v', st₀, t, T', L, h0, X', hL, e1, -, ⟨hv, hh⟩, st⟩ := hr T hT X
  cases hv
  obtain ⟨t2, a1, b1⟩ := kk T' (by rw [e1, hh, h0]) (Stand.forget X' (fun q h => (hL q h).elim))
  exact ⟨t2, st t2 a1, b1⟩
/-- an int array, read and written at a place that is known as a number -/
theorem zald (hx : p.tables.exec = Jvm.exec) (hb : c.code = cc) (hK : va_K D cl tys s) (hP : va_P D cl wd H) (q0 t0 : Nat) {cA : ClassId} {N : Nat} {F : Nat → Int32} (ha : wd[q0]? = some (a, .inl (cA, N, .inl F))) (ht : tys[t0]? = some (cA, .int)) {i v : Int32} (n : Nat) (hi : i = nI n) (hn : n < N) (hN : N < 2 ^ 31) (hv : F n = v) (hdg : decode cc pc = .ok (.iaload, 1)) (kk : W p l e R s m args below meth c H locs cells slots Q (F0 m (pc + 1) ls (.int v :: rest))) : W p l e R s m args below meth c H locs cells slots Q (F0 m pc ls (.int i :: .ref a :: rest)) := by
  subst hi
  refine va_iald hx hb hK hP q0 t0 ha ht (vp_in_nI hn hN) hdg ?_
  rw [nI_clamp (by omega), hv]
  exact kk
theorem zast (hx : p.tables.exec = Jvm.exec) (hb : c.code = cc) (hK : va_K D cl tys s) (hP : va_P D cl wd H) (hD : va_D A wd) (hS : va_S A H0 H locs) (q0 t0 : Nat) {cA : ClassId} {N : Nat} {F : Nat → Int32} (ha : wd[q0]? = some (a, .inl (cA, N, .inl F))) (ht : tys[t0]? = some (cA, .int)) {i x : Int32} (n : Nat) (hi : i = nI n) (hn : n < N) (hN : N < 2 ^ 31) {wd' : va_W} (hw : wd.set q0 (a, .inl (cA, N, .inl (upd F n x))) = wd') (hdg : decode cc pc = .ok (.iastore, 1)) (kk : ∀ (H1 : Heap) (locs1 : List Loc), va_P D cl wd' H1 → va_S A H0 H1 locs1 → W p l e R s m args below meth c H1 locs1 cells slots Q (F0 m (pc + 1) ls rest)) : W p l e R s m args below meth c H locs cells slots Q (F0 m pc ls (.int x :: .int i :: .ref a :: rest)) := by
  subst hi
  refine va_iast hx hb hK hP hD hS q0 t0 ha ht (vp_in_nI hn hN) hdg (fun H1 locs1 hP1 _ hS1 => ?_)
  rw [nI_clamp (by omega), hw] at hP1
  exact kk H1 locs1 hP1 hS1
theorem zalen (hx : p.tables.exec = Jvm.exec) (hb : c.code = cc) (hK : va_K D cl tys s) (hP : va_P D cl wd H) (q0 t0 : Nat) {cA : ClassId} {N : Nat} {F : Nat → Int32} (ha : wd[q0]? = some (a, .inl (cA, N, .inl F))) (ht : tys[t0]? = some (cA, .int)) (hdg : decode cc pc = .ok (.arraylength, 1)) (kk : W p l e R s m args below meth c H locs cells slots Q (F0 m (pc + 1) ls (.int (nI N) :: rest))) : W p l e R s m args below meth c H locs cells slots Q (F0 m pc ls (.ref a :: rest)) :=
  va_alen hx hb hK hP q0 t0 ha ht rfl hdg kk
/-- the words of a call, out of zBig -/
theorem zcB {s : State} {args : Array Value} {R rm : Room} {own : String} {index maxL mc ms : Nat} {y : MethodName} {bytes : ByteArray} {ret : Option FieldType} (n : Nat) (hz : ∀ w ∈ zBig, w.before args s = true) (h1 : Cond.methodLink own index y ∈ zBig) (h4 : Cond.initialized y.cls ∈ zBig) (h5 : Cond.code y bytes maxL ret ∈ zBig) (hd : y.cls ≠ "java/lang/invoke/MethodHandle" ∧ y.cls ≠ "java/lang/invoke/VarHandle" ∧ (parseMethodDescriptor y.desc).map (fun d => d.parameters.length) = some n) (hrc : rm.cells = mc) (hrs : rm.slots = ms) (hR : rm.frames + 1 ≤ R.frames ∧ 8 + (maxL + 11) + rm.locals ≤ R.locals) : CallB R s args own index y bytes maxL ret (.code y bytes maxL ret :: zBig) rm mc ms n :=
  callB_of n hz (zb_cons h5) rfl hrc hrs (hz _ h4) (hz _ h1) hd hR
theorem zcN {s : State} {args : Array Value} {R rm : Room} {own host : String} {index maxL mc ms : Nat} {y : MethodName} {bytes : ByteArray} {ret : Option FieldType} (n : Nat) (hz : ∀ w ∈ zBig, w.before args s = true) (hN : zN s) (h1 : Cond.methodLinkNest own index y host ∈ zNest) (h4 : Cond.initialized y.cls ∈ zBig) (h5 : Cond.code y bytes maxL ret ∈ zBig) (hd : y.cls ≠ "java/lang/invoke/MethodHandle" ∧ y.cls ≠ "java/lang/invoke/VarHandle" ∧ (parseMethodDescriptor y.desc).map (fun d => d.parameters.length) = some n) (hrc : rm.cells = mc) (hrs : rm.slots = ms) (hR : rm.frames + 1 ≤ R.frames ∧ 8 + (maxL + 11) + rm.locals ≤ R.locals) : va_CN R s args own index y host bytes maxL ret (.code y bytes maxL ret :: zBig) rm mc ms n :=
  va_cnB n hz (zb_cons h5) rfl hrc hrs (hN _ h1) (hz _ h4) hd hR
end ZR
