/-! CONSTRUCTORS. NW: the constructor of the cell (h, e0), in a heap of sz cells: behind it the world wp as, where as are the new addresses. -/
def nwA (h sz : Nat) : Nat → Prop := fun q => q = h ∨ sz ≤ q
def nwB (D : va_G) (tc : Nat → ClassId) (zb h sz : Nat) (e0 : va_E) (U : State) : Prop := U.heap.size = sz ∧ amb D tc zb (nwA h sz) U U.heap ∧ va_AO RX4 U ∧ va_P D vwCl [(h, e0)] U.heap
def nwQ (D : va_G) (h sz : Nat) (wp : (Nat → Nat) → va_W) : Array Value → State → Outcome → State → Prop := fun _ st oc t => oc = .returned none ∧ ∃ as : Nat → Nat, va_P D vwCl (wp as) t.heap ∧ va_D (nwA h sz) (wp as) ∧ va_F (nwA h sz) st t
def NW (l : Launch) (y : MethodName) (ws : List Cond) (fr lo mc ms : Nat) (D : va_G) (tc : Nat → ClassId) (zb h sz : Nat) (e0 : va_E) (wp : (Nat → Nat) → va_W) : Prop := Met l y ws ({ frames := fr, cells := mc, slots := ms, locals := lo } : Room) (va_Pc [.ref h] (nwB D tc zb h sz e0)) (nwQ D h sz wp) mc ms (nwA h sz)
theorem nwB_blind {D : va_G} {tc : Nat → ClassId} {zb h sz : Nat} {e0 : va_E} {av : List Value} : FrameBlind (va_Pc av (nwB D tc zb h sz e0)) := fun a U g mk q => ⟨q.1, q.2.1, amb.same (u := U) (U := U.calling g mk a) rfl q.2.2.1, va_AO.moved (u := U) (U := U.calling g mk a) (Vm.Alike.refl U.vm) q.2.2.2.1, q.2.2.2.2⟩
theorem NW.of {l : Launch} {y : MethodName} {ws ws' : List Cond} {fr lo mc ms : Nat} {D : va_G} {tc : Nat → ClassId} {zb h sz : Nat} {e0 : va_E} {wp : (Nat → Nat) → va_W} {cc : ByteArray} {maxL : Nat}
    (hy : plainName y.cls = true) (hw : ws = Cond.code y cc maxL none :: ws') (hlen : 1 ≤ maxL) (hy1 : y.name = "<init>")
    (body : ∀ (p : Program) (e : Env) (s : State) (m : MethodId) (args : Array Value) (below : List Frame) (meth : Method) (c : Code) (A : Nat → Prop), p.tables.exec = Jvm.exec → c.code = cc → meth.sig.returnType = none → c.maxLocals = maxL → meth.locks = false → (∀ x ∈ ws, x.before args s = true) → s.vm.findClass y.cls = some m.cls → meth.name = "<init>" → amb D tc zb A s s.heap → va_AO RX4 s → va_S A s.heap s.heap [] → (∀ q : Nat, s.heap.size ≤ q → A q) → va_P D vwCl [(h, e0)] s.heap → va_D A [(h, e0)] → ∀ ls : Array Slot, lv_has ls maxL [(0, .ref h)] →
      W p l e ({ frames := fr, cells := mc, slots := ms, locals := lo } : Room) s m args below meth c s.heap [] 0 0 (MQ below (fun _ st oc t => oc = .returned none ∧ ∃ as : Nat → Nat, va_P D vwCl (wp as) t.heap ∧ va_D A (wp as) ∧ va_F A st t) args s mc ms A) (F0 m 0 ls [])) : NW l y ws fr lo mc ms D tc zb h sz e0 wp := by
  refine Met.ofW (cc := cc) (maxL := maxL) (ret := none) hy hw ?_
  intro p e s m args below meth c s₁ B hml hv
  obtain ⟨rfl, rfl, hM, hAO, hP⟩ := hv
  have hts := atoms_spec (ws := ws) B.pre
  have hown : s.vm.findClass y.cls = some m.cls := findClass_of_methodNamed B.named
  have hin : meth.name = "<init>" := (name_of_methodNamed B.named B.method).1.trans hy1
  have hl := lv_entry [.ref h] (n := maxL) hlen
  have hD : va_D (nwA h s.heap.size) [(h, e0)] := ⟨fun i j p q hp hq _ => by
    have h1 := (List.getElem?_eq_some_iff.mp hp).1
    have h2 := (List.getElem?_eq_some_iff.mp hq).1
    simp at h1 h2; omega, fun k q hk => by
    have h1 := (List.getElem?_eq_some_iff.mp hk).1
    have h2 : k = 0 := by simp at h1; omega
    subst h2; cases hk; exact Or.inl rfl⟩
  have h9 := body p e s m _ below meth c (nwA h s.heap.size) B.exec B.bytes B.returns hml B.notSynchronized hts hown hin hM hAO va_S.rf (fun q hq => Or.inr hq) hP hD _ hl
  rw [lg_entry_eq]
  exact h9
section NWC
variable {p : Program} {l : Launch} {e : Env} {R : Room} {s : State} {m : MethodId} {args : Array Value} {below : List Frame} {meth : Method} {c : Code} {H : Heap} {locs : List Loc} {cells slots : Nat} {Q : State → Prop} {pc : Nat} {ls : Array Slot} {rest st0 : List Value}
variable {y : MethodName} {bytes cc : ByteArray} {maxL nL idx ik fr lo mc ms : Nat} {wsy ws' : List Cond} {Ts : List Cond} {own C : String} {D : va_G} {tc : Nat → ClassId} {zb : Nat} {A : Nat → Prop} {ws : va_W} {cl : List vw_C} {tys : List (ClassId × FieldType)}
theorem nw_ret {wp : (Nat → Nat) → va_W} {as : Nat → Nat} (hx : p.tables.exec = Jvm.exec) (hb : c.code = cc) (hr : meth.sig.returnType = none) (hlk : meth.locks = false) (hdg : decode cc pc = .ok (.return_, 1)) (hS : va_S A s.heap H locs) (hP : va_P D vwCl (wp as) H) (hD : va_D A (wp as)) (h1 : cells ≤ mc) (h2 : slots ≤ ms) : W p l e R s m args below meth c H locs cells slots (MQ below (fun _ st oc t => oc = .returned none ∧ ∃ as : Nat → Nat, va_P D vwCl (wp as) t.heap ∧ va_D A (wp as) ∧ va_F A st t) args s mc ms A) (F0 m pc ls []) :=
  W.widen h1 h2 (W.vret hx hb hr (fun t ht _ => ⟨rfl, as, by rw [ht]; exact hP, hD, hS.F ht⟩) hS.2.2 hdg hlk)
/-- a new row of numbers: its class is the one that the world knows -/
theorem nw_newa {ty : FieldType} (hra : ∀ (U : State) (cA : ClassId), va_RA U cA ty → U.vm.findClass ("[" ++ ty.toString) = some cA) (hx : p.tables.exec = Jvm.exec) (hb : c.code = cc) {atype : ArrayType} (harr : (Cond.arrayClass (newarray.typeOf atype)).before args s = true) (hty : newarray.typeOf atype = ty) (hK : va_K D cl tys s) (t0 : Nat) {cA : ClassId} (ht : tys[t0]? = some (cA, ty)) (hP : va_P D cl ws H) (hD : va_D A ws) (hS : va_S A s.heap H locs) (hA : ∀ q, s.heap.size ≤ q → A q)
    {n : Int32} {N' : Nat} {a0 : vp_A} (ha : ∀ cA : ClassId, vp_cell cA a0 = arrV cA N' (fun _ => defaultValue ty)) (hn : ¬ n < 0) (hN : n.toNatClampNeg = N') (hbytes : N' * componentBytes ty ≤ 536870912) (hcells : cells + 1 ≤ R.cells) (hslots : slots + N' ≤ R.slots) (hdg : decode cc pc = .ok (.newarray atype, 2))
    (kk : ∀ (q : Nat) (H1 : Heap), va_P D cl (ws ++ [(q, .inl (cA, a0))]) H1 → va_D A (ws ++ [(q, .inl (cA, a0))]) → va_S A s.heap H1 locs → W p l e R s m args below meth c H1 locs (cells + 1) (slots + N') Q (F0 m (pc + 2) ls (.ref q :: rest))) : W p l e R s m args below meth c H locs cells slots Q (F0 m pc ls (.int n :: rest)) := by
  refine va_newa hx hb harr hty hK hP hD hS hA ha hn hN hbytes hcells hslots hdg (fun q cA' H1 hK' hP1 hD1 hS1 => ?_)
  have h1 := hra _ _ (hK'.2 tys.length (cA', ty) (by simp)).2
  have h2 := hra _ _ (hK.2 t0 _ ht).2
  have e : cA' = cA := Option.some.inj (h1.symm.trans h2)
  subst e
  exact kk q H1 hP1 hD1 hS1
theorem nw_newq {n : Int32} {N' t0 : Nat} {cA : ClassId} (hx : p.tables.exec = Jvm.exec) (hb : c.code = cc) (hown : s.vm.findClass own = some m.cls) (hclink : (Cond.classLink own ik C).before args s = true) (hover : va_AO C s) (hK : va_K D cl tys s) (ht : tys[t0]? = some (cA, .object C)) (hP : va_P D cl ws H) (hD : va_D A ws) (hS : va_S A s.heap H locs) (hA : ∀ q, s.heap.size ≤ q → A q)
    (hn : ¬ n < 0) (hN : n.toNatClampNeg = N') (hbytes : N' * 4 ≤ 536870912) (hcells : cells + 1 ≤ R.cells) (hslots : slots + N' ≤ R.slots) (hdg : decode cc pc = .ok (.anewarray ik, 3))
    (kk : ∀ (q : Nat) (H1 : Heap), va_P D cl (ws ++ [(q, .inl (cA, N', .inr (.inr (.inr (.inr (fun _ => none))))))]) H1 → va_D A (ws ++ [(q, .inl (cA, N', .inr (.inr (.inr (.inr (fun _ => none))))))]) → va_S A s.heap H1 locs → W p l e R s m args below meth c H1 locs (cells + 1) (slots + N') Q (F0 m (pc + 3) ls (.ref q :: rest))) : W p l e R s m args below meth c H locs cells slots Q (F0 m pc ls (.int n :: rest)) := by
  refine va_newq hx hb hown hclink hover hK hP hD hS hA hn hN hbytes hcells hslots hdg (fun q cA' H1 hK' hP1 hD1 hS1 => ?_)
  obtain ⟨k1, c1, -, -, -, h1⟩ := (hK'.2 tys.length (cA', .object C) (by simp)).2
  obtain ⟨k2, c2, -, -, -, h2⟩ := (hK.2 t0 _ ht).2
  have e : cA' = cA := Option.some.inj (h1.symm.trans h2)
  subst e
  exact kk q H1 hP1 hD1 hS1
theorem nw_go {g : JFrame} {a : Array Value} {q : Nat} {e0 : va_E} {wp : (Nat → Nat) → va_W} (hg9 : g = F0 m pc ls st0) (hr : va_Run p l e R s m args below meth c H locs cells slots mc ms g rest (nwQ D q H.size wp a) (nwA q H.size)) (hP : va_P D vwCl (ws ++ [(q, e0)]) H) (hD : va_D A (ws ++ [(q, e0)])) (hS : va_S A s.heap H locs) (hA : ∀ q, s.heap.size ≤ q → A q)
    (kk : ∀ (as : Nat → Nat) (H1 : Heap) (locs1 : List Loc), va_P D vwCl (ws ++ wp as) H1 → va_D A (ws ++ wp as) → va_S A s.heap H1 locs1 → W p l e R s m args below meth c H1 locs1 (cells + mc) (slots + ms) Q (F0 m (pc + 3) ls rest)) : W p l e R s m args below meth c H locs cells slots Q g := by
  subst hg9
  have hin : ∀ (i : Nat) (x : Nat × va_E), ws[i]? = some x → (ws ++ [(q, e0)])[i]? = some x := fun i x hx => by
    rw [List.getElem?_append_left (List.getElem?_eq_some_iff.mp hx).1]; exact hx
  have hlast : (ws ++ [(q, e0)])[ws.length]? = some (q, e0) := by simp
  have hno : ∀ (i : Nat) (x : Nat × va_E), ws[i]? = some x → ¬ nwA q H.size x.1 := fun i x hx z => by
    have hlt := (List.getElem?_eq_some_iff.mp hx).1
    rcases z with z | z
    · have := hD.1 i ws.length x (q, e0) (hin i x hx) hlast z
      omega
    · have := (hP i x (hin i x hx)).lt
      omega
  have hsub : ∀ x, nwA q H.size x → A x := fun x z => by
    rcases z with z | z
    · rw [z]; exact hD.2 _ _ hlast
    · exact hA x (Nat.le_trans hS.1 z)
  intro T hT X
  obtain ⟨v', st₀, t, T', L, h0, X', hL, e1, e2, ⟨hv, as, hp1, hd1, hz, hk⟩, st⟩ := hr T hT X
  cases hv
  rw [h0] at hz hk
  have hS1 : va_S A s.heap T'.heap (locs ++ L) := ⟨Nat.le_trans hS.1 (by rw [e1]; exact hz), fun x h1 h2 => by rw [e1, hk x (Nat.lt_of_lt_of_le h1 hS.1) (fun z => h2 (hsub x z))]; exact hS.2.1 x h1 h2, fun x hx => (List.mem_append.mp hx).elim (hS.2.2 x) (fun h => hsub _ (hL x h))⟩
  have hPw : va_P D vwCl ws T'.heap := fun i x hx => (hP i x (hin i x hx)).kept (by rw [e1]; exact hk x.1 (hP i x (hin i x hx)).lt (hno i x hx))
  have hDw : va_D A ws := ⟨fun i j x y hx hy e => hD.1 i j x y (hin i x hx) (hin j y hy) e, fun i x hx => hD.2 i x (hin i x hx)⟩
  obtain ⟨t2, a1, b1⟩ := kk as T'.heap (locs ++ L) (hPw.app (by rw [e1]; exact hp1)) (hDw.app ⟨hd1.1, fun i x hx => hsub _ (hd1.2 i x hx)⟩ (fun i j x y hx hy e => hno i x hx (by rw [e]; exact hd1.2 j y hy))) hS1 T' rfl X'
  exact ⟨t2, st t2 a1, b1⟩
section
variable {T : u_T} {N ci : Nat} {fs : List Value} {wp : Nat → (Nat → Nat) → va_W}
/-- 'new' of a class whose constructor is a nest mate's -/
theorem nw_objN {host : String} (S : CallFix p m c cc nL s args Ts own) (hM : amb D tc zb A s s.heap) (hAO : va_AO RX4 s) (hP : va_P D vwCl ws H) (hD : va_D A ws) (hS : va_S A s.heap H locs) (hA : ∀ q, s.heap.size ≤ q → A q)
    (hin : ∀ w ∈ u_ws C T N, w ∈ Ts) (ty : Nat → FieldType) (hty : ∀ k, k < N → parseFieldDescriptor (T k).2.2.1 = some (ty k)) (hcl : (Cond.classLink own ik C).before args s = true) (hinst : (Cond.instantiable C N).before args s = true) (hini : (Cond.initialized C).before args s = true) (hc : vwCl[ci]? = some (C, T, N)) (hfs : ∀ j, j < N → defaultValue (ty j) = vp_V fs j)
    (hNW : ∀ q sz, NW l y wsy fr lo mc ms D tc zb q sz (.inr (ci, fs)) (wp q)) (hG : GoodIn Ts wsy) (hw : wsy = Cond.code y bytes maxL none :: ws') (hnl : (own, idx, y) ∈ nstM) (hhost : host = "TripleWays") (hini2 : (Cond.initialized y.cls).before args s = true) (hinm : (Cond.instanceMethod y).before args s = true) (hy1 : y.name = "<init>")
    (hd : y.cls ≠ "java/lang/invoke/MethodHandle" ∧ y.cls ≠ "java/lang/invoke/VarHandle" ∧ (parseMethodDescriptor y.desc).map (fun d => d.parameters.length) = some 0) (hR : fr + 1 ≤ R.frames ∧ 8 + (maxL + 11) + lo ≤ R.locals)
    (hls : ls.size = nL) (hW : ((Value.ref 0 :: rest).map fun v => v.category).sum ≤ 8) (d0 : decode cc pc = .ok (.new ik, 3)) (d3 : decode cc (pc + 3) = .ok (.dup, 1)) (d4 : decode cc (pc + 4) = .ok (.invokespecial idx, 3)) (hf : cells + 1 + mc ≤ R.cells ∧ slots + N + ms ≤ R.slots)
    (kk : ∀ (q : Nat) (as : Nat → Nat) (H1 : Heap) (locs1 : List Loc), va_P D vwCl (ws ++ wp q as) H1 → va_D A (ws ++ wp q as) → va_S A s.heap H1 locs1 → W p l e R s m args below meth c H1 locs1 (cells + 1 + mc) (slots + N + ms) Q (F0 m (pc + 7) ls (.ref q :: rest))) : W p l e R s m args below meth c H locs cells slots Q (F0 m pc ls rest) := by
  subst hhost
  refine va_new S.1 S.2.1 S.2.2.2.2 hin ty hty S.2.2.2.1 hcl hinst hini hM.1 hP hD hS hA hc hfs (by omega) (by omega) d0 (fun q H1 hP1 hD1 hS1 => ?_)
  refine lv_dup S.1 S.2.1 d3 rfl ?_
  have hlast : (ws ++ [(q, (Sum.inr (ci, fs) : va_E))])[ws.length]? = some (q, .inr (ci, fs)) := by simp
  have hsub : ∀ x, nwA q H1.size x → A x := fun x z => by
    rcases z with z | z
    · rw [z]; exact hD1.2 _ _ hlast
    · exact hA x (Nat.le_trans hS1.1 z)
  have hPq : va_P D vwCl [(q, (Sum.inr (ci, fs) : va_E))] H1 := by
    intro k x hk
    have h1 := (List.getElem?_eq_some_iff.mp hk).1
    have h2 : k = 0 := by simp at h1; omega
    subst h2; cases hk; exact hP1 _ _ hlast
  have hr := va_runIN (e := e) (H := H1) (locs := locs) (cells := cells + 1) (slots := slots + N) (below := below) (meth := meth) (g := F0 m (pc + 4) ls (.ref q :: .ref q :: rest)) (rest := .ref q :: rest) (As := []) S (hNW q H1.size) ⟨va_cnB 0 S.2.2.2.2 hG hw rfl rfl (hM.2.2.2.2.2.2.1 _ hnl) hini2 hd hR, hy1, hinm⟩ ⟨nwB_blind, fun U hU hW => ⟨rfl, by rw [hU], by rw [hU]; exact amb.narrow (amb.moved hW (hM.go hS1)) hsub, va_AO.moved hW.alike hAO, by rw [hU]; exact hPq⟩⟩ rfl rfl hls rfl (lv_room hW) d4 hf
  exact nw_go rfl hr hP1 hD1 hS1 hA (fun as H2 locs1 a1 a2 a3 => kk q as H2 locs1 a1 a2 a3)
theorem nw_objI (S : CallFix p m c cc nL s args Ts own) (hM : amb D tc zb A s s.heap) (hAO : va_AO RX4 s) (hP : va_P D vwCl ws H) (hD : va_D A ws) (hS : va_S A s.heap H locs) (hA : ∀ q, s.heap.size ≤ q → A q)
    (hin : ∀ w ∈ u_ws C T N, w ∈ Ts) (ty : Nat → FieldType) (hty : ∀ k, k < N → parseFieldDescriptor (T k).2.2.1 = some (ty k)) (hcl : (Cond.classLink own ik C).before args s = true) (hinst : (Cond.instantiable C N).before args s = true) (hini : (Cond.initialized C).before args s = true) (hc : vwCl[ci]? = some (C, T, N)) (hfs : ∀ j, j < N → defaultValue (ty j) = vp_V fs j)
    (hNW : ∀ q sz, NW l y wsy fr lo mc ms D tc zb q sz (.inr (ci, fs)) (wp q)) (hG : GoodIn Ts wsy) (hw : wsy = Cond.code y bytes maxL none :: ws') (hlk2 : (Cond.methodLink own idx y).before args s = true) (hini2 : (Cond.initialized y.cls).before args s = true) (hinm : (Cond.instanceMethod y).before args s = true) (hy1 : y.name = "<init>")
    (hd : y.cls ≠ "java/lang/invoke/MethodHandle" ∧ y.cls ≠ "java/lang/invoke/VarHandle" ∧ (parseMethodDescriptor y.desc).map (fun d => d.parameters.length) = some 0) (hR : fr + 1 ≤ R.frames ∧ 8 + (maxL + 11) + lo ≤ R.locals)
    (hls : ls.size = nL) (hW : ((Value.ref 0 :: rest).map fun v => v.category).sum ≤ 8) (d0 : decode cc pc = .ok (.new ik, 3)) (d3 : decode cc (pc + 3) = .ok (.dup, 1)) (d4 : decode cc (pc + 4) = .ok (.invokespecial idx, 3)) (hf : cells + 1 + mc ≤ R.cells ∧ slots + N + ms ≤ R.slots)
    (kk : ∀ (q : Nat) (as : Nat → Nat) (H1 : Heap) (locs1 : List Loc), va_P D vwCl (ws ++ wp q as) H1 → va_D A (ws ++ wp q as) → va_S A s.heap H1 locs1 → W p l e R s m args below meth c H1 locs1 (cells + 1 + mc) (slots + N + ms) Q (F0 m (pc + 7) ls (.ref q :: rest))) : W p l e R s m args below meth c H locs cells slots Q (F0 m pc ls rest) := by
  refine va_new S.1 S.2.1 S.2.2.2.2 hin ty hty S.2.2.2.1 hcl hinst hini hM.1 hP hD hS hA hc hfs (by omega) (by omega) d0 (fun q H1 hP1 hD1 hS1 => ?_)
  refine lv_dup S.1 S.2.1 d3 rfl ?_
  have hlast : (ws ++ [(q, (Sum.inr (ci, fs) : va_E))])[ws.length]? = some (q, .inr (ci, fs)) := by simp
  have hsub : ∀ x, nwA q H1.size x → A x := fun x z => by
    rcases z with z | z
    · rw [z]; exact hD1.2 _ _ hlast
    · exact hA x (Nat.le_trans hS1.1 z)
  have hPq : va_P D vwCl [(q, (Sum.inr (ci, fs) : va_E))] H1 := by
    intro k x hk
    have h1 := (List.getElem?_eq_some_iff.mp hk).1
    have h2 : k = 0 := by simp at h1; omega
    subst h2; cases hk; exact hP1 _ _ hlast
  have hr := va_runI (e := e) (H := H1) (locs := locs) (cells := cells + 1) (slots := slots + N) (below := below) (meth := meth) (g := F0 m (pc + 4) ls (.ref q :: .ref q :: rest)) (rest := .ref q :: rest) (As := []) S (hNW q H1.size) (cwI 0 S.2.2.2.2 hG hw rfl rfl hini2 hlk2 hinm hy1 hd hR) ⟨nwB_blind, fun U hU hW => ⟨rfl, by rw [hU], by rw [hU]; exact amb.narrow (amb.moved hW (hM.go hS1)) hsub, va_AO.moved hW.alike hAO, by rw [hU]; exact hPq⟩⟩ rfl rfl hls rfl (lv_room hW) d4 hf
  exact nw_go rfl hr hP1 hD1 hS1 hA (fun as H2 locs1 a1 a2 a3 => kk q as H2 locs1 a1 a2 a3)
end
end NWC
/-- a row of references is what it holds below its length -/
theorem nw_ring {D : va_G} {cl : List vw_C} {ws : va_W} {H : Heap} {i a n : Nat} {cA : ClassId} {f f' : Nat → Option Nat} (hP : va_P D cl ws H) (hi : ws[i]? = some (a, .inl (cA, n, .inr (.inr (.inr (.inr f)))))) (h : ∀ k, k < n → f k = f' k) : va_P D cl (ws.set i (a, .inl (cA, n, .inr (.inr (.inr (.inr f')))))) H := by
  intro k q hk
  by_cases e : k = i
  · subst e
    rw [List.getElem?_set_self (List.getElem?_eq_some_iff.mp hi).1] at hk
    cases hk
    have h1 : H[a]? = some (vp_cell cA (n, .inr (.inr (.inr (.inr f))))) := hP k _ hi
    show H[a]? = some (vp_cell cA (n, .inr (.inr (.inr (.inr f')))))
    rw [h1, vp_cell_q, vp_cell_q]
    unfold arrV
    have e2 : (Array.ofFn (n := n) fun j => va_rf (f j.val)) = Array.ofFn (n := n) fun j => va_rf (f' j.val) := by
      congr 1
      funext j
      rw [h j.val j.isLt]
    rw [e2]
  · rw [List.getElem?_set_ne (fun z => e z.symm)] at hk
    exact hP k q hk
section ASTQ
variable {p : Program} {l : Launch} {e : Env} {R : Room} {s : State} {m : MethodId} {args : Array Value} {below : List Frame} {meth : Method} {c : Code} {H : Heap} {locs : List Loc} {cells slots : Nat} {Q : State → Prop} {cc : ByteArray} {pc : Nat} {ls : Array Slot} {rest : List Value} {cl : List vw_C} {tys : List (ClassId × FieldType)} {a : Nat} {D : va_G} {ws : va_W} {A : Nat → Prop} {H0 : Heap}
theorem ln_astq (hx : p.tables.exec = Jvm.exec) (hb : c.code = cc) (hK : va_K D cl tys s) (hP : va_P D cl ws H) (hD : va_D A ws) (hS : va_S A H0 H locs) (q0 t0 qk ci : Nat) {cA : ClassId} {r : vw_C} {n v i : Nat} {vs : List Value} {f : Nat → Option Nat} (ha : ws[q0]? = some (a, .inl (cA, n, .inr (.inr (.inr (.inr f)))))) (ht : tys[t0]? = some (cA, .object r.1)) (hv : ws[qk]? = some (v, .inr (ci, vs))) (hc : cl[ci]? = some r) (hdg : decode cc pc = .ok (.aastore, 1)) (hn : n < 2 ^ 31) (hi : i < n)
    (kk : ∀ (H1 : Heap) (locs1 : List Loc), va_P D cl (ws.set q0 (a, .inl (cA, n, .inr (.inr (.inr (.inr (va_up f i (some v)))))))) H1 → va_D A (ws.set q0 (a, .inl (cA, n, .inr (.inr (.inr (.inr (va_up f i (some v)))))))) → va_S A H0 H1 locs1 → W p l e R s m args below meth c H1 locs1 cells slots Q (F0 m (pc + 1) ls rest)) : W p l e R s m args below meth c H locs cells slots Q (F0 m pc ls (.ref v :: .int (nI i) :: .ref a :: rest)) :=
  va_astq hx hb hK hP hD hS q0 t0 qk ci ha ht hv hc (vp_in_nI hi hn) hdg (by rw [nI_clamp (Nat.lt_trans hi hn)]; exact kk)
end ASTQ
