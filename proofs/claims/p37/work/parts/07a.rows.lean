/-! ROWS over references and long answers; worlds made wider; methods that throw. -/
section R7A
variable {p : Program} {l : Launch} {e : Env} {R : Room} {s : State} {m : MethodId} {args : Array Value} {below : List Frame} {meth : Method} {c : Code} {H : Heap} {locs : List Loc} {cells slots : Nat} {Q : State → Prop} {cc : ByteArray} {pc : Nat} {ls : Array Slot} {rest : List Value} {cl : List vw_C} {tys : List (ClassId × FieldType)} {a : Nat} {D : va_G} {wl : va_W}
theorem ln_eqV {v v' : Value} (h : v = v') (k : W p l e R s m args below meth c H locs cells slots Q (F0 m pc ls (v' :: rest))) : W p l e R s m args below meth c H locs cells slots Q (F0 m pc ls (v :: rest)) := h ▸ k
theorem ln_aldq (hx : p.tables.exec = Jvm.exec) (hb : c.code = cc) (hK : va_K D cl tys s) (hP : va_P D cl wl H) (q0 t0 : Nat) {cA : ClassId} {C : String} {n i v : Nat} {f : Nat → Option Nat} (ha : wl[q0]? = some (a, .inl (cA, n, .inr (.inr (.inr (.inr f)))))) (ht : tys[t0]? = some (cA, .object C)) (hdg : decode cc pc = .ok (.aaload, 1)) (hn : n < 2 ^ 31) (hi : i < n) (hv : f i = some v)
    (kk : W p l e R s m args below meth c H locs cells slots Q (F0 m (pc + 1) ls (.ref v :: rest))) : W p l e R s m args below meth c H locs cells slots Q (F0 m pc ls (.int (nI i) :: .ref a :: rest)) :=
  va_aldq hx hb hK hP q0 t0 ha ht (vp_in_nI hi hn) hdg (by rw [nI_clamp (Nat.lt_trans hi hn), hv]; exact kk)
theorem ro_aret {v' : Value} {C : String} {q : Nat} (hx : p.tables.exec = Jvm.exec) (hb : c.code = cc) (hr : meth.sig.returnType = some (.object C)) (hlk : meth.locks = false) (hdg : decode cc pc = .ok (.areturn, 1)) (hv : v' = .ref q) : W p l e R s m args below meth c s.heap [] 0 0 (MQ below (roQ (.ref q)) args s 0 0 (fun _ => False)) (F0 m pc ls [v']) := by
  subst hv
  exact W.aret hx hb hr (Or.inl ⟨_, rfl⟩) (Or.inr ⟨_, rfl⟩) (fun t ht _ => ⟨rfl, ht⟩) (fun _ h => by cases h) hdg hlk
theorem ro_lret {x x' : Int64} (hx : p.tables.exec = Jvm.exec) (hb : c.code = cc) (hr : meth.sig.returnType = some .long) (hlk : meth.locks = false) (hdg : decode cc pc = .ok (.lreturn, 1)) (hv : x' = x) : W p l e R s m args below meth c s.heap [] 0 0 (MQ below (roQ (.long x)) args s 0 0 (fun _ => False)) (F0 m pc ls [.long x']) :=
  W.lret hx hb hr (fun t ht _ => ⟨by rw [hv], ht⟩) (fun _ h => by cases h) hdg hlk
end R7A
/-! a contract over a part of a world is one over the whole of it -/
theorem IP.up {l : Launch} {y : MethodName} {ws : List Cond} {fr lo : Nat} {D : va_G} {tc : Nat → ClassId} {zb : Nat} {wc w1 wl wl' : va_W} {av : List Value} {v : Option Value} (h : IP l y ws fr lo D tc zb wc w1 av v) (isC : List Nat) (hC : isC.map (fun i => wl[i]?) = wc.map some) (hnd : va_nd isC = true)
    (ps : List (Bool × Nat)) (hps : ps.map (fun x => if x.1 = true then w1[x.2]? else wl[x.2]?) = wl'.map some) (hok : ps.all (fun x => x.1 || decide (x.2 ∉ isC)) = true) : IP l y ws fr lo D tc zb wl wl' av v := by
  intro p e ha hc hk s m args below hf happ hP hT
  have hsub := inw_sub hP.2.2.2 isC hC
  obtain ⟨n, o, h1, h2, h3, ⟨ho, hp1, hz, hkp⟩, L, hfe, hL⟩ := h p e ha hc hk s m args below hf happ ⟨hP.1, hP.2.1.narrow hsub, va_P_map hP.2.2.1 isC hC, inw_self (hP.2.2.2.sub isC hnd hC)⟩ hT
  exact ⟨n, o, h1, h2, h3, ⟨ho, ip_join hP.2.2.1 hP.2.2.2 isC hC hkp hp1 ps hps hok, hz, fun q a b => hkp q a (fun z => b (hsub q z))⟩, L, hfe, fun q hq => hsub _ (hL q hq)⟩
theorem RO.up {l : Launch} {y : MethodName} {ws : List Cond} {fr lo : Nat} {D : va_G} {tc : Nat → ClassId} {zb : Nat} {wc wl : va_W} {av : List Value} {v : Value} (h : RO l y ws fr lo D tc zb wc av v) (isC : List Nat) (hC : isC.filterMap (fun i => wl[i]?) = wc) : RO l y ws fr lo D tc zb wl av v := by
  intro p e ha hc hk s m args below hf happ hP hT
  exact h p e ha hc hk s m args below hf happ ⟨hP.1, hP.2.1, hP.2.2.sub isC hC⟩ hT
theorem RO.ip {l : Launch} {y : MethodName} {ws : List Cond} {fr lo : Nat} {D : va_G} {tc : Nat → ClassId} {zb : Nat} {w : va_W} {av : List Value} {v : Value} (h : RO l y ws fr lo D tc zb w av v) : IP l y ws fr lo D tc zb w w av (some v) := by
  intro p e ha hc hk s m args below hf happ hP hT
  obtain ⟨n, o, h1, h2, h3, ⟨ho, hh⟩, L, hfe, hL⟩ := h p e ha hc hk s m args below hf happ ⟨hP.1, hP.2.1.narrow (fun _ z => z.elim), hP.2.2.1⟩ hT
  exact ⟨n, o, h1, h2, h3, ⟨ho, by rw [hh]; exact hP.2.2.1, by rw [hh]; exact Nat.le_refl _, fun q _ _ => by rw [hh]⟩, L, hfe, fun q hq => (hL q hq).elim⟩
/-! ROV: a method that changes nothing and answers nothing -/
def rovQ : Array Value → State → Outcome → State → Prop := fun _ st oc t => oc = .returned none ∧ t.heap = st.heap
def ROV (l : Launch) (y : MethodName) (ws : List Cond) (fr lo : Nat) (D : va_G) (tc : Nat → ClassId) (zb : Nat) (w : va_W) (av : List Value) : Prop := Met l y ws ({ frames := fr, cells := 0, slots := 0, locals := lo } : Room) (va_Pc av (roB D tc zb w)) rovQ 0 0 (fun _ => False)
theorem ROV.of {l : Launch} {y : MethodName} {ws ws' : List Cond} {fr lo : Nat} {D : va_G} {tc : Nat → ClassId} {zb : Nat} {w : va_W} {av : List Value} {cc : ByteArray} {maxL : Nat} {ret : Option FieldType}
    (hy : plainName y.cls = true) (hw : ws = Cond.code y cc maxL ret :: ws') (hlen : (lg_sl av).length ≤ maxL)
    (body : ∀ (p : Program) (e : Env) (s : State) (m : MethodId) (args : Array Value) (below : List Frame) (meth : Method) (c : Code), p.tables.exec = Jvm.exec → c.code = cc → meth.sig.returnType = ret → c.maxLocals = maxL → meth.locks = false → (∀ x ∈ ws, x.before args s = true) → s.vm.findClass y.cls = some m.cls → amb D tc zb (fun _ => False) s s.heap → va_S (fun _ => False) s.heap s.heap [] → va_P D vwCl w s.heap → ∀ ls : Array Slot, lv_has ls maxL (lv_args 0 av) →
      W p l e ({ frames := fr, cells := 0, slots := 0, locals := lo } : Room) s m args below meth c s.heap [] 0 0 (MQ below rovQ args s 0 0 (fun _ => False)) (F0 m 0 ls [])) : ROV l y ws fr lo D tc zb w av := by
  refine Met.ofW (cc := cc) (maxL := maxL) (ret := ret) hy hw ?_
  intro p e s m args below meth c s₁ B hml hv
  obtain ⟨rfl, hM, hP⟩ := hv
  have hts := atoms_spec (ws := ws) B.pre
  have hown : s.vm.findClass y.cls = some m.cls := findClass_of_methodNamed B.named
  have hl := lv_entry av (n := maxL) hlen
  have h9 := body p e s m _ below meth c B.exec B.bytes B.returns hml B.notSynchronized hts hown hM va_S.rf hP _ hl
  rw [lg_entry_eq]
  exact h9
section ROVC
variable {p : Program} {l : Launch} {e : Env} {R : Room} {s : State} {m : MethodId} {args : Array Value} {below : List Frame} {meth : Method} {c : Code} {H : Heap} {locs : List Loc} {cells slots : Nat} {Q : State → Prop} {pc : Nat} {ls : Array Slot} {rest st0 : List Value}
variable {y : MethodName} {bytes cc : ByteArray} {maxL nL n idx fr lo : Nat} {ret : Option FieldType} {wsy ws' : List Cond} {Ts : List Cond} {own C : String} {b : Nat} {As : List Value} {v : Value} {D : va_G} {tc : Nat → ClassId} {zb : Nat} {A : Nat → Prop} {wl wc : va_W}
theorem rov_S (S : CallFix p m c cc nL s args Ts own) (hM : amb D tc zb A s s.heap) (hS : va_S A s.heap H locs) (hP : va_P D vwCl wl H) (hc : ROV l y wsy fr lo D tc zb wc As) (hg : GoodIn Ts (va_wsS own idx y wsy)) (hw : wsy = Cond.code y bytes maxL ret :: ws')
    (hd : y.cls ≠ "java/lang/invoke/MethodHandle" ∧ y.cls ≠ "java/lang/invoke/VarHandle" ∧ (parseMethodDescriptor y.desc).map (fun d => d.parameters.length) = some n) (hR : fr + 1 ≤ R.frames ∧ 8 + (maxL + 11) + lo ≤ R.locals)
    (isC : List Nat) (hC : isC.filterMap (fun i => wl[i]?) = wc) (hn : As.length = n) (hls : ls.size = nL) (hst : st0 = As.reverse ++ rest) (hW : (rest.map fun v => v.category).sum ≤ 8) (hdg : decode cc pc = .ok (.invokestatic idx, 3)) (hf : cells ≤ R.cells ∧ slots ≤ R.slots)
    (kk : W p l e R s m args below meth c H locs cells slots Q (F0 m (pc + 3) ls rest)) : W p l e R s m args below meth c H locs cells slots Q (F0 m pc ls st0) := by
  have hr := va_runS (e := e) (H := H) (locs := locs) (cells := cells) (slots := slots) (below := below) (meth := meth) (g := F0 m pc ls st0) (rest := rest) S hc (va_cwS n S.2.2.2.2 hg hw rfl rfl hd hR) ⟨roB_blind, fun U hU hW => ⟨rfl, by rw [hU]; exact amb.narrow (amb.moved hW (hM.go hS)) (fun _ h => h.elim), by rw [hU]; exact hP.sub isC hC⟩⟩ rfl hn hls hst (lv_room hW) hdg hf
  intro T hT X
  obtain ⟨v', st₀, t, T', L, h0, X', hL, e1, e2, ⟨hv, hh⟩, st⟩ := hr T hT X
  cases L with
  | cons q L => exact (hL q List.mem_cons_self).elim
  | nil =>
    cases hv
    rw [List.append_nil] at X'
    obtain ⟨t2, a1, b1⟩ := kk T' (by rw [e1, hh, h0]) X'
    exact ⟨t2, st t2 a1, b1⟩
theorem rov_ret (hx : p.tables.exec = Jvm.exec) (hb : c.code = cc) (hr : meth.sig.returnType = none) (hlk : meth.locks = false) (hdg : decode cc pc = .ok (.return_, 1)) : W p l e R s m args below meth c s.heap [] 0 0 (MQ below rovQ args s 0 0 (fun _ => False)) (F0 m pc ls []) :=
  W.vret hx hb hr (fun t ht _ => ⟨rfl, ht⟩) (fun _ h => by cases h) hdg hlk
end ROVC
/-! TH: a method that throws an exception of the class E, and changes nothing -/
def thQ (E : String) : String → State → State → Prop := fun E' st t => E' = E ∧ st.heap.size ≤ t.heap.size ∧ ∀ q : Nat, q < st.heap.size → t.heap[q]? = st.heap[q]?
def noQ : Array Value → State → Outcome → State → Prop := fun _ _ _ _ => False
def TH (l : Launch) (y : MethodName) (ws : List Cond) (fr lo : Nat) (D : va_G) (tc : Nat → ClassId) (zb : Nat) (w : va_W) (av : List Value) (E : String) : Prop := vx_Met l y ws ({ frames := fr, cells := 1, slots := 6, locals := lo } : Room) (va_Pc av (roB D tc zb w)) noQ (thQ E) 1 6 (fun _ => False)
theorem TH.up {l : Launch} {y : MethodName} {ws : List Cond} {fr lo : Nat} {D : va_G} {tc : Nat → ClassId} {zb : Nat} {wc wl : va_W} {av : List Value} {E : String} (h : TH l y ws fr lo D tc zb wc av E) (isC : List Nat) (hC : isC.filterMap (fun i => wl[i]?) = wc) : TH l y ws fr lo D tc zb wl av E := by
  intro p e ha hc hk s m args below hf happ hP hT
  exact h p e ha hc hk s m args below hf happ ⟨hP.1, hP.2.1, hP.2.2.sub isC hC⟩ hT
theorem TH.of {l : Launch} {y : MethodName} {ws ws' : List Cond} {fr lo : Nat} {D : va_G} {tc : Nat → ClassId} {zb : Nat} {w : va_W} {av : List Value} {E : String} {cc : ByteArray} {maxL : Nat} {ret : Option FieldType}
    (hy : plainName y.cls = true) (hw : ws = Cond.code y cc maxL ret :: ws') (hlen : (lg_sl av).length ≤ maxL)
    (body : ∀ (p : Program) (e : Env) (s : State) (m : MethodId) (args : Array Value) (below : List Frame) (meth : Method) (c : Code), p.tables.exec = Jvm.exec → c.code = cc → meth.sig.returnType = ret → c.maxLocals = maxL → meth.locks = false → (∀ x ∈ ws, x.before args s = true) → s.vm.findClass y.cls = some m.cls → (∀ x ∈ c.exceptionTable.toList, False) → amb D tc zb (fun _ => False) s s.heap → va_S (fun _ => False) s.heap s.heap [] → va_P D vwCl w s.heap → ∀ ls : Array Slot, lv_has ls maxL (lv_args 0 av) →
      W p l e ({ frames := fr, cells := 1, slots := 6, locals := lo } : Room) s m args below meth c s.heap [] 0 0 (vx_MQ below noQ (thQ E) args s 1 6 (fun _ => False)) (F0 m 0 ls [])) : TH l y ws fr lo D tc zb w av E := by
  refine vx_ofW (cc := cc) (maxL := maxL) (ret := ret) hy hw ?_
  intro p e s m args below meth c s₁ B hml hex hv
  obtain ⟨rfl, hM, hP⟩ := hv
  have hts := atoms_spec (ws := ws) B.pre
  have hown : s.vm.findClass y.cls = some m.cls := findClass_of_methodNamed B.named
  have hl := lv_entry av (n := maxL) hlen
  have h9 := body p e s m _ below meth c B.exec B.bytes B.returns hml B.notSynchronized hts hown hex hM va_S.rf hP _ hl
  rw [lg_entry_eq]
  exact h9
def N2 : List String := ["java/lang/RuntimeException", "java/lang/Exception"]
def thB (cls : String) : List Cond := [.castable cls cls, .declares (Bundle.initS "java/lang/RuntimeException"), .declares (Bundle.initS "java/lang/Exception"), .declares (Bundle.initS Bundle.tN)]
theorem th_decl {args : Array Value} {s : State} {x : MethodName} {b : ByteArray} {ml : Nat} {ret : Option FieldType} (hi : (Cond.instanceMethod x).before args s = true) (hc : (Cond.code x b ml ret).before args s = true) : (Cond.declares x).before args s = true := by
  obtain ⟨m, meth, h1, h2, h3, h4⟩ := Cond.instanceMethod_spec hi
  obtain ⟨meth', c, h5, -, -, -, -, -, -, h6⟩ := Cond.code_spec h1 hc
  rw [h2] at h5
  cases h5
  unfold Cond.before Cond.holds
  simp [Cond.value, h1, h2, h3, h6]
theorem th_m {own cls : String} {ic : Nat} {w : Cond} (h : w ∈ Bundle.ownAtoms own ic cls N2) (h1 : vx_no w = true) (h2 : goodWord w = true) : w ∈ (vx_atS own ic cls N2).filter goodWord := List.mem_filter.mpr ⟨List.mem_filter.mpr ⟨h, h1⟩, h2⟩
section THR
variable {p : Program} {l : Launch} {e : Env} {R : Room} {s : State} {m : MethodId} {args : Array Value} {below : List Frame} {meth : Method} {c : Code} {H : Heap} {locs : List Loc} {cells slots : Nat} {Q : State → Prop} {pc : Nat} {ls : Array Slot} {rest st0 : List Value}
variable {y : MethodName} {bytes cc : ByteArray} {maxL nL n idx fr lo : Nat} {ret : Option FieldType} {wsy ws' : List Cond} {Ts : List Cond} {own C E : String} {b : Nat} {As : List Value} {D : va_G} {tc : Nat → ClassId} {zb : Nat} {A : Nat → Prop} {wl wc : va_W}
/-- behind a callee that has thrown -/
theorem th_go {g : JFrame} {a : Array Value} (hg9 : g = F0 m pc ls st0) (hr : vx_Run p l e R s m args below meth c H locs cells slots 1 6 g rest (noQ a) (thQ E) (fun _ => False))
    (kk : ∀ (H1 : Heap) (q : Nat) (ce : Cell), H.size ≤ H1.size → (∀ x : Nat, x < H.size → H1[x]? = H[x]?) → H1[q]? = some ce → ce.vm = .none → s.vm.findClass E = some ce.cls → vx_W p l e R s m args below meth c H1 locs (cells + 1) (slots + 6) Q (F0 m pc ls rest) q) : W p l e R s m args below meth c H locs cells slots Q g := by
  subst hg9
  intro T hT X
  rcases hr T hT X with ⟨v, st₀, t, T', L, h0, X', hL, e1, e2, hq, st⟩ | ⟨q, st₀, t, T', L, E', ce, h0, X', hL, e1, e2, hx, hce, hcv, hcl, st⟩
  · exact hq.elim
  · obtain ⟨rfl, hz, hk⟩ := hx
    rw [h0] at hz hk
    cases L with
    | cons z L => exact (hL z List.mem_cons_self).elim
    | nil =>
      rw [List.append_nil] at X'
      obtain ⟨t2, a1, b1⟩ := kk T'.heap q ce (by rw [e1]; exact hz) (fun x hx => by rw [e1]; exact hk x hx) (by rw [e1]; exact hce) hcv hcl T' rfl X'
      exact ⟨t2, st.trans a1, b1⟩
theorem th_S (S : CallFix p m c cc nL s args Ts own) (hM : amb D tc zb A s s.heap) (hS : va_S A s.heap H locs) (hP : va_P D vwCl wl H) (hc : TH l y wsy fr lo D tc zb wc As E) (hg : GoodIn Ts (va_wsS own idx y wsy)) (hw : wsy = Cond.code y bytes maxL ret :: ws')
    (hd : y.cls ≠ "java/lang/invoke/MethodHandle" ∧ y.cls ≠ "java/lang/invoke/VarHandle" ∧ (parseMethodDescriptor y.desc).map (fun d => d.parameters.length) = some n) (hR : fr + 1 ≤ R.frames ∧ 8 + (maxL + 11) + lo ≤ R.locals)
    (isC : List Nat) (hC : isC.filterMap (fun i => wl[i]?) = wc) (hn : As.length = n) (hls : ls.size = nL) (hst : st0 = As.reverse ++ rest) (hW : (rest.map fun v => v.category).sum ≤ 8) (hdg : decode cc pc = .ok (.invokestatic idx, 3)) (hf : cells + 1 ≤ R.cells ∧ slots + 6 ≤ R.slots)
    (kk : ∀ (H1 : Heap) (q : Nat) (ce : Cell), H.size ≤ H1.size → (∀ x : Nat, x < H.size → H1[x]? = H[x]?) → H1[q]? = some ce → ce.vm = .none → s.vm.findClass E = some ce.cls → vx_W p l e R s m args below meth c H1 locs (cells + 1) (slots + 6) Q (F0 m pc ls rest) q) : W p l e R s m args below meth c H locs cells slots Q (F0 m pc ls st0) := by
  have hr := vx_runS (e := e) (H := H) (locs := locs) (cells := cells) (slots := slots) (below := below) (meth := meth) (g := F0 m pc ls st0) (rest := rest) S hc (va_cwS n S.2.2.2.2 hg hw rfl rfl hd hR) ⟨roB_blind, fun U hU hW => ⟨rfl, by rw [hU]; exact amb.narrow (amb.moved hW (hM.go hS)) (fun _ h => h.elim), by rw [hU]; exact hP.sub isC hC⟩⟩ rfl hn hls hst (lv_room hW) hdg hf
  exact th_go rfl hr kk
theorem th_V (S : CallFix p m c cc nL s args Ts own) (hM : amb D tc zb A s s.heap) (hS : va_S A s.heap H locs) (hP : va_P D vwCl wl H) (hc : TH l y wsy fr lo D tc zb wc (.ref b :: As) E) (hg : GoodIn Ts (wsV own idx C y wsy)) (hw : wsy = Cond.code y bytes maxL ret :: ws')
    (hd : y.cls = C ∧ y.cls ≠ "java/lang/invoke/MethodHandle" ∧ y.cls ≠ "java/lang/invoke/VarHandle" ∧ (parseMethodDescriptor y.desc).map (fun d => d.parameters.length) = some n) (hR : fr + 1 ≤ R.frames ∧ 8 + (maxL + 11) + lo ≤ R.locals)
    (isC : List Nat) (hC : isC.filterMap (fun i => wl[i]?) = wc) (hrecv : ∃ cell : Cell, H[b]? = some cell ∧ cell.vm.isStatics = false ∧ s.vm.findClass C = some cell.cls) (hn : As.length = n) (hls : ls.size = nL) (hst : st0 = As.reverse ++ .ref b :: rest) (hW : (rest.map fun v => v.category).sum ≤ 8) (hdg : decode cc pc = .ok (.invokevirtual idx, 3)) (hf : cells + 1 ≤ R.cells ∧ slots + 6 ≤ R.slots)
    (kk : ∀ (H1 : Heap) (q : Nat) (ce : Cell), H.size ≤ H1.size → (∀ x : Nat, x < H.size → H1[x]? = H[x]?) → H1[q]? = some ce → ce.vm = .none → s.vm.findClass E = some ce.cls → vx_W p l e R s m args below meth c H1 locs (cells + 1) (slots + 6) Q (F0 m pc ls rest) q) : W p l e R s m args below meth c H locs cells slots Q (F0 m pc ls st0) := by
  have hr := vx_runV (e := e) (H := H) (locs := locs) (cells := cells) (slots := slots) (below := below) (meth := meth) (g := F0 m pc ls st0) (rest := rest) S hc (cwV n S.2.2.2.2 hg hw rfl rfl hd hR) ⟨roB_blind, hrecv, fun U hU hW => ⟨rfl, by rw [hU]; exact amb.narrow (amb.moved hW (hM.go hS)) (fun _ h => h.elim), by rw [hU]; exact hP.sub isC hC⟩⟩ rfl hn hls hst (lv_room hW) hdg hf
  exact th_go rfl hr kk
/-- it leaves a method without a table -/
theorem th_out {H1 : Heap} {q : Nat} {ce : Cell} (hex : ∀ x ∈ c.exceptionTable.toList, False) (hlk : meth.locks = false) (h1 : s.heap.size ≤ H1.size) (h2 : ∀ x : Nat, x < s.heap.size → H1[x]? = s.heap[x]?) (h3 : H1[q]? = some ce) (h4 : ce.vm = .none) (h5 : s.vm.findClass E = some ce.cls) : vx_W p l e R s m args below meth c H1 [] (0 + 1) (0 + 6) (vx_MQ below noQ (thQ E) args s 1 6 (fun _ => False)) (F0 m pc ls rest) q :=
  vx_out (E := E) (ce := ce) (fun x hx => (hex x hx).elim) hlk h3 h4 h5 (fun t ht _ => ⟨rfl, by rw [ht]; exact h1, fun x hx => by rw [ht]; exact h2 x hx⟩) (fun _ h => by cases h) (Nat.le_refl _) (Nat.le_refl _)
/-- the words of a throw: the good ones among the method's own, the others of the world -/
theorem th_hat {own cls : String} {ic : Nat} (hM : amb D tc zb A s s.heap) (h1 : ∀ w ∈ (vx_atS own ic cls N2).filter goodWord, w.before args s = true) (h2 : ∀ w ∈ (vx_atS own ic cls N2).filter (fun w => !goodWord w), w ∈ thB cls) (hq : (cls, cls) ∈ cstL) : ∀ w ∈ vx_atS own ic cls N2, w.before args s = true :=
  vx_hat h1 h2 (vx_c (va_Nw.use rfl (hM.2.2.2.2.2.2.2.2.1 _ hq)) (vx_c (th_decl (h1 _ (th_m (by simp [N2, Bundle.ownAtoms, Bundle.chainSAtoms, Bundle.passSAtoms]) (by decide +kernel) (by decide +kernel))) (h1 (.code (Bundle.initS "java/lang/RuntimeException") Bundle.six 2 none) (th_m (by simp [N2, Bundle.ownAtoms, Bundle.chainSAtoms, Bundle.passSAtoms]) (by decide +kernel) (by decide +kernel))))
    (vx_c (th_decl (h1 _ (th_m (by simp [N2, Bundle.ownAtoms, Bundle.chainSAtoms, Bundle.passSAtoms]) (by decide +kernel) (by decide +kernel))) (h1 (.code (Bundle.initS "java/lang/Exception") Bundle.six 2 none) (th_m (by simp [N2, Bundle.ownAtoms, Bundle.chainSAtoms, Bundle.passSAtoms]) (by decide +kernel) (by decide +kernel))))
    (vx_c (th_decl (h1 _ (th_m (by simp [N2, Bundle.ownAtoms, Bundle.throwableSAtoms]) (by decide +kernel) (by decide +kernel))) (h1 (.code (Bundle.initS Bundle.tN) LibCode.Throwable.InitS.code 2 none) (th_m (by simp [N2, Bundle.ownAtoms, Bundle.throwableSAtoms]) (by decide +kernel) (by decide +kernel)))) vx_n))))
theorem th_throw {own cls text : String} {ik is ic : Nat} {names : List String} (hx : p.tables.exec = Jvm.exec) (hb : c.code = cc) (hfl : l.stackTraces = false) (hown : s.vm.findClass own = some m.cls) (hex : ∀ x ∈ c.exceptionTable.toList, False) (hlk : meth.locks = false) (hM : amb D tc zb (fun _ => False) s s.heap)
    (hcls : Bundle.fit cls = true) (hnames : ∀ n ∈ names, Bundle.fit n = true) (hk : (Cond.classLink own ik cls).before args s = true) (hini : (Cond.initialized cls).before args s = true) (hstr : (own, is, text) ∈ strL) (hat : ∀ w ∈ vx_atS own ic cls names, w.before args s = true) (hgood : ∀ w ∈ Cond.classLink own ik cls :: Cond.initialized cls :: vx_atS own ic cls names, vx_ot w = true)
    (hsize : ls.size = c.maxLocals) (d0 : decode cc pc = .ok (.new ik, 3)) (d3 : decode cc (pc + 3) = .ok (.dup, 1)) (d4 : decode cc (pc + 4) = .ok (.ldc is, 2)) (d6 : decode cc (pc + 6) = .ok (.invokespecial ic, 3)) (d9 : decode cc (pc + 9) = .ok (.athrow, 1))
    (hR1 : names.length + 3 < R.frames) (hR2 : 13 * (names.length + 1) + 43 ≤ R.locals) (hR3 : 1 ≤ R.cells) (hR4 : 6 ≤ R.slots) : W p l e R s m args below meth c s.heap [] 0 0 (vx_MQ below noQ (thQ cls) args s 1 6 (fun _ => False)) (F0 m pc ls []) := by
  obtain ⟨sa, hsa⟩ := hM.2.2.2.2.2.2.2.1 _ hstr
  exact vx_throwS hx hb hfl hown hcls hnames hk hini hsa hat hgood hM.2.2.2.1 hM.2.2.2.2.1 va_S.rf hsize d0 d3 d4 d6 d9 (fun x hx => (hex x hx).elim) hR1 (by show 0 + _ ≤ _; omega) (by omega) (by omega) hlk (fun t _ h1 h2 => ⟨rfl, h1, h2⟩) (fun _ h => by cases h) (Nat.le_refl _) (Nat.le_refl _)
theorem th_throwW {own cls text : String} {ik is ic : Nat} {names : List String} (hx : p.tables.exec = Jvm.exec) (hb : c.code = cc) (hfl : l.stackTraces = false) (hown : s.vm.findClass own = some m.cls) (hex : ∀ x ∈ c.exceptionTable.toList, False) (hlk : meth.locks = false) (hM : amb D tc zb (fun _ => False) s s.heap)
    (hcls : Bundle.fit cls = true) (hnames : ∀ n ∈ names, Bundle.fit n = true) (hk : (Cond.classLink own ik cls).before args s = true) (hini : (Cond.initialized cls).before args s = true) (hstr : (own, is, text) ∈ strL) (hat : ∀ w ∈ vx_atS own ic cls names, w.before args s = true) (hgood : ∀ w ∈ Cond.classLink own ik cls :: Cond.initialized cls :: vx_atS own ic cls names, vx_ot w = true)
    (hsize : ls.size = c.maxLocals) (d0 : decode cc pc = .ok (.new ik, 3)) (d3 : decode cc (pc + 3) = .ok (.dup, 1)) (d4 : decode cc (pc + 4) = .ok (.ldc_w is, 3)) (d7 : decode cc (pc + 7) = .ok (.invokespecial ic, 3)) (d10 : decode cc (pc + 10) = .ok (.athrow, 1))
    (hR1 : names.length + 3 < R.frames) (hR2 : 13 * (names.length + 1) + 43 ≤ R.locals) (hR3 : 1 ≤ R.cells) (hR4 : 6 ≤ R.slots) : W p l e R s m args below meth c s.heap [] 0 0 (vx_MQ below noQ (thQ cls) args s 1 6 (fun _ => False)) (F0 m pc ls []) := by
  obtain ⟨sa, hsa⟩ := hM.2.2.2.2.2.2.2.1 _ hstr
  exact vx_throwSW hx hb hfl hown hcls hnames hk hini hsa hat hgood hM.2.2.2.1 hM.2.2.2.2.1 va_S.rf hsize d0 d3 d4 d7 d10 (fun x hx => (hex x hx).elim) hR1 (by show 0 + _ ≤ _; omega) (by omega) (by omega) hlk (fun t _ h1 h2 => ⟨rfl, h1, h2⟩) (fun _ h => by cases h) (Nat.le_refl _) (Nat.le_refl _)
end THR
theorem th_g54 : ∀ w ∈ Cond.classLink RX6 50 "java/lang/IllegalArgumentException" :: Cond.initialized "java/lang/IllegalArgumentException" :: vx_atS RX6 54 "java/lang/IllegalArgumentException" ["java/lang/RuntimeException", "java/lang/Exception"], vx_ot w = true := by decide +kernel
theorem th_n54 : ∀ w ∈ (vx_atS RX6 54 "java/lang/IllegalArgumentException" ["java/lang/RuntimeException", "java/lang/Exception"]).filter (fun w => !goodWord w), w ∈ thB "java/lang/IllegalArgumentException" := by decide +kernel
theorem th_g65 : ∀ w ∈ Cond.classLink RX6 61 "java/lang/IllegalStateException" :: Cond.initialized "java/lang/IllegalStateException" :: vx_atS RX6 65 "java/lang/IllegalStateException" ["java/lang/RuntimeException", "java/lang/Exception"], vx_ot w = true := by decide +kernel
theorem th_n65 : ∀ w ∈ (vx_atS RX6 65 "java/lang/IllegalStateException" ["java/lang/RuntimeException", "java/lang/Exception"]).filter (fun w => !goodWord w), w ∈ thB "java/lang/IllegalStateException" := by decide +kernel
theorem th_g314 : ∀ w ∈ Cond.classLink RX6 310 "java/lang/IndexOutOfBoundsException" :: Cond.initialized "java/lang/IndexOutOfBoundsException" :: vx_atS RX6 314 "java/lang/IndexOutOfBoundsException" ["java/lang/RuntimeException", "java/lang/Exception"], vx_ot w = true := by decide +kernel
theorem th_n314 : ∀ w ∈ (vx_atS RX6 314 "java/lang/IndexOutOfBoundsException" ["java/lang/RuntimeException", "java/lang/Exception"]).filter (fun w => !goodWord w), w ∈ thB "java/lang/IndexOutOfBoundsException" := by decide +kernel
