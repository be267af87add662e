/-! LAW: worlds side by side; calls over a whole world; methods with a table. -/
theorem inw_l {w w2 : va_W} : ∀ q, inw w q → inw (w ++ w2) q := fun q ⟨k, e, h⟩ => ⟨k, e, by rw [List.getElem?_append_left (List.getElem?_eq_some_iff.mp h).1]; exact h⟩
theorem inw_r {w w2 : va_W} : ∀ q, inw w2 q → inw (w ++ w2) q := fun q ⟨k, e, h⟩ => ⟨w.length + k, e, by rw [List.getElem?_append_right (by omega), Nat.add_sub_cancel_left]; exact h⟩
theorem va_P_l {D : va_G} {cl : List vw_C} {w w2 : va_W} {H : Heap} (h : va_P D cl (w ++ w2) H) : va_P D cl w H := fun k q hk => h k q (by rw [List.getElem?_append_left (List.getElem?_eq_some_iff.mp hk).1]; exact hk)
theorem va_P_r {D : va_G} {cl : List vw_C} {w w2 : va_W} {H : Heap} (h : va_P D cl (w ++ w2) H) : va_P D cl w2 H := fun k q hk => h (w.length + k) q (by rw [List.getElem?_append_right (by omega), Nat.add_sub_cancel_left]; exact hk)
theorem va_D_l {A : Nat → Prop} {w w2 : va_W} (h : va_D A (w ++ w2)) : va_D A w :=
  have up : ∀ (k : Nat) (q : Nat × va_E), w[k]? = some q → (w ++ w2)[k]? = some q := fun k q hk => by rw [List.getElem?_append_left (List.getElem?_eq_some_iff.mp hk).1]; exact hk
  ⟨fun i j p q hp hq e => h.1 i j p q (up i p hp) (up j q hq) e, fun k q hk => h.2 k q (up k q hk)⟩
theorem va_D_r {A : Nat → Prop} {w w2 : va_W} (h : va_D A (w ++ w2)) : va_D A w2 :=
  have up : ∀ (k : Nat) (q : Nat × va_E), w2[k]? = some q → (w ++ w2)[w.length + k]? = some q := fun k q hk => by rw [List.getElem?_append_right (by omega), Nat.add_sub_cancel_left]; exact hk
  ⟨fun i j p q hp hq e => by have := h.1 _ _ p q (up i p hp) (up j q hq) e; omega, fun k q hk => h.2 _ q (up k q hk)⟩
theorem va_D_x {A : Nat → Prop} {w w2 : va_W} (h : va_D A (w ++ w2)) : ∀ (k : Nat) (q : Nat × va_E), w2[k]? = some q → ¬ inw w q.1 := fun k q hk ⟨j, e, hj⟩ => by
  have h1 : (w ++ w2)[w.length + k]? = some q := by rw [List.getElem?_append_right (by omega), Nat.add_sub_cancel_left]; exact hk
  have hl := (List.getElem?_eq_some_iff.mp hj).1
  have h2 : (w ++ w2)[j]? = some (q.1, e) := by rw [List.getElem?_append_left hl]; exact hj
  have := h.1 _ _ _ _ h1 h2 rfl
  omega
theorem va_D_y {A : Nat → Prop} {w w2 : va_W} (h : va_D A (w ++ w2)) : ∀ (k : Nat) (q : Nat × va_E), w[k]? = some q → ¬ inw w2 q.1 := fun k q hk ⟨j, e, hj⟩ => by
  have hl := (List.getElem?_eq_some_iff.mp hk).1
  have h1 : (w ++ w2)[k]? = some q := by rw [List.getElem?_append_left hl]; exact hk
  have h2 : (w ++ w2)[w.length + j]? = some (q.1, e) := by rw [List.getElem?_append_right (by omega), Nat.add_sub_cancel_left]; exact hj
  have := h.1 _ _ _ _ h1 h2 rfl
  omega
/-- as IP, with room for new cells -/
def IPn (l : Launch) (y : MethodName) (ws : List Cond) (fr lo mc ms : Nat) (D : va_G) (tc : Nat → ClassId) (zb : Nat) (w w1 : va_W) (av : List Value) (v : Option Value) : Prop := Met l y ws ({ frames := fr, cells := mc, slots := ms, locals := lo } : Room) (va_Pc av (ipB D tc zb w)) (ipQ D (inw w) w1 v) mc ms (inw w)
theorem IPn.app {l : Launch} {y : MethodName} {ws : List Cond} {fr lo mc ms : Nat} {D : va_G} {tc : Nat → ClassId} {zb : Nat} {w w1 : va_W} {av : List Value} {v : Option Value} (h : IPn l y ws fr lo mc ms D tc zb w w1 av v) (w2 : va_W) : IPn l y ws fr lo mc ms D tc zb (w ++ w2) (w1 ++ w2) av v := by
  intro p e ha hc hk s m args below hf happ hP hT
  obtain ⟨hav, hM, hPw, hDw⟩ := hP
  obtain ⟨n, o, h1, h2, h3, ⟨ho, hp1, hz, hkp⟩, L, hfe, hL⟩ := h p e ha hc hk s m args below hf happ ⟨hav, hM.narrow inw_l, va_P_l hPw, inw_self (va_D_l hDw)⟩ hT
  refine ⟨n, o, h1, h2, h3, ⟨ho, hp1.app (fun k q hk => ?_), hz, fun q a b => hkp q a (fun z => b (inw_l q z))⟩, L, hfe, fun q hq => inw_l _ (hL q hq)⟩
  have h9 := va_P_r hPw k q hk
  exact h9.kept (hkp q.1 h9.lt (va_D_x hDw k q hk))
theorem IPn.appl {l : Launch} {y : MethodName} {ws : List Cond} {fr lo mc ms : Nat} {D : va_G} {tc : Nat → ClassId} {zb : Nat} {w w1 : va_W} {av : List Value} {v : Option Value} (h : IPn l y ws fr lo mc ms D tc zb w w1 av v) (w2 : va_W) : IPn l y ws fr lo mc ms D tc zb (w2 ++ w) (w2 ++ w1) av v := by
  intro p e ha hc hk s m args below hf happ hP hT
  obtain ⟨hav, hM, hPw, hDw⟩ := hP
  obtain ⟨n, o, h1, h2, h3, ⟨ho, hp1, hz, hkp⟩, L, hfe, hL⟩ := h p e ha hc hk s m args below hf happ ⟨hav, hM.narrow inw_r, va_P_r hPw, inw_self (va_D_r hDw)⟩ hT
  refine ⟨n, o, h1, h2, h3, ⟨ho, va_P.app (fun k q hk => ?_) hp1, hz, fun q a b => hkp q a (fun z => b (inw_r q z))⟩, L, hfe, fun q hq => inw_r _ (hL q hq)⟩
  have h9 := va_P_l hPw k q hk
  exact h9.kept (hkp q.1 h9.lt (va_D_y hDw k q hk))
theorem IPn.ofT {l : Launch} {y : MethodName} {ws ws' : List Cond} {fr lo mc ms : Nat} {D : va_G} {tc : Nat → ClassId} {zb : Nat} {w w1 : va_W} {av : List Value} {v : Option Value} {cc : ByteArray} {maxL : Nat} {ret : Option FieldType} {hh : List (Nat × Nat × Nat × Nat)}
    (hy : plainName y.cls = true) (hw : ws = Cond.codeWith y cc maxL ret hh :: ws') (hlen : (lg_sl av).length ≤ maxL)
    (body : ∀ (p : Program) (e : Env) (s : State) (m : MethodId) (args : Array Value) (below : List Frame) (meth : Method) (c : Code) (A : Nat → Prop), p.tables.exec = Jvm.exec → c.code = cc → meth.sig.returnType = ret → c.maxLocals = maxL → meth.locks = false → (∀ x ∈ ws, x.before args s = true) → s.vm.findClass y.cls = some m.cls → c.exceptionTable.toList = tableOf hh → amb D tc zb A s s.heap → va_S A s.heap s.heap [] → va_P D vwCl w s.heap → va_D A w → ∀ ls : Array Slot, lv_has ls maxL (lv_args 0 av) →
      W p l e ({ frames := fr, cells := mc, slots := ms, locals := lo } : Room) s m args below meth c s.heap [] 0 0 (MQ below (ipQ D A w1 v) args s mc ms A) (F0 m 0 ls [])) : IPn l y ws fr lo mc ms D tc zb w w1 av v := by
  unfold IPn Met
  refine MetFree.of_bodyS (code := cc) (maxLocals := maxL) (ret := ret) hy ?_ ?_
  · intro args s m h hn
    obtain ⟨m9, meth, c, hn9, h1, h2, h3, h4, -, h5, h6, -⟩ := Cond.codeWith_spec (atoms_spec (ws := ws) h _ (by rw [hw]; exact List.mem_cons_self))
    cases hn.symm.trans hn9
    exact ⟨meth, c, h1, h2, h3, h4, h5, h6⟩
  · intro p e s m args below meth c s₁ B hml hv _
    obtain ⟨rfl, hM, hP, hD⟩ := hv
    have hts := atoms_spec (ws := ws) B.pre
    have hown : s.vm.findClass y.cls = some m.cls := findClass_of_methodNamed B.named
    have hex := vx_table (x := y) B (hts _ (by rw [hw]; exact List.mem_cons_self))
    have hl := lv_entry av (n := maxL) hlen
    have hh0 : s₁.heap = s.heap := by rw [B.state]; rfl
    have h9 := body p e s m _ below meth c (inw w) B.exec B.bytes B.returns hml B.notSynchronized hts hown hex hM va_S.rf hP hD _ hl
    rw [← lg_entry_eq] at h9
    obtain ⟨t, a1, o, b1, b2, b3⟩ := h9 s₁ hh0 (Stand.of_body B)
    exact ⟨t, o, a1, b1, b2, ⟨b3.1, b3.2⟩⟩
abbrev w_o (tc : Nat → ClassId) (bo : Nat) (f : Nat → Int64) : Nat × va_E := (bo, .inl (tc 4, 1, .inr (.inl f)))
section LAWC
variable {p : Program} {l : Launch} {e : Env} {R : Room} {s : State} {m : MethodId} {args : Array Value} {below : List Frame} {meth : Method} {c : Code} {H : Heap} {locs : List Loc} {cells slots : Nat} {Q : State → Prop} {pc : Nat} {ls : Array Slot} {rest st0 : List Value}
variable {y : MethodName} {bytes cc : ByteArray} {maxL nL n idx fr lo mc ms : Nat} {ret : Option FieldType} {wsy ws' : List Cond} {Ts : List Cond} {own C E : String} {b : Nat} {As : List Value} {v : Option Value} {D : va_G} {tc : Nat → ClassId} {zb : Nat} {A : Nat → Prop} {wl wc w1 : va_W}
theorem ipF_go {g : JFrame} {a : Array Value} (hg9 : g = F0 m pc ls st0) (hr : va_Run p l e R s m args below meth c H locs cells slots mc ms g rest (ipQ D (inw wl) w1 v a) (inw wl)) (hS : va_S A s.heap H locs) (hP : va_P D vwCl wl H) (hD : va_D A wl) (had : w1.map Prod.fst = wl.map Prod.fst)
    (kk : ∀ (H1 : Heap) (locs1 : List Loc), va_P D vwCl w1 H1 → va_D A w1 → va_S A s.heap H1 locs1 → W p l e R s m args below meth c H1 locs1 (cells + mc) (slots + ms) Q (F0 m (pc + 3) ls (v.toList ++ rest))) : W p l e R s m args below meth c H locs cells slots Q g := by
  subst hg9
  intro T hT X
  obtain ⟨v', st₀, t, T', L, h0, X', hL, e1, e2, ⟨hv, hp1, hz, hk⟩, st⟩ := hr T hT X
  cases hv
  rw [h0] at hz hk
  have hsub : ∀ q, inw wl q → A q := fun q ⟨k, e, h⟩ => hD.2 k (q, e) h
  have hS1 : va_S A s.heap T'.heap (locs ++ L) := ⟨Nat.le_trans hS.1 (by rw [e1]; exact hz), fun q h1 h2 => by rw [e1, hk q (Nat.lt_of_lt_of_le h1 hS.1) (fun z => h2 (hsub q z))]; exact hS.2.1 q h1 h2, fun q hq => (List.mem_append.mp hq).elim (hS.2.2 q) (fun h => hsub _ (hL q h))⟩
  obtain ⟨t2, a1, b1⟩ := kk T'.heap (locs ++ L) (by rw [e1]; exact hp1) (va_D_addr hD had) hS1 T' rfl X'
  exact ⟨t2, st t2 a1, b1⟩
theorem ipF_V (S : CallFix p m c cc nL s args Ts own) (hM : amb D tc zb A s s.heap) (hS : va_S A s.heap H locs) (hP : va_P D vwCl wl H) (hD : va_D A wl) (hc : IPn l y wsy fr lo mc ms D tc zb wl w1 (.ref b :: As) v) (hg : GoodIn Ts (wsV own idx C y wsy)) (hw : wsy = Cond.code y bytes maxL ret :: ws')
    (hd : y.cls = C ∧ y.cls ≠ "java/lang/invoke/MethodHandle" ∧ y.cls ≠ "java/lang/invoke/VarHandle" ∧ (parseMethodDescriptor y.desc).map (fun d => d.parameters.length) = some n) (hR : fr + 1 ≤ R.frames ∧ 8 + (maxL + 11) + lo ≤ R.locals) (had : w1.map Prod.fst = wl.map Prod.fst)
    (hrecv : ∃ cell : Cell, H[b]? = some cell ∧ cell.vm.isStatics = false ∧ s.vm.findClass C = some cell.cls) (hn : As.length = n) (hls : ls.size = nL) (hst : st0 = As.reverse ++ .ref b :: rest) (hW : (rest.map fun v => v.category).sum ≤ 8) (hdg : decode cc pc = .ok (.invokevirtual idx, 3)) (hf : cells + mc ≤ R.cells ∧ slots + ms ≤ R.slots)
    (kk : ∀ (H1 : Heap) (locs1 : List Loc), va_P D vwCl w1 H1 → va_D A w1 → va_S A s.heap H1 locs1 → W p l e R s m args below meth c H1 locs1 (cells + mc) (slots + ms) Q (F0 m (pc + 3) ls (v.toList ++ rest))) : W p l e R s m args below meth c H locs cells slots Q (F0 m pc ls st0) := by
  have hsub : ∀ q, inw wl q → A q := fun q ⟨k, e, h⟩ => hD.2 k (q, e) h
  have hr := va_runV (e := e) (H := H) (locs := locs) (cells := cells) (slots := slots) (below := below) (meth := meth) (g := F0 m pc ls st0) (rest := rest) S hc (cwV n S.2.2.2.2 hg hw rfl rfl hd hR) ⟨ipB_blind, hrecv, fun U hU hW => ⟨rfl, by rw [hU]; exact amb.narrow (amb.moved hW (hM.go hS)) hsub, by rw [hU]; exact hP, inw_self hD⟩⟩ rfl hn hls hst (lv_room hW) hdg hf
  exact ipF_go rfl hr hS hP hD had kk
theorem ipF_SW {hh : List (Nat × Nat × Nat × Nat)} (S : CallFix p m c cc nL s args Ts own) (hM : amb D tc zb A s s.heap) (hS : va_S A s.heap H locs) (hP : va_P D vwCl wl H) (hD : va_D A wl) (hc : IPn l y wsy fr lo mc ms D tc zb wl w1 As v) (hg : GoodIn Ts (va_wsS own idx y wsy)) (hw : wsy = Cond.codeWith y bytes maxL ret hh :: ws')
    (hd : y.cls ≠ "java/lang/invoke/MethodHandle" ∧ y.cls ≠ "java/lang/invoke/VarHandle" ∧ (parseMethodDescriptor y.desc).map (fun d => d.parameters.length) = some n) (hR : fr + 1 ≤ R.frames ∧ 8 + (maxL + 11) + lo ≤ R.locals) (had : w1.map Prod.fst = wl.map Prod.fst)
    (hn : As.length = n) (hls : ls.size = nL) (hst : st0 = As.reverse ++ rest) (hW : (rest.map fun v => v.category).sum ≤ 8) (hdg : decode cc pc = .ok (.invokestatic idx, 3)) (hf : cells + mc ≤ R.cells ∧ slots + ms ≤ R.slots)
    (kk : ∀ (H1 : Heap) (locs1 : List Loc), va_P D vwCl w1 H1 → va_D A w1 → va_S A s.heap H1 locs1 → W p l e R s m args below meth c H1 locs1 (cells + mc) (slots + ms) Q (F0 m (pc + 3) ls (v.toList ++ rest))) : W p l e R s m args below meth c H locs cells slots Q (F0 m pc ls st0) := by
  have hsub : ∀ q, inw wl q → A q := fun q ⟨k, e, h⟩ => hD.2 k (q, e) h
  have hr := vx_runSW (e := e) (H := H) (locs := locs) (cells := cells) (slots := slots) (below := below) (meth := meth) (g := F0 m pc ls st0) (rest := rest) S hc (vx_cwSW n S.2.2.2.2 hg hw rfl rfl hd hR) ⟨ipB_blind, fun U hU hW => ⟨rfl, by rw [hU]; exact amb.narrow (amb.moved hW (hM.go hS)) hsub, by rw [hU]; exact hP, inw_self hD⟩⟩ rfl hn hls hst (lv_room hW) hdg hf
  exact ipF_go rfl hr hS hP hD had kk
/-- a callee that throws, over the front part of a world -/
theorem th_VF (S : CallFix p m c cc nL s args Ts own) (hM : amb D tc zb A s s.heap) (hS : va_S A s.heap H locs) (hP : va_P D vwCl (wc ++ wl) H) (hc : TH l y wsy fr lo D tc zb wc (.ref b :: As) E) (hg : GoodIn Ts (wsV own idx C y wsy)) (hw : wsy = Cond.code y bytes maxL ret :: ws')
    (hd : y.cls = C ∧ y.cls ≠ "java/lang/invoke/MethodHandle" ∧ y.cls ≠ "java/lang/invoke/VarHandle" ∧ (parseMethodDescriptor y.desc).map (fun d => d.parameters.length) = some n) (hR : fr + 1 ≤ R.frames ∧ 8 + (maxL + 11) + lo ≤ R.locals)
    (hrecv : ∃ cell : Cell, H[b]? = some cell ∧ cell.vm.isStatics = false ∧ s.vm.findClass C = some cell.cls) (hn : As.length = n) (hls : ls.size = nL) (hst : st0 = As.reverse ++ .ref b :: rest) (hW : (rest.map fun v => v.category).sum ≤ 8) (hdg : decode cc pc = .ok (.invokevirtual idx, 3)) (hf : cells + 1 ≤ R.cells ∧ slots + 6 ≤ R.slots)
    (kk : ∀ (H1 : Heap) (q : Nat) (ce : Cell), va_P D vwCl (wc ++ wl) H1 → va_S A s.heap H1 locs → H1[q]? = some ce → ce.vm = .none → s.vm.findClass E = some ce.cls → vx_W p l e R s m args below meth c H1 locs (cells + 1) (slots + 6) Q (F0 m pc ls rest) q) : W p l e R s m args below meth c H locs cells slots Q (F0 m pc ls st0) := by
  have hr := vx_runV (e := e) (H := H) (locs := locs) (cells := cells) (slots := slots) (below := below) (meth := meth) (g := F0 m pc ls st0) (rest := rest) S hc (cwV n S.2.2.2.2 hg hw rfl rfl hd hR) ⟨roB_blind, hrecv, fun U hU hW => ⟨rfl, by rw [hU]; exact amb.narrow (amb.moved hW (hM.go hS)) (fun _ h => h.elim), by rw [hU]; exact va_P_l hP⟩⟩ rfl hn hls hst (lv_room hW) hdg hf
  exact th_go rfl hr (fun H1 q ce h1 h2 h3 h4 h5 => kk H1 q ce (hP.kept (fun k x hk => h2 _ (hP k x hk).lt)) ⟨Nat.le_trans hS.1 h1, fun x a b => (h2 x (Nat.lt_of_lt_of_le a hS.1)).trans (hS.2.1 x a b), hS.2.2⟩ h3 h4 h5)
theorem ipn_iret {x : Int32} (hx : p.tables.exec = Jvm.exec) (hb : c.code = cc) (hr : meth.sig.returnType = some .int) (hlk : meth.locks = false) (hdg : decode cc pc = .ok (.ireturn, 1)) (hS : va_S A s.heap H locs) (hP : va_P D vwCl w1 H) (h1 : cells ≤ mc) (h2 : slots ≤ ms) : W p l e R s m args below meth c H locs cells slots (MQ below (ipQ D A w1 (some (.int x))) args s mc ms A) (F0 m pc ls [.int x]) :=
  W.widen h1 h2 (W.iret hx hb hr (fun t ht _ => ⟨rfl, by rw [ht]; exact hP, hS.F ht⟩) hS.2.2 hdg hlk)
theorem lx_last {bo : Nat} {f : Nat → Int64} {x : Int64} (hx : p.tables.exec = Jvm.exec) (hb : c.code = cc) (hK : va_K D vwCl (TY tc) s) (hP : va_P D vwCl (wl ++ [w_o tc bo f]) H) (hD : va_D A (wl ++ [w_o tc bo f])) (hS : va_S A s.heap H locs) (hdg : decode cc pc = .ok (.lastore, 1))
    (kk : ∀ (H1 : Heap) (locs1 : List Loc), va_P D vwCl (wl ++ [w_o tc bo (vp_updL f 0 x)]) H1 → va_D A (wl ++ [w_o tc bo (vp_updL f 0 x)]) → va_S A s.heap H1 locs1 → W p l e R s m args below meth c H1 locs1 cells slots Q (F0 m (pc + 1) ls rest)) : W p l e R s m args below meth c H locs cells slots Q (F0 m pc ls (.long x :: .int (nI 0) :: .ref bo :: rest)) := by
  refine va_last hx hb hK hP hD hS wl.length 4 (cA := tc 4) (n := 1) (f := f) (by simp) rfl (vp_in_nI (by decide) (by decide)) hdg ?_
  rw [nI_clamp (by decide)]
  have e : ∀ z : Nat × va_E, (wl ++ [w_o tc bo f]).set wl.length z = wl ++ [z] := fun z => by simp
  rw [e]
  exact kk
/-- what the law's own reader finds in the answer's row -/
theorem lx_lald {bo : Nat} {f : Nat → Int64} (hx : p.tables.exec = Jvm.exec) (hb : c.code = cc) (hK : va_K D vwCl (TY tc) s) (hP : va_P D vwCl ((wl ++ [w_o tc bo f]) ++ wc) H) (hdg : decode cc pc = .ok (.laload, 1))
    (kk : W p l e R s m args below meth c H locs cells slots Q (F0 m (pc + 1) ls (.long (f 0) :: rest))) : W p l e R s m args below meth c H locs cells slots Q (F0 m pc ls (.int (nI 0) :: .ref bo :: rest)) :=
  va_lald hx hb hK (va_P_l hP) wl.length 4 (cA := tc 4) (n := 1) (f := f) (by simp) rfl (vp_in_nI (by decide) (by decide)) hdg (by rw [nI_clamp (by decide)]; exact kk)
end LAWC
