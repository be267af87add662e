/-! IP: the contract of a method that writes into cells of its own world w, makes none, answers v; w1 is that world behind it (the same addresses). -/
def inw (w : va_W) : Nat → Prop := fun q => ∃ (k : Nat) (e : va_E), w[k]? = some (q, e)
theorem inw_self {A : Nat → Prop} {w : va_W} (h : va_D A w) : va_D (inw w) w := ⟨h.1, fun k q hk => ⟨k, q.2, hk⟩⟩
theorem inw_sub {A : Nat → Prop} {ws wc : va_W} (hD : va_D A ws) (isC : List Nat) (hC : isC.map (fun i => ws[i]?) = wc.map some) : ∀ q, inw wc q → A q := by
  rintro q ⟨k, e, h⟩
  have h1 : (isC.map (fun i => ws[i]?))[k]? = some (some (q, e)) := by rw [hC, List.getElem?_map, h]; rfl
  rw [List.getElem?_map] at h1
  cases hi : isC[k]? with
  | none => rw [hi] at h1; cases h1
  | some i => rw [hi] at h1; exact hD.2 i (q, e) (Option.some.inj h1)
theorem va_P_map {D : va_G} {cl : List vw_C} {ws wc : va_W} {H : Heap} (h : va_P D cl ws H) (isC : List Nat) (hC : isC.map (fun i => ws[i]?) = wc.map some) : va_P D cl wc H := by
  intro k q hk
  have h1 : (isC.map (fun i => ws[i]?))[k]? = some (some q) := by rw [hC, List.getElem?_map, hk]; rfl
  rw [List.getElem?_map] at h1
  cases hi : isC[k]? with
  | none => rw [hi] at h1; cases h1
  | some i => rw [hi] at h1; exact h i q (Option.some.inj h1)
theorem va_D_addr {A : Nat → Prop} {ws ws' : va_W} (hD : va_D A ws) (h : ws'.map Prod.fst = ws.map Prod.fst) : va_D A ws' := by
  have key : ∀ (k : Nat) (q : Nat × va_E), ws'[k]? = some q → ∃ q0 : Nat × va_E, ws[k]? = some q0 ∧ q0.1 = q.1 := by
    intro k q hk
    have h1 : (ws'.map Prod.fst)[k]? = some q.1 := by rw [List.getElem?_map, hk]; rfl
    rw [h, List.getElem?_map] at h1
    cases h2 : ws[k]? with
    | none => rw [h2] at h1; cases h1
    | some q0 => rw [h2] at h1; exact ⟨q0, rfl, Option.some.inj h1⟩
  refine ⟨fun i j p q hp hq e => ?_, fun k q hk => ?_⟩
  · obtain ⟨p0, a1, a2⟩ := key i p hp
    obtain ⟨q0, b1, b2⟩ := key j q hq
    exact hD.1 i j p0 q0 a1 b1 (by rw [a2, b2, e])
  · obtain ⟨q0, a1, a2⟩ := key k q hk
    rw [← a2]
    exact hD.2 k q0 a1
theorem ip_join {D : va_G} {cl : List vw_C} {A : Nat → Prop} {ws wc w1 ws' : va_W} {H H1 : Heap} (hP : va_P D cl ws H) (hD : va_D A ws) (isC : List Nat) (hC : isC.map (fun i => ws[i]?) = wc.map some) (hk : ∀ q : Nat, q < H.size → ¬ inw wc q → H1[q]? = H[q]?) (hP1 : va_P D cl w1 H1)
    (ps : List (Bool × Nat)) (hps : ps.map (fun x => if x.1 = true then w1[x.2]? else ws[x.2]?) = ws'.map some) (hok : ps.all (fun x => x.1 || decide (x.2 ∉ isC)) = true) : va_P D cl ws' H1 := by
  intro k q hq
  have h1 : (ps.map (fun x => if x.1 = true then w1[x.2]? else ws[x.2]?))[k]? = some (some q) := by rw [hps, List.getElem?_map, hq]; rfl
  rw [List.getElem?_map] at h1
  cases hx : ps[k]? with
  | none => rw [hx] at h1; cases h1
  | some x =>
    rw [hx] at h1
    obtain ⟨b, i⟩ := x
    cases b with
    | true => exact hP1 i q (Option.some.inj h1)
    | false =>
      have h2 : ws[i]? = some q := Option.some.inj h1
      have hi : i ∉ isC := by
        have h9 := List.all_eq_true.mp hok (false, i) (List.mem_of_getElem? hx)
        simpa using h9
      refine (hP i q h2).kept (hk q.1 (hP i q h2).lt ?_)
      rintro ⟨k2, e, h⟩
      have h3 : (isC.map (fun i => ws[i]?))[k2]? = some (some (q.1, e)) := by rw [hC, List.getElem?_map, h]; rfl
      rw [List.getElem?_map] at h3
      cases hj : isC[k2]? with
      | none => rw [hj] at h3; cases h3
      | some j =>
        rw [hj] at h3
        have h4 : ws[j]? = some (q.1, e) := Option.some.inj h3
        have h5 := hD.1 i j q (q.1, e) h2 h4 rfl
        subst h5
        exact hi (List.mem_of_getElem? hj)
def ipB (D : va_G) (tc : Nat → ClassId) (zb : Nat) (w : va_W) (U : State) : Prop := amb D tc zb (inw w) U U.heap ∧ va_P D vwCl w U.heap ∧ va_D (inw w) w
def ipQ (D : va_G) (A : Nat → Prop) (w1 : va_W) (v : Option Value) : Array Value → State → Outcome → State → Prop := fun _ st oc t => oc = .returned v ∧ va_P D vwCl w1 t.heap ∧ va_F A st t
def IP (l : Launch) (y : MethodName) (ws : List Cond) (fr lo : Nat) (D : va_G) (tc : Nat → ClassId) (zb : Nat) (w w1 : va_W) (av : List Value) (v : Option Value) : Prop := Met l y ws ({ frames := fr, cells := 0, slots := 0, locals := lo } : Room) (va_Pc av (ipB D tc zb w)) (ipQ D (inw w) w1 v) 0 0 (inw w)
theorem ipB_blind {D : va_G} {tc : Nat → ClassId} {zb : Nat} {w : va_W} {av : List Value} : FrameBlind (va_Pc av (ipB D tc zb w)) := fun a U g mk q => ⟨q.1, amb.same (u := U) (U := U.calling g mk a) rfl q.2.1, q.2.2⟩
theorem IP.of {l : Launch} {y : MethodName} {ws ws' : List Cond} {fr lo : Nat} {D : va_G} {tc : Nat → ClassId} {zb : Nat} {w w1 : va_W} {av : List Value} {v : Option Value} {cc : ByteArray} {maxL : Nat} {ret : Option FieldType}
    (hy : plainName y.cls = true) (hw : ws = Cond.code y cc maxL ret :: ws') (hlen : (lg_sl av).length ≤ maxL)
    (body : ∀ (p : Program) (e : Env) (s : State) (m : MethodId) (args : Array Value) (below : List Frame) (meth : Method) (c : Code) (A : Nat → Prop), p.tables.exec = Jvm.exec → c.code = cc → meth.sig.returnType = ret → c.maxLocals = maxL → meth.locks = false → (∀ x ∈ ws, x.before args s = true) → s.vm.findClass y.cls = some m.cls → amb D tc zb A s s.heap → va_S A s.heap s.heap [] → va_P D vwCl w s.heap → va_D A w → ∀ ls : Array Slot, lv_has ls maxL (lv_args 0 av) →
      W p l e ({ frames := fr, cells := 0, slots := 0, locals := lo } : Room) s m args below meth c s.heap [] 0 0 (MQ below (ipQ D A w1 v) args s 0 0 A) (F0 m 0 ls [])) : IP l y ws fr lo D tc zb w w1 av v := by
  refine Met.ofW (cc := cc) (maxL := maxL) (ret := ret) hy hw ?_
  intro p e s m args below meth c s₁ B hml hv
  obtain ⟨rfl, hM, hP, hD⟩ := hv
  have hts := atoms_spec (ws := ws) B.pre
  have hown : s.vm.findClass y.cls = some m.cls := findClass_of_methodNamed B.named
  have hl := lv_entry av (n := maxL) hlen
  have h9 := body p e s m _ below meth c (inw w) B.exec B.bytes B.returns hml B.notSynchronized hts hown hM va_S.rf hP hD _ hl
  rw [lg_entry_eq]
  exact h9
section IPC
variable {p : Program} {l : Launch} {e : Env} {R : Room} {s : State} {m : MethodId} {args : Array Value} {below : List Frame} {meth : Method} {c : Code} {H : Heap} {locs : List Loc} {cells slots : Nat} {Q : State → Prop} {pc : Nat} {ls : Array Slot} {rest st0 : List Value}
variable {y : MethodName} {bytes cc : ByteArray} {maxL nL n idx fr lo : Nat} {ret : Option FieldType} {wsy ws' : List Cond} {Ts : List Cond} {own C : String} {b : Nat} {As : List Value} {v : Option Value} {D : va_G} {tc : Nat → ClassId} {zb : Nat} {A : Nat → Prop} {wl wc w1 wl' : va_W}
theorem ip_go {g : JFrame} {a : Array Value} (hg9 : g = F0 m pc ls st0) (hr : va_Run p l e R s m args below meth c H locs cells slots 0 0 g rest (ipQ D (inw wc) w1 v a) (inw wc)) (hS : va_S A s.heap H locs) (hP : va_P D vwCl wl H) (hD : va_D A wl) (isC : List Nat) (hC : isC.map (fun i => wl[i]?) = wc.map some)
    (ps : List (Bool × Nat)) (hps : ps.map (fun x => if x.1 = true then w1[x.2]? else wl[x.2]?) = wl'.map some) (hok : ps.all (fun x => x.1 || decide (x.2 ∉ isC)) = true) (had : wl'.map Prod.fst = wl.map Prod.fst)
    (kk : ∀ (H1 : Heap) (locs1 : List Loc), va_P D vwCl wl' H1 → va_D A wl' → va_S A s.heap H1 locs1 → W p l e R s m args below meth c H1 locs1 cells slots Q (F0 m (pc + 3) ls (v.toList ++ rest))) : W p l e R s m args below meth c H locs cells slots Q g := by
  subst hg9
  intro T hT X
  obtain ⟨v', st₀, t, T', L, h0, X', hL, e1, e2, ⟨hv, hp1, hz, hk⟩, st⟩ := hr T hT X
  cases hv
  rw [h0] at hz hk
  have hsub := inw_sub hD isC hC
  have hS1 : va_S A s.heap T'.heap (locs ++ L) := ⟨Nat.le_trans hS.1 (by rw [e1]; exact hz), fun q h1 h2 => by rw [e1, hk q (Nat.lt_of_lt_of_le h1 hS.1) (fun z => h2 (hsub q z))]; exact hS.2.1 q h1 h2, fun q hq => (List.mem_append.mp hq).elim (hS.2.2 q) (fun h => hsub _ (hL q h))⟩
  have hP1 : va_P D vwCl wl' T'.heap := ip_join hP hD isC hC (fun q h1 h2 => by rw [e1]; exact hk q h1 h2) (by rw [e1]; exact hp1) ps hps hok
  obtain ⟨t2, a1, b1⟩ := kk T'.heap (locs ++ L) hP1 (va_D_addr hD had) hS1 T' rfl X'
  exact ⟨t2, st t2 a1, b1⟩
theorem ip_V (S : CallFix p m c cc nL s args Ts own) (hM : amb D tc zb A s s.heap) (hS : va_S A s.heap H locs) (hP : va_P D vwCl wl H) (hD : va_D A wl) (hc : IP l y wsy fr lo D tc zb wc w1 (.ref b :: As) v) (hg : GoodIn Ts (wsV own idx C y wsy)) (hw : wsy = Cond.code y bytes maxL ret :: ws')
    (hd : y.cls = C ∧ y.cls ≠ "java/lang/invoke/MethodHandle" ∧ y.cls ≠ "java/lang/invoke/VarHandle" ∧ (parseMethodDescriptor y.desc).map (fun d => d.parameters.length) = some n) (hR : fr + 1 ≤ R.frames ∧ 8 + (maxL + 11) + lo ≤ R.locals)
    (isC : List Nat) (hC : isC.map (fun i => wl[i]?) = wc.map some) (hnd : va_nd isC = true) (ps : List (Bool × Nat)) (hps : ps.map (fun x => if x.1 = true then w1[x.2]? else wl[x.2]?) = wl'.map some) (hok : ps.all (fun x => x.1 || decide (x.2 ∉ isC)) = true) (had : wl'.map Prod.fst = wl.map Prod.fst)
    (hrecv : ∃ cell : Cell, H[b]? = some cell ∧ cell.vm.isStatics = false ∧ s.vm.findClass C = some cell.cls) (hn : As.length = n) (hls : ls.size = nL) (hst : st0 = As.reverse ++ .ref b :: rest) (hW : (rest.map fun v => v.category).sum ≤ 8) (hdg : decode cc pc = .ok (.invokevirtual idx, 3)) (hf : cells ≤ R.cells ∧ slots ≤ R.slots)
    (kk : ∀ (H1 : Heap) (locs1 : List Loc), va_P D vwCl wl' H1 → va_D A wl' → va_S A s.heap H1 locs1 → W p l e R s m args below meth c H1 locs1 cells slots Q (F0 m (pc + 3) ls (v.toList ++ rest))) : W p l e R s m args below meth c H locs cells slots Q (F0 m pc ls st0) := by
  have hr := va_runV (e := e) (H := H) (locs := locs) (cells := cells) (slots := slots) (below := below) (meth := meth) (g := F0 m pc ls st0) (rest := rest) S hc (cwV n S.2.2.2.2 hg hw rfl rfl hd hR) ⟨ipB_blind, hrecv, fun U hU hW => ⟨rfl, by rw [hU]; exact amb.narrow (amb.moved hW (hM.go hS)) (inw_sub hD isC hC), by rw [hU]; exact va_P_map hP isC hC, inw_self (hD.sub isC hnd hC)⟩⟩ rfl hn hls hst (lv_room hW) hdg hf
  exact ip_go rfl hr hS hP hD isC hC ps hps hok had kk
theorem ip_S (S : CallFix p m c cc nL s args Ts own) (hM : amb D tc zb A s s.heap) (hS : va_S A s.heap H locs) (hP : va_P D vwCl wl H) (hD : va_D A wl) (hc : IP l y wsy fr lo D tc zb wc w1 As v) (hg : GoodIn Ts (va_wsS own idx y wsy)) (hw : wsy = Cond.code y bytes maxL ret :: ws')
    (hd : y.cls ≠ "java/lang/invoke/MethodHandle" ∧ y.cls ≠ "java/lang/invoke/VarHandle" ∧ (parseMethodDescriptor y.desc).map (fun d => d.parameters.length) = some n) (hR : fr + 1 ≤ R.frames ∧ 8 + (maxL + 11) + lo ≤ R.locals)
    (isC : List Nat) (hC : isC.map (fun i => wl[i]?) = wc.map some) (hnd : va_nd isC = true) (ps : List (Bool × Nat)) (hps : ps.map (fun x => if x.1 = true then w1[x.2]? else wl[x.2]?) = wl'.map some) (hok : ps.all (fun x => x.1 || decide (x.2 ∉ isC)) = true) (had : wl'.map Prod.fst = wl.map Prod.fst)
    (hn : As.length = n) (hls : ls.size = nL) (hst : st0 = As.reverse ++ rest) (hW : (rest.map fun v => v.category).sum ≤ 8) (hdg : decode cc pc = .ok (.invokestatic idx, 3)) (hf : cells ≤ R.cells ∧ slots ≤ R.slots)
    (kk : ∀ (H1 : Heap) (locs1 : List Loc), va_P D vwCl wl' H1 → va_D A wl' → va_S A s.heap H1 locs1 → W p l e R s m args below meth c H1 locs1 cells slots Q (F0 m (pc + 3) ls (v.toList ++ rest))) : W p l e R s m args below meth c H locs cells slots Q (F0 m pc ls st0) := by
  have hr := va_runS (e := e) (H := H) (locs := locs) (cells := cells) (slots := slots) (below := below) (meth := meth) (g := F0 m pc ls st0) (rest := rest) S hc (va_cwS n S.2.2.2.2 hg hw rfl rfl hd hR) ⟨ipB_blind, fun U hU hW => ⟨rfl, by rw [hU]; exact amb.narrow (amb.moved hW (hM.go hS)) (inw_sub hD isC hC), by rw [hU]; exact va_P_map hP isC hC, inw_self (hD.sub isC hnd hC)⟩⟩ rfl hn hls hst (lv_room hW) hdg hf
  exact ip_go rfl hr hS hP hD isC hC ps hps hok had kk
theorem ip_iret {x x' : Int32} (hx : p.tables.exec = Jvm.exec) (hb : c.code = cc) (hr : meth.sig.returnType = some .int) (hlk : meth.locks = false) (hdg : decode cc pc = .ok (.ireturn, 1)) (hS : va_S A s.heap H locs) (hv : x' = x) (hP : va_P D vwCl w1 H) : W p l e R s m args below meth c H locs 0 0 (MQ below (ipQ D A w1 (some (.int x))) args s 0 0 A) (F0 m pc ls [.int x']) :=
  W.iret hx hb hr (fun t ht _ => ⟨by rw [hv], by rw [ht]; exact hP, hS.F ht⟩) hS.2.2 hdg hlk
theorem ip_zret {x' : Int32} {v : Bool} (hx : p.tables.exec = Jvm.exec) (hb : c.code = cc) (hr : meth.sig.returnType = some .boolean) (hlk : meth.locks = false) (hdg : decode cc pc = .ok (.ireturn, 1)) (hS : va_S A s.heap H locs) (hv : x' = bI v) (hP : va_P D vwCl w1 H) : W p l e R s m args below meth c H locs 0 0 (MQ below (ipQ D A w1 (some (.int (bI v)))) args s 0 0 A) (F0 m pc ls [.int x']) := by
  subst hv
  exact W.zret hx hb hr (bI_n v) (fun t ht _ => ⟨rfl, by rw [ht]; exact hP, hS.F ht⟩) hS.2.2 hdg hlk
theorem ip_zretN {x x' : Nat} (hx : p.tables.exec = Jvm.exec) (hb : c.code = cc) (hr : meth.sig.returnType = some .boolean) (hlk : meth.locks = false) (hdg : decode cc pc = .ok (.ireturn, 1)) (hS : va_S A s.heap H locs) (hv : nI x' = nI x) (hP : va_P D vwCl w1 H) (h1 : x < 2 := by decide) : W p l e R s m args below meth c H locs 0 0 (MQ below (ipQ D A w1 (some (.int (nI x)))) args s 0 0 A) (F0 m pc ls [.int (nI x')]) := by
  rw [hv]
  exact W.zret hx hb hr (by rcases (show x = 0 ∨ x = 1 by omega) with q | q <;> subst q <;> decide) (fun t ht _ => ⟨rfl, by rw [ht]; exact hP, hS.F ht⟩) hS.2.2 hdg hlk
theorem ip_vret (hx : p.tables.exec = Jvm.exec) (hb : c.code = cc) (hr : meth.sig.returnType = none) (hlk : meth.locks = false) (hdg : decode cc pc = .ok (.return_, 1)) (hS : va_S A s.heap H locs) (hP : va_P D vwCl w1 H) : W p l e R s m args below meth c H locs 0 0 (MQ below (ipQ D A w1 none) args s 0 0 A) (F0 m pc ls []) :=
  W.vret hx hb hr (fun t ht _ => ⟨rfl, by rw [ht]; exact hP, hS.F ht⟩) hS.2.2 hdg hlk
theorem ln_iast {cl : List vw_C} {tys : List (ClassId × FieldType)} {a : Nat} (hx : p.tables.exec = Jvm.exec) (hb : c.code = cc) (hK : va_K D cl tys s) (hP : va_P D cl wl H) (hD : va_D A wl) (hS : va_S A s.heap H locs) (q0 t0 : Nat) {cA : ClassId} {N i : Nat} {f : Nat → Int32} {x : Int32} (ha : wl[q0]? = some (a, .inl (cA, N, .inl f))) (ht : tys[t0]? = some (cA, .int)) (hdg : decode cc pc = .ok (.iastore, 1)) (hn : N < 2 ^ 31) (hi : i < N)
    (kk : ∀ (H1 : Heap) (locs1 : List Loc), va_P D cl (wl.set q0 (a, .inl (cA, N, .inl (upd f i x)))) H1 → va_D A (wl.set q0 (a, .inl (cA, N, .inl (upd f i x)))) → va_S A s.heap H1 locs1 → W p l e R s m args below meth c H1 locs1 cells slots Q (F0 m (pc + 1) ls rest)) : W p l e R s m args below meth c H locs cells slots Q (F0 m pc ls (.int x :: .int (nI i) :: .ref a :: rest)) := by
  refine va_iast hx hb hK hP hD hS q0 t0 ha ht (vp_in_nI hi hn) hdg ?_
  rw [nI_clamp (Nat.lt_trans hi hn)]
  exact kk
end IPC
def k_up (g : Nat → Nat) (i x : Nat) : Nat → Nat := fun k => if k = i then x else g k
theorem k_upI (g : Nat → Nat) (i x : Nat) : upd (fun k => nI (g k)) i (nI x) = fun k => nI (k_up g i x k) := by
  funext k
  show (if k = i then nI x else nI (g k)) = nI (if k = i then x else g k)
  split <;> rfl
theorem k_up_eq {g : Nat → Nat} {i x k : Nat} (h : k = i) : k_up g i x k = x := if_pos h
theorem k_up_ne {g : Nat → Nat} {i x k : Nat} (h : k ≠ i) : k_up g i x k = g k := if_neg h
section IPN
variable {p : Program} {l : Launch} {e : Env} {R : Room} {s : State} {m : MethodId} {args : Array Value} {below : List Frame} {meth : Method} {c : Code} {H : Heap} {locs : List Loc} {cells slots : Nat} {Q : State → Prop} {cc : ByteArray} {pc : Nat} {ls : Array Slot} {rest : List Value} {D : va_G} {A : Nat → Prop} {wl : va_W}
theorem ln_iastN {cl : List vw_C} {tys : List (ClassId × FieldType)} {a : Nat} (hx : p.tables.exec = Jvm.exec) (hb : c.code = cc) (hK : va_K D cl tys s) (hP : va_P D cl wl H) (hD : va_D A wl) (hS : va_S A s.heap H locs) (q0 t0 : Nat) {cA : ClassId} {N i x : Nat} {g : Nat → Nat} (ha : wl[q0]? = some (a, .inl (cA, N, .inl (fun k => nI (g k))))) (ht : tys[t0]? = some (cA, .int)) (hdg : decode cc pc = .ok (.iastore, 1)) (hn : N < 2 ^ 31) (hi : i < N)
    (kk : ∀ (H1 : Heap) (locs1 : List Loc), va_P D cl (wl.set q0 (a, .inl (cA, N, .inl (fun k => nI (k_up g i x k))))) H1 → va_D A (wl.set q0 (a, .inl (cA, N, .inl (fun k => nI (k_up g i x k))))) → va_S A s.heap H1 locs1 → W p l e R s m args below meth c H1 locs1 cells slots Q (F0 m (pc + 1) ls rest)) : W p l e R s m args below meth c H locs cells slots Q (F0 m pc ls (.int (nI x) :: .int (nI i) :: .ref a :: rest)) :=
  ln_iast hx hb hK hP hD hS q0 t0 ha ht hdg hn hi (by rw [k_upI]; exact kk)
end IPN
