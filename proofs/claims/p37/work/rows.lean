section
-- ===== PART A: goes FIRST, ahead of the names: the tables' words, and 'selects' of the private methods out of them =====
/-- a private method of a class that the tables say can be made, by its rows of tables_1 -/
def lw_okq (q : MethodName × Nat) : Prop := (q.1.cls ≠ "java/lang/invoke/MethodHandle" ∧ q.1.cls ≠ "java/lang/invoke/VarHandle") ∧ Cond.instantiable q.1.cls q.2 ∈ tables_1 ∧ Cond.privateMethod q.1 ∈ tables_1 ∧ Cond.instanceMethod q.1 ∈ tables_1
theorem lw_p0 : lw_okq (⟨"java/lang/Throwable", "fillInStackTrace", "(I)Ljava/lang/Throwable;"⟩, 6) := ⟨⟨by decide +kernel, by decide +kernel⟩, List.mem_of_getElem? (i := 215) (by decide +kernel), List.mem_of_getElem? (i := 213) (by decide +kernel), List.mem_of_getElem? (i := 214) (by decide +kernel)⟩
theorem lw_p1 : lw_okq (⟨"TripleWays$History", "stateAt", "(I)LTripleWays$State;"⟩, 3) := ⟨⟨by decide +kernel, by decide +kernel⟩, List.mem_of_getElem? (i := 88) (by decide +kernel), List.mem_of_getElem? (i := 345) (by decide +kernel), List.mem_of_getElem? (i := 346) (by decide +kernel)⟩
theorem lw_p2 : lw_okq (⟨"TripleWays$State", "forgetOldest", "()V"⟩, 10) := ⟨⟨by decide +kernel, by decide +kernel⟩, List.mem_of_getElem? (i := 38) (by decide +kernel), List.mem_of_getElem? (i := 361) (by decide +kernel), List.mem_of_getElem? (i := 362) (by decide +kernel)⟩
theorem lw_p3 : lw_okq (⟨"TripleWays$State", "indexOf", "(I)I"⟩, 10) := ⟨⟨by decide +kernel, by decide +kernel⟩, List.mem_of_getElem? (i := 38) (by decide +kernel), List.mem_of_getElem? (i := 417) (by decide +kernel), List.mem_of_getElem? (i := 418) (by decide +kernel)⟩
theorem lw_p4 : lw_okq (⟨"TripleWays$State", "payUpkeep", "()V"⟩, 10) := ⟨⟨by decide +kernel, by decide +kernel⟩, List.mem_of_getElem? (i := 38) (by decide +kernel), List.mem_of_getElem? (i := 426) (by decide +kernel), List.mem_of_getElem? (i := 427) (by decide +kernel)⟩
theorem lw_p5 : lw_okq (⟨"TripleWays$Advice", "costAt", "(II)I"⟩, 6) := ⟨⟨by decide +kernel, by decide +kernel⟩, List.mem_of_getElem? (i := 108) (by decide +kernel), List.mem_of_getElem? (i := 502) (by decide +kernel), List.mem_of_getElem? (i := 503) (by decide +kernel)⟩
theorem lw_p6 : lw_okq (⟨"TripleWays$State", "countBefore", "(III)I"⟩, 10) := ⟨⟨by decide +kernel, by decide +kernel⟩, List.mem_of_getElem? (i := 38) (by decide +kernel), List.mem_of_getElem? (i := 532) (by decide +kernel), List.mem_of_getElem? (i := 533) (by decide +kernel)⟩
theorem lw_p7 : lw_okq (⟨"TripleWays$State", "rankAt", "(II)I"⟩, 10) := ⟨⟨by decide +kernel, by decide +kernel⟩, List.mem_of_getElem? (i := 38) (by decide +kernel), List.mem_of_getElem? (i := 536) (by decide +kernel), List.mem_of_getElem? (i := 537) (by decide +kernel)⟩
theorem lw_p8 : lw_okq (⟨"TripleWays$Advice", "coversAll", "(I)Z"⟩, 6) := ⟨⟨by decide +kernel, by decide +kernel⟩, List.mem_of_getElem? (i := 108) (by decide +kernel), List.mem_of_getElem? (i := 599) (by decide +kernel), List.mem_of_getElem? (i := 600) (by decide +kernel)⟩
def lw_privs_1 : List (MethodName × Nat) := [(⟨"java/lang/Throwable", "fillInStackTrace", "(I)Ljava/lang/Throwable;"⟩, 6), (⟨"TripleWays$History", "stateAt", "(I)LTripleWays$State;"⟩, 3), (⟨"TripleWays$State", "forgetOldest", "()V"⟩, 10), (⟨"TripleWays$State", "indexOf", "(I)I"⟩, 10), (⟨"TripleWays$State", "payUpkeep", "()V"⟩, 10), (⟨"TripleWays$Advice", "costAt", "(II)I"⟩, 6), (⟨"TripleWays$State", "countBefore", "(III)I"⟩, 10), (⟨"TripleWays$State", "rankAt", "(II)I"⟩, 10), (⟨"TripleWays$Advice", "coversAll", "(I)Z"⟩, 6)]
theorem lw_r1 : ∀ q ∈ lw_privs_1, lw_okq q := List.forall_mem_cons.mpr ⟨lw_p0, List.forall_mem_cons.mpr ⟨lw_p1, List.forall_mem_cons.mpr ⟨lw_p2, List.forall_mem_cons.mpr ⟨lw_p3, List.forall_mem_cons.mpr ⟨lw_p4, List.forall_mem_cons.mpr ⟨lw_p5, List.forall_mem_cons.mpr ⟨lw_p6, List.forall_mem_cons.mpr ⟨lw_p7, List.forall_mem_cons.mpr ⟨lw_p8, fun _ h => absurd h List.not_mem_nil⟩⟩⟩⟩⟩⟩⟩⟩⟩
def lw_privs : List (MethodName × Nat) := lw_privs_1
def lw_tbl : List Cond := k2_sels lw_privs ++ tables_1
theorem lw_privs_ok : ∀ q ∈ lw_privs, lw_okq q := lw_r1

/-! ===== BEGIN words of one list among another's, by their places ===== -/
theorem goodIn_r {big : List Cond} (ws : List Cond) (ps : List Nat) (hp : ws = ps.filterMap (fun i => big[i]?)) (h : ws.all goodWord = true) : GoodIn big ws := by
  intro w hw
  have h1 := List.all_eq_true.mp h w hw
  rw [hp] at hw
  obtain ⟨i, -, hi⟩ := List.mem_filterMap.mp hw
  have hm : w ∈ big := by first | exact List.mem_of_getElem? hi | exact List.getElem?_mem hi
  exact ⟨hm, good_of_word h1⟩
theorem goodIn_app {big a b : List Cond} (ha : GoodIn big a) (hb : GoodIn big b) : GoodIn big (a ++ b) := fun w h => (List.mem_append.mp h).elim (ha w) (hb w)
theorem goodIn_ca {big a b : List Cond} {c : Cond} (ha : GoodIn big (c :: a)) (hb : GoodIn big b) : GoodIn big (c :: (a ++ b)) := fun w h => (List.mem_cons.mp h).elim (fun e => ha w (List.mem_cons.mpr (Or.inl e))) (fun h => (List.mem_append.mp h).elim (fun h => ha w (List.mem_cons.mpr (Or.inr h))) (hb w))
theorem goodIn_sub {big ws : List Cond} (hm : ∀ w ∈ ws, w ∈ big) (h : ws.all goodWord = true) : GoodIn big ws := fun w hw => ⟨hm w hw, good_of_word (List.all_eq_true.mp h w hw)⟩
/-! ===== END ===== -/
end
section
/-! ===== BEGIN exceptions that leave a method, and their catching by the caller (launches without stack traces) ===== -/
section VXA
/-! The laws vx_back, vx_callV, vx_callS, vx_callSW, vx_throw0, vx_throwS follow proofs of the library, with one case more: JvmDerived/Free/Laws.lean (Back.of_free), Shelf42/LK1.lean (callV, callS), Shelf/KitTraced.lean (throwNew0V, throwNewS). -/
/-- where a method has thrown q: the class by its name, the cell, what was written, the world -/
def vx_T (XC : String → State → State → Prop) (st : State) (q : Addr) (t : State) (mc ms : Nat) (free : Addr → Prop) : Prop :=
  ∃ (E : String) (ce : Cell) (L : List Loc), XC E st t ∧ t.heap[q]? = some ce ∧ ce.vm = .none ∧ st.vm.findClass E = some ce.cls ∧ st.WarmedH t.vm ∧ st.sameButNew ({ t with vm := st.vm } : State) L mc ms ∧ ∀ z ∈ L, free z.base
def vx_Q (Qc : Array Value → State → Outcome → State → Prop) (XC : String → State → State → Prop) (mc ms : Nat) (free : Addr → Prop) : Array Value → State → Outcome → State → Prop := fun a st o t =>
  (Qc a st o t ∧ ∃ L, FrameEnd st o t L mc ms ∧ ∀ q ∈ L, free q.base) ∨ ∃ q, o = .threw q ∧ vx_T XC st q t mc ms free
/-- a callee that returns or throws -/
def vx_Met (l : Launch) (y : MethodName) (ws : List Cond) (rm : Room) (Pc : Array Value → State → Prop) (Qc : Array Value → State → Outcome → State → Prop) (XC : String → State → State → Prop) (mc ms : Nat) (free : Addr → Prop) : Prop :=
  MetFree l y (headSpec ws rm) Pc (fun _ _ _ _ _ => True) (vx_Q Qc XC mc ms free)
def vx_Post (XC : String → State → State → Prop) (mc ms : Nat) (free : Addr → Prop) : Pt → Array Value → Addr → Pt → Prop := fun A a q B =>
  ∃ (g : JFrame) (mk : MethodId) (t : State) (L : List Loc) (E : String) (ce : Cell), B.U.heap = t.heap ∧ B.U.vm = t.vm ∧ XC E (A.U.calling g mk a) t ∧ t.heap[q]? = some ce ∧ ce.vm = .none ∧ A.U.vm.findClass E = some ce.cls ∧ B.locs = A.locs ++ L ∧ (∀ z ∈ L, free z.base) ∧ B.cells = A.cells + mc ∧ B.slots = A.slots + ms
def vx_Back (l : Launch) (R : Room) (p : Program) (e : Env) (below : List Frame) (s : State) (sargs : Array Value) (y : MethodName) (len W9 : Nat)
    (Pre : Pt → Array Value → Prop) (Post : Pt → Array Value → Option Value → Pt → Prop) (PostX : Pt → Array Value → Addr → Pt → Prop) : Prop :=
  ∀ (m : MethodId) (meth : Method) (c : Code) (A : Pt) (g : JFrame) (ig : Instr) (mk : MethodId) (a : Array Value),
    Stand p l e R s m sargs below meth c A.U A.locs A.cells A.slots → g.method = m → g.locals.size = c.maxLocals → decode c.code g.pc = .ok (ig, len) →
    2 * g.monitorRoom + (g.stack.map fun v => v.category).sum ≤ W9 → A.U.methodNamed? y = some mk → Pre A a →
    (∃ (v : Option Value) (B : Pt), Stand p l e R s m sargs below meth c B.U B.locs B.cells B.slots ∧ Post A a v B ∧
      Steps p.tables e below (doInvoke e (A.U.setTop g) [] mk a).1 (B.U.setTop { g with pc := g.pc + len, stack := v.toList ++ g.stack })) ∨
    (∃ (q : Addr) (B : Pt), Stand p l e R s m sargs below meth c B.U B.locs B.cells B.slots ∧ PostX A a q B ∧
      Steps p.tables e below (doInvoke e (A.U.setTop g) [] mk a).1 ((B.U.setTop g).pushFrame (.throwing q)))
section Payer
variable {l : Launch} {R : Room} {p : Program} {e : Env} {below : List Frame} {s : State} {sargs : Array Value} {y : MethodName} {len W9 : Nat}
theorem vx_back {ws : List Cond} {rm : Room} {Pc : Array Value → State → Prop} {Qc : Array Value → State → Outcome → State → Prop} {XC : String → State → State → Prop} {mc ms : Nat} {free : Addr → Prop} {bytes : ByteArray} {maxL : Nat} {ret : Option FieldType}
    (hM : vx_Met l y ws rm Pc Qc XC mc ms free) (hblind : FrameBlind Pc) (hrc : rm.cells = mc) (hrs : rm.slots = ms)
    (hframes : rm.frames + 1 ≤ R.frames) (hlocals : W9 + (maxL + 11) + rm.locals ≤ R.locals)
    (hws : ∀ w ∈ ws, ∀ a' U, s.WarmedH U.vm → w.before a' U = true) (hcode : Cond.code y bytes maxL ret ∈ ws) (hinit : ∀ a' U, s.WarmedH U.vm → (Cond.initialized y.cls).before a' U = true) :
    vx_Back l R p e below s sargs y len W9 (PreOf R mc ms Pc) (PostOf Qc mc ms free) (vx_Post XC mc ms free) := by
  intro m meth c A g ig mk a X hg hsize hdg hW hn hp
  have h1 : (headSpec ws rm).pre.before a A.U = true := atoms_intro fun w hw => hws w hw _ _ X.warmed
  have h2 : (Cond.code y bytes maxL ret).before a A.U = true := hws _ hcode _ _ X.warmed
  have h3 : (Cond.initialized y.cls).before a A.U = true := hinit _ _ X.warmed
  have h4 : A.cells + (headSpec ws rm).room.cells ≤ R.cells := by rw [show (headSpec ws rm).room.cells = mc from hrc]; exact hp.1
  have h5 : A.slots + (headSpec ws rm).room.slots ≤ R.slots := by rw [show (headSpec ws rm).room.slots = ms from hrs]; exact hp.2.1
  have hPc : Pc a (A.U.calling g mk a) := hblind _ _ _ _ hp.2.2
  obtain ⟨U, Ls, c0, s0⟩ := A
  dsimp only [Pt.U, Pt.locs, Pt.cells, Pt.slots] at h1 h2 h3 h4 h5 X hn hPc ⊢
  obtain ⟨methY, cY, hmY, hcY, -, hlY, -, -, -, -⟩ := Cond.code_spec hn h2
  obtain ⟨kY, hkY, -⟩ := className_of_methodNamed hn
  have hinitY : kY.init = .initialized := Cond.initialized_spec (findClass_of_methodNamed hn) hkY h3
  have h : At U g.method c below := by rw [hg]; exact X.here
  have hlocals9 : W9 + (maxL + 11) + (headSpec ws rm).room.locals ≤ R.locals := hlocals
  have happ : (headSpec ws rm).appliesLoose y e.platform (U.calling g mk a) = true :=
    Spec.appliesLoose_calling (g := g) h hdg hn hkY hinitY
      (X.room_calling (g := g) (R' := (headSpec ws rm).room) hsize hmY hcY hframes (by rw [hlY]; omega) h4 h5) h1
  obtain ⟨mid, hmid⟩ := h.above
  have hfr : (U.setTop g).frames = (.java g :: mid) ++ below := by rw [State.frames_setTop' g h.top, hmid]; rfl
  obtain ⟨o, s₂, hsteps, -, hend, hq⟩ := Steps.callFree hM p X.admits X.cas X.clock (acts := []) hfr happ hPc trivial
  have hq' : vx_Q Qc XC mc ms free a (U.calling g mk a) o s₂ := hq
  rw [State.frames_setTop' g h.top] at hend
  obtain ⟨g₀, hg0⟩ := Option.isSome_iff_exists.mp h.top
  obtain ⟨r, hr⟩ := State.topJava?_eq_some.mp hg0
  have hr' : (({ U with heap := s₂.heap, slotsUsed := s₂.slotsUsed } : State).setVm s₂.vm).frames = .java g₀ :: r := hr
  rcases hq' with ⟨hqc, L, hfe, hL⟩ | ⟨q, rfl, E, ce, L, hx, hce, hcv, hcl, hW₂, hsm, hL⟩
  · obtain ⟨⟨v, rfl⟩, hW₂, e2, q2, q3, q4, q5, q6⟩ := id hfe
    have e3 : s₂ = ({ (U.calling g mk a).setFrames s₂.frames with heap := s₂.heap, slotsUsed := s₂.slotsUsed } : State).setVm s₂.vm := by
      have : s₂ = ({ s₂ with vm := (U.calling g mk a).vm } : State).setVm s₂.vm := rfl
      rw [e2] at this
      exact this
    obtain ⟨c₂, i₂, len₂, hc₂, hd₂, hf₂⟩ := hend
    have hW' : U.WarmedH s₂.vm := hW₂
    have hcc : c₂ = c := by
      have h1 : s₂.code? g.method = U.code? g.method := by
        rw [State.code?_eq, State.code?_eq, hW'.alike.method?]
      exact Option.some.inj (hc₂.symm.trans (h1.trans h.code))
    subst hcc
    have hlen : len₂ = len := by rw [hdg] at hd₂; cases hd₂; rfl
    subst hlen
    have hs₂ : s₂ = (({ U with heap := s₂.heap, slotsUsed := s₂.slotsUsed } : State).setVm s₂.vm).setTop { g with pc := g.pc + len₂, stack := v.toList ++ g.stack } := by
      refine e3.trans ?_
      rw [hf₂, State.calling_eq h.top, State.setFrames_setFrames, State.setTop_of_frames _ hr', hr]
      rfl
    have hsame : U.sameButNew ({ U with heap := s₂.heap, slotsUsed := s₂.slotsUsed } : State) L mc ms := by
      refine ⟨?_, q2, q3, q4, q5, q6⟩
      obtain ⟨t, ht, -⟩ := State.frames_cons hr
      show ({ U with heap := s₂.heap, slotsUsed := s₂.slotsUsed } : State) = { U.setFrames U.frames with heap := s₂.heap, slotsUsed := s₂.slotsUsed }
      rw [State.setFrames_self ht]
    subst hg
    refine Or.inl ⟨v, ⟨(({ U with heap := s₂.heap, slotsUsed := s₂.slotsUsed } : State).setVm s₂.vm), Ls ++ L, c0 + mc, s0 + ms⟩,
      ⟨X.admits, X.cas, X.clock, X.frames, X.room, X.hears, X.method, X.code, (X.here.setHeapUsed s₂.heap s₂.slotsUsed).setVm hW'.alike, X.tail, State.WarmedH.trans X.warmed hW', X.limits, X.bytes, X.same.trans (hsame.setVm s.vm)⟩,
      ⟨g, mk, s₂, L, rfl, rfl, hqc, rfl, hL, rfl, rfl⟩, ?_⟩
    show Steps p.tables e below _ ((({ U with heap := s₂.heap, slotsUsed := s₂.slotsUsed } : State).setVm s₂.vm).setTop { g with pc := g.pc + len₂, stack := v.toList ++ g.stack })
    rw [← hs₂]
    exact hsteps
  · obtain ⟨e2, q2, q3, q4, q5, q6⟩ := id hsm
    have e3 : s₂ = ({ (U.calling g mk a).setFrames s₂.frames with heap := s₂.heap, slotsUsed := s₂.slotsUsed } : State).setVm s₂.vm := by
      have : s₂ = ({ s₂ with vm := (U.calling g mk a).vm } : State).setVm s₂.vm := rfl
      rw [e2] at this
      exact this
    have hf₂ : s₂.frames = .throwing q :: .java g :: U.frames.tail := hend
    have hW' : U.WarmedH s₂.vm := hW₂
    have hs₂ : s₂ = ((({ U with heap := s₂.heap, slotsUsed := s₂.slotsUsed } : State).setVm s₂.vm).setTop g).pushFrame (.throwing q) := by
      refine e3.trans ?_
      rw [hf₂, State.calling_eq h.top, State.setFrames_setFrames, State.pushFrame, State.frames_setTop _ hr', State.setTop_of_frames _ hr', State.setFrames_setFrames, hr]
      rfl
    have hsame : U.sameButNew ({ U with heap := s₂.heap, slotsUsed := s₂.slotsUsed } : State) L mc ms := by
      refine ⟨?_, q2, q3, q4, q5, q6⟩
      obtain ⟨t, ht, -⟩ := State.frames_cons hr
      show ({ U with heap := s₂.heap, slotsUsed := s₂.slotsUsed } : State) = { U.setFrames U.frames with heap := s₂.heap, slotsUsed := s₂.slotsUsed }
      rw [State.setFrames_self ht]
    subst hg
    refine Or.inr ⟨q, ⟨(({ U with heap := s₂.heap, slotsUsed := s₂.slotsUsed } : State).setVm s₂.vm), Ls ++ L, c0 + mc, s0 + ms⟩,
      ⟨X.admits, X.cas, X.clock, X.frames, X.room, X.hears, X.method, X.code, (X.here.setHeapUsed s₂.heap s₂.slotsUsed).setVm hW'.alike, X.tail, State.WarmedH.trans X.warmed hW', X.limits, X.bytes, X.same.trans (hsame.setVm s.vm)⟩,
      ⟨g, mk, s₂, L, E, ce, rfl, rfl, hx, hce, hcv, hcl, rfl, hL, rfl, rfl⟩, ?_⟩
    show Steps p.tables e below _ (((({ U with heap := s₂.heap, slotsUsed := s₂.slotsUsed } : State).setVm s₂.vm).setTop g).pushFrame (.throwing q))
    rw [← hs₂]
    exact hsteps
end Payer
section Calls
variable {p : Program} {l : Launch} {e : Env} {R : Room} {s : State} {m : MethodId} {args : Array Value} {below : List Frame} {meth : Method} {c : Code} {T : State} {locs : List Loc} {cells slots : Nat}
theorem vx_callV (X : Stand p l e R s m args below meth c T locs cells slots) (hexec : p.tables.exec = Jvm.exec) {own C : String} {index : Nat} {y : MethodName} {bytes : ByteArray} {maxL : Nat} {ret : Option FieldType}
    (hown : s.vm.findClass own = some m.cls) (hlink : (Cond.methodLink own index y).before args s = true) (hinst : (Cond.instanceMethod y).before args s = true) (hsel : (Cond.selects C y y).before args s = true)
    (hcode : (Cond.code y bytes maxL ret).before args s = true) (hy : y.cls ≠ "java/lang/invoke/MethodHandle" ∧ y.cls ≠ "java/lang/invoke/VarHandle")
    {W9 : Nat} {Pre : Pt → Array Value → Prop} {Post : Pt → Array Value → Option Value → Pt → Prop} {PostX : Pt → Array Value → Addr → Pt → Prop} (hK : vx_Back l R p e below s args y 3 W9 Pre Post PostX)
    {b : Addr} {cellB : Cell} (hcell : T.heap[b]? = some cellB) (hobj : cellB.vm.isStatics = false) (hcls : s.vm.findClass C = some cellB.cls)
    {g : JFrame} (hg : g.method = m) (hsize : g.locals.size = c.maxLocals) {argsL rest : List Value} (hlen : ∀ sig, parseMethodDescriptor y.desc = some sig → argsL.length = sig.parameters.length)
    (hstack : g.stack = argsL.reverse ++ .ref b :: rest) (hW : 2 * g.monitorRoom + (rest.map fun v => v.category).sum ≤ W9) (hdg : decode c.code g.pc = .ok (.invokevirtual index, 3))
    (hpre : ∀ vm₁, s.WarmedH vm₁ → Pre ⟨T.setVm vm₁, locs, cells, slots⟩ (Value.ref b :: argsL).toArray) :
    (∃ (v : Option Value) (vm₁ : Vm) (B : Pt), s.WarmedH vm₁ ∧ Stand p l e R s m args below meth c B.U B.locs B.cells B.slots ∧ Post ⟨T.setVm vm₁, locs, cells, slots⟩ (Value.ref b :: argsL).toArray v B ∧
      ∀ target, Steps p.tables e below (B.U.setTop { g with pc := g.pc + 3, stack := v.toList ++ rest }) target → Steps p.tables e below (T.setTop g) target) ∨
    (∃ (q : Addr) (vm₁ : Vm) (B : Pt), s.WarmedH vm₁ ∧ Stand p l e R s m args below meth c B.U B.locs B.cells B.slots ∧ PostX ⟨T.setVm vm₁, locs, cells, slots⟩ (Value.ref b :: argsL).toArray q B ∧
      Steps p.tables e below (T.setTop g) ((B.U.setTop { g with stack := rest }).pushFrame (.throwing q))) := by
  obtain ⟨mk, methM, hnamed, hmethM, hstM, habM⟩ := Cond.instanceMethod_spec hinst
  obtain ⟨methM', cM, hmethM', -, -, -, -, -, -, hsigM⟩ := Cond.code_spec hnamed hcode
  cases hmethM.symm.trans hmethM'
  obtain ⟨c2, r2, m2, q1, q2, q3, q4, kP, hkP, hkPi⟩ := Cond.selects_spec hsel
  cases hcls.symm.trans q1
  cases (State.methodFound?_of_named hnamed hy).symm.trans q2
  cases hnamed.symm.trans q3
  have hselP : selectMethod e.platform s.vm cellB.cls mk = .method mk := by rw [Launch.admits_selectMethod X.admits]; exact q4
  obtain ⟨vm₁, X₁, hstep₁⟩ := X.invokevirtual hexec hown hlink hnamed hmethM hstM hkP hkPi hy (a := b) (cell := cellB) hcell
    (fun z h => by rw [h] at hobj; cases hobj) hselP hmethM habM hkP hkPi (g := g) hg (argsL := argsL) (rest := rest) (hlen _ hsigM) hstack hdg
  rcases hK m meth c ⟨T.setVm vm₁, locs, cells, slots⟩ { g with stack := rest } (.invokevirtual index) mk (Value.ref b :: argsL).toArray X₁ hg hsize hdg hW (X₁.named hnamed) (hpre vm₁ X₁.warmed) with ⟨v, B, X', hpost, hsteps⟩ | ⟨q, B, X', hpost, hsteps⟩
  · exact Or.inl ⟨v, vm₁, B, X₁.warmed, X', hpost, fun target h => hstep₁ _ fun acts => by rw [doInvoke_state]; exact hsteps.trans h⟩
  · exact Or.inr ⟨q, vm₁, B, X₁.warmed, X', hpost, hstep₁ _ fun acts => by rw [doInvoke_state]; exact hsteps⟩
theorem vx_callS (X : Stand p l e R s m args below meth c T locs cells slots) (hexec : p.tables.exec = Jvm.exec) {own : String} {index : Nat} {y : MethodName} {bytes : ByteArray} {maxL : Nat} {ret : Option FieldType}
    (hown : s.vm.findClass own = some m.cls) (hlink : (Cond.methodLink own index y).before args s = true) (hstat : (Cond.static y).before args s = true) (hinit : (Cond.initialized y.cls).before args s = true)
    (hcode : (Cond.code y bytes maxL ret).before args s = true) (hy : y.cls ≠ "java/lang/invoke/MethodHandle" ∧ y.cls ≠ "java/lang/invoke/VarHandle")
    {W9 : Nat} {Pre : Pt → Array Value → Prop} {Post : Pt → Array Value → Option Value → Pt → Prop} {PostX : Pt → Array Value → Addr → Pt → Prop} (hK : vx_Back l R p e below s args y 3 W9 Pre Post PostX)
    {g : JFrame} (hg : g.method = m) (hsize : g.locals.size = c.maxLocals) {argsL rest : List Value} (hlen : ∀ sig, parseMethodDescriptor y.desc = some sig → argsL.length = sig.parameters.length)
    (hstack : g.stack = argsL.reverse ++ rest) (hW : 2 * g.monitorRoom + (rest.map fun v => v.category).sum ≤ W9) (hdg : decode c.code g.pc = .ok (.invokestatic index, 3))
    (hpre : ∀ vm₁, s.WarmedH vm₁ → Pre ⟨T.setVm vm₁, locs, cells, slots⟩ argsL.toArray) :
    (∃ (v : Option Value) (vm₁ : Vm) (B : Pt), s.WarmedH vm₁ ∧ Stand p l e R s m args below meth c B.U B.locs B.cells B.slots ∧ Post ⟨T.setVm vm₁, locs, cells, slots⟩ argsL.toArray v B ∧
      ∀ target, Steps p.tables e below (B.U.setTop { g with pc := g.pc + 3, stack := v.toList ++ rest }) target → Steps p.tables e below (T.setTop g) target) ∨
    (∃ (q : Addr) (vm₁ : Vm) (B : Pt), s.WarmedH vm₁ ∧ Stand p l e R s m args below meth c B.U B.locs B.cells B.slots ∧ PostX ⟨T.setVm vm₁, locs, cells, slots⟩ argsL.toArray q B ∧
      Steps p.tables e below (T.setTop g) ((B.U.setTop { g with stack := rest }).pushFrame (.throwing q))) := by
  obtain ⟨mk, hnamed⟩ := Cond.code_named hcode
  obtain ⟨methM, cM, hmethM, -, -, -, -, -, -, hsigM⟩ := Cond.code_spec hnamed hcode
  have hstatic : methM.isStatic = true := Cond.static_spec hnamed hmethM hstat
  obtain ⟨kP, hkP, -⟩ := className_of_methodNamed hnamed
  have hinitP : kP.init = .initialized := Cond.initialized_spec (findClass_of_methodNamed hnamed) hkP hinit
  obtain ⟨vm₁, X₁, hstep₁⟩ := X.invokestatic hexec hown hlink hnamed hmethM hstatic hkP hinitP hy (g := g) hg (argsL := argsL) (rest := rest) (hlen _ hsigM) hstack hdg
  rcases hK m meth c ⟨T.setVm vm₁, locs, cells, slots⟩ { g with stack := rest } (.invokestatic index) mk argsL.toArray X₁ hg hsize hdg hW (X₁.named hnamed) (hpre vm₁ X₁.warmed) with ⟨v, B, X', hpost, hsteps⟩ | ⟨q, B, X', hpost, hsteps⟩
  · exact Or.inl ⟨v, vm₁, B, X₁.warmed, X', hpost, fun target h => hstep₁ _ fun acts => by rw [doInvoke_state]; exact hsteps.trans h⟩
  · exact Or.inr ⟨q, vm₁, B, X₁.warmed, X', hpost, hstep₁ _ fun acts => by rw [doInvoke_state]; exact hsteps⟩
end Calls
theorem vx_cls {s : State} {T : State} {vm₁ : Vm} {E : String} {k : ClassId} (hW : s.WarmedH vm₁) (h : (T.setVm vm₁).vm.findClass E = some k) : s.vm.findClass E = some k := by
  have h1 : vm₁.findClass E = some k := h
  rw [hW.alike.findClass] at h1
  exact h1
/-- the method's frame g, with q thrown over it -/
def vx_W (p : Program) (l : Launch) (e : Env) (R : Room) (s : State) (m : MethodId) (args : Array Value) (below : List Frame) (meth : Method) (c : Code) (H : Heap) (locs : List Loc) (cells slots : Nat) (Q : State → Prop) (g : JFrame) (q : Addr) : Prop :=
  ∀ T : State, T.heap = H → Stand p l e R s m args below meth c T locs cells slots → ∃ t, Steps p.tables e below ((T.setTop g).pushFrame (.throwing q)) t ∧ Q t
def vx_Run (p : Program) (l : Launch) (e : Env) (R : Room) (s : State) (m : MethodId) (args : Array Value) (below : List Frame) (meth : Method) (c : Code) (H : Heap) (locs : List Loc) (cells slots mc ms : Nat) (g : JFrame) (rest : List Value) (Qa : State → Outcome → State → Prop) (XC : String → State → State → Prop) (free : Addr → Prop) : Prop :=
  ∀ T : State, T.heap = H → Stand p l e R s m args below meth c T locs cells slots →
    (∃ (v : Option Value) (st₀ t T' : State) (L : List Loc), st₀.heap = H ∧ Stand p l e R s m args below meth c T' (locs ++ L) (cells + mc) (slots + ms) ∧ (∀ q ∈ L, free q.base) ∧ T'.heap = t.heap ∧ T'.vm = t.vm ∧ Qa st₀ (.returned v) t ∧
      Goes p e below T g T' { g with pc := g.pc + 3, stack := v.toList ++ rest }) ∨
    (∃ (q : Addr) (st₀ t T' : State) (L : List Loc) (E : String) (ce : Cell), st₀.heap = H ∧ Stand p l e R s m args below meth c T' (locs ++ L) (cells + mc) (slots + ms) ∧ (∀ z ∈ L, free z.base) ∧ T'.heap = t.heap ∧ T'.vm = t.vm ∧ XC E st₀ t ∧ t.heap[q]? = some ce ∧ ce.vm = .none ∧ s.vm.findClass E = some ce.cls ∧
      Steps p.tables e below (T.setTop g) ((T'.setTop { g with stack := rest }).pushFrame (.throwing q)))
def vx_X {S : Type} (px : S → Prop) (B : String → S → State → Prop) (A : Nat → Prop) : String → State → State → Prop := fun E st t => ∃ u : S, px u ∧ B E u t ∧ va_F A st t
section Runs
variable {p : Program} {l : Launch} {e : Env} {R : Room} {s : State} {m : MethodId} {args : Array Value} {below : List Frame} {meth : Method} {c : Code} {H : Heap} {locs : List Loc} {cells slots : Nat}
variable {y : MethodName} {bytes cc : ByteArray} {maxL nL mc ms n index : Nat} {ret : Option FieldType} {ws : List Cond} {rm : Room} {Pc : Array Value → State → Prop} {Qc : Array Value → State → Outcome → State → Prop} {XC : String → State → State → Prop} {free : Addr → Prop} {Ts : List Cond} {own C : String} {b : Addr} {As rest : List Value} {g : JFrame}
theorem vx_callBack (cb : CallB R s args own index y bytes maxL ret ws rm mc ms n) (hM : vx_Met l y ws rm Pc Qc XC mc ms free) (hbl : FrameBlind Pc) : vx_Back l R p e below s args y 3 8 (PreOf R mc ms Pc) (PostOf Qc mc ms free) (vx_Post XC mc ms free) := by
  obtain ⟨hrc, hrs, hfr, hlo, hws, hcw, -, hini, -⟩ := cb
  exact vx_back (bytes := bytes) (maxL := maxL) (ret := ret) hM hbl hrc hrs hfr hlo hws hcw (fun a' U hW => word_at hW (Or.inl (by first | rfl | simp [Cond.onTables, Cond.keeps, Cond.steady])) hini)
theorem vx_runV (S : CallFix p m c cc nL s args Ts own) (hM : vx_Met l y ws rm Pc Qc XC mc ms free) (cw : CallW R s args own C index y bytes maxL ret ws rm mc ms n) (hp : PreV s H C b Pc As)
    (hg : g.method = m) (hn : As.length = n) (hsize : g.locals.size = nL) (hstack : g.stack = As.reverse ++ .ref b :: rest) (hW : 2 * g.monitorRoom + (rest.map fun v => v.category).sum ≤ 8) (hdg : decode cc g.pc = .ok (.invokevirtual index, 3)) (hf : cells + mc ≤ R.cells ∧ slots + ms ≤ R.slots) :
    vx_Run p l e R s m args below meth c H locs cells slots mc ms g rest (Qc (Value.ref b :: As).toArray) XC free := by
  have hK : vx_Back l R p e below s args y 3 8 (PreOf R mc ms Pc) (PostOf Qc mc ms free) (vx_Post XC mc ms free) := vx_callBack cw.1 hM hp.1
  obtain ⟨⟨-, -, -, -, -, -, hcode, -, hy, hlen, hl⟩, hin, hse⟩ := cw
  obtain ⟨hx, hb, hml, ho, -⟩ := S
  obtain ⟨-, ⟨cellB, hcB, hoB, hclB⟩, hPc⟩ := hp
  intro T hT X
  rcases vx_callV X hx (C := C) (bytes := bytes) (maxL := maxL) (ret := ret) ho hl hin hse hcode hy hK (by rw [hT]; exact hcB) hoB hclB hg (hsize.trans hml.symm) (argsL := As) (rest := rest) (fun sig h => hn.trans (hlen sig h)) hstack hW (by rw [hb]; exact hdg)
    (fun vm₁ hW₁ => ⟨hf.1, hf.2, hPc (T.setVm vm₁) hT hW₁⟩) with ⟨v, vm₁, ⟨U', l2, c2, s2⟩, hW₁, X', ⟨g', mk, t, L, e1, e2, hq, h1, hL, h2, h3⟩, st⟩ | ⟨q, vm₁, ⟨U', l2, c2, s2⟩, hW₁, X', ⟨g', mk, t, L, E, ce, e1, e2, hq, hce, hcv, hcl, h1, hL, h2, h3⟩, st⟩
  · dsimp only [Pt.U, Pt.locs, Pt.cells, Pt.slots] at X' e1 e2 h1 h2 h3 st
    subst h1; subst h2; subst h3
    exact Or.inl ⟨v, (T.setVm vm₁).calling g' mk (Value.ref b :: As).toArray, t, U', L, hT, X', hL, e1, e2, hq, st⟩
  · dsimp only [Pt.U, Pt.locs, Pt.cells, Pt.slots] at X' e1 e2 h1 h2 h3 st hcl
    subst h1; subst h2; subst h3
    exact Or.inr ⟨q, (T.setVm vm₁).calling g' mk (Value.ref b :: As).toArray, t, U', L, E, ce, hT, X', hL, e1, e2, hq, hce, hcv, vx_cls hW₁ hcl, st⟩
theorem vx_runS (S : CallFix p m c cc nL s args Ts own) (hM : vx_Met l y ws rm Pc Qc XC mc ms free) (cw : CallB R s args own index y bytes maxL ret ws rm mc ms n ∧ (Cond.static y).before args s = true) (hp : PreS s H Pc As)
    (hg : g.method = m) (hn : As.length = n) (hsize : g.locals.size = nL) (hstack : g.stack = As.reverse ++ rest) (hW : 2 * g.monitorRoom + (rest.map fun v => v.category).sum ≤ 8) (hdg : decode cc g.pc = .ok (.invokestatic index, 3)) (hf : cells + mc ≤ R.cells ∧ slots + ms ≤ R.slots) :
    vx_Run p l e R s m args below meth c H locs cells slots mc ms g rest (Qc As.toArray) XC free := by
  have hK : vx_Back l R p e below s args y 3 8 (PreOf R mc ms Pc) (PostOf Qc mc ms free) (vx_Post XC mc ms free) := vx_callBack cw.1 hM hp.1
  obtain ⟨⟨-, -, -, -, -, -, hcode, hini, hy, hlen, hl⟩, hstt⟩ := cw
  obtain ⟨hx, hb, hml, ho, -⟩ := S
  intro T hT X
  rcases vx_callS X hx (bytes := bytes) (maxL := maxL) (ret := ret) ho hl hstt hini hcode hy hK hg (hsize.trans hml.symm) (argsL := As) (rest := rest) (fun sig h => hn.trans (hlen sig h)) hstack hW (by rw [hb]; exact hdg)
    (fun vm₁ hW₁ => ⟨hf.1, hf.2, hp.2 (T.setVm vm₁) hT hW₁⟩) with ⟨v, vm₁, ⟨U', l2, c2, s2⟩, hW₁, X', ⟨g', mk, t, L, e1, e2, hq, h1, hL, h2, h3⟩, st⟩ | ⟨q, vm₁, ⟨U', l2, c2, s2⟩, hW₁, X', ⟨g', mk, t, L, E, ce, e1, e2, hq, hce, hcv, hcl, h1, hL, h2, h3⟩, st⟩
  · dsimp only [Pt.U, Pt.locs, Pt.cells, Pt.slots] at X' e1 e2 h1 h2 h3 st
    subst h1; subst h2; subst h3
    exact Or.inl ⟨v, (T.setVm vm₁).calling g' mk As.toArray, t, U', L, hT, X', hL, e1, e2, hq, st⟩
  · dsimp only [Pt.U, Pt.locs, Pt.cells, Pt.slots] at X' e1 e2 h1 h2 h3 st hcl
    subst h1; subst h2; subst h3
    exact Or.inr ⟨q, (T.setVm vm₁).calling g' mk As.toArray, t, U', L, E, ce, hT, X', hL, e1, e2, hq, hce, hcv, vx_cls hW₁ hcl, st⟩
end Runs
section Rows
variable {p : Program} {l : Launch} {e : Env} {R : Room} {s : State} {m : MethodId} {args : Array Value} {below : List Frame} {meth : Method} {c : Code} {H : Heap} {locs : List Loc} {cells slots : Nat} {Q : State → Prop}
variable {mc ms : Nat} {free : Addr → Prop} {A0 A1 : Nat → Prop} {H0 : Heap} {a : Array Value} {pc : Nat} {ls : Array Slot} {st0 rest : List Value}
theorem vx_keep {st₀ t T' : State} {L : List Loc} (h0 : st₀.heap = H) (e1 : T'.heap = t.heap) (hS : va_S A0 H0 H locs) (hA : ∀ q, q < H.size → A1 q → A0 q) (hf : ∀ q, free q → A0 q) (hL : ∀ q ∈ L, free q.base) (hF : va_F A1 st₀ t) :
    H.size ≤ T'.heap.size ∧ (∀ q : Nat, q < H.size → ¬ A1 q → T'.heap[q]? = H[q]?) ∧ va_S A0 H0 T'.heap (locs ++ L) := by
  obtain ⟨hz, hk⟩ := hF
  rw [h0] at hz hk
  exact ⟨by rw [e1]; exact hz, fun q h1 h2 => by rw [e1]; exact hk q h1 h2,
    ⟨Nat.le_trans hS.1 (by rw [e1]; exact hz), fun q h1 h2 => by rw [e1, hk q (Nat.lt_of_lt_of_le h1 hS.1) (fun z => h2 (hA q (Nat.lt_of_lt_of_le h1 hS.1) z))]; exact hS.2.1 q h1 h2, fun q hq => by
      rcases List.mem_append.mp hq with h | h
      · exact hS.2.2 q h
      · exact hf _ (hL q h)⟩⟩
theorem vx_calli {S SX : Type} {post : Int32 → S → Prop} {px : SX → Prop} {B : S → State → Prop} {BX : String → SX → State → Prop} {AX : Nat → Prop} (hr : vx_Run p l e R s m args below meth c H locs cells slots mc ms (F0 m pc ls st0) rest (va_Qi post B A1 a) (vx_X px BX AX) free) (hS : va_S A0 H0 H locs) (hA : ∀ q, q < H.size → A1 q → A0 q) (hf : ∀ q, free q → A0 q) (hAX : ∀ q, q < H.size → AX q → A0 q)
    (kx : ∀ (E : String) (ce : Cell) (q9 : Addr) (u : SX) (t : State) (H1 : Heap) (locs1 : List Loc), t.heap = H1 → s.vm.Alike t.vm → px u → BX E u t → H.size ≤ H1.size → (∀ q : Nat, q < H.size → ¬ AX q → H1[q]? = H[q]?) → va_S A0 H0 H1 locs1 → H1[q9]? = some ce → ce.vm = .none → s.vm.findClass E = some ce.cls → vx_W p l e R s m args below meth c H1 locs1 (cells + mc) (slots + ms) Q (F0 m pc ls rest) q9)
    (kk : ∀ (r : Int32) (u : S) (t : State) (H1 : Heap) (locs1 : List Loc), t.heap = H1 → s.vm.Alike t.vm → post r u → B u t → H.size ≤ H1.size → (∀ q : Nat, q < H.size → ¬ A1 q → H1[q]? = H[q]?) → va_S A0 H0 H1 locs1 → W p l e R s m args below meth c H1 locs1 (cells + mc) (slots + ms) Q (F0 m (pc + 3) ls (.int r :: rest))) : W p l e R s m args below meth c H locs cells slots Q (F0 m pc ls st0) := by
  intro T hT X
  rcases hr T hT X with ⟨v, st₀, t, T', L, h0, X', hL, e1, e2, ⟨⟨r, u, hv, hp, hb⟩, hF⟩, st⟩ | ⟨q, st₀, t, T', L, E, ce, h0, X', hL, e1, e2, ⟨u, hp, hb, hF⟩, hce, hcv, hcl, st⟩
  · cases hv
    obtain ⟨k1, k2, k3⟩ := vx_keep h0 e1 hS hA hf hL hF
    obtain ⟨t2, a1, b1⟩ := kk r u t T'.heap (locs ++ L) e1.symm (by rw [← e2]; exact X'.warmed.alike) hp hb k1 k2 k3 T' rfl X'
    exact ⟨t2, st t2 a1, b1⟩
  · obtain ⟨k1, k2, k3⟩ := vx_keep h0 e1 hS hAX hf hL hF
    obtain ⟨t2, a1, b1⟩ := kx E ce q u t T'.heap (locs ++ L) e1.symm (by rw [← e2]; exact X'.warmed.alike) hp hb k1 k2 k3 (by rw [e1]; exact hce) hcv hcl T' rfl X'
    exact ⟨t2, st.trans a1, b1⟩
theorem vx_calll {S SX : Type} {post : Int64 → S → Prop} {px : SX → Prop} {B : S → State → Prop} {BX : String → SX → State → Prop} {AX : Nat → Prop} (hr : vx_Run p l e R s m args below meth c H locs cells slots mc ms (F0 m pc ls st0) rest (va_Ql post B A1 a) (vx_X px BX AX) free) (hS : va_S A0 H0 H locs) (hA : ∀ q, q < H.size → A1 q → A0 q) (hf : ∀ q, free q → A0 q) (hAX : ∀ q, q < H.size → AX q → A0 q)
    (kx : ∀ (E : String) (ce : Cell) (q9 : Addr) (u : SX) (t : State) (H1 : Heap) (locs1 : List Loc), t.heap = H1 → s.vm.Alike t.vm → px u → BX E u t → H.size ≤ H1.size → (∀ q : Nat, q < H.size → ¬ AX q → H1[q]? = H[q]?) → va_S A0 H0 H1 locs1 → H1[q9]? = some ce → ce.vm = .none → s.vm.findClass E = some ce.cls → vx_W p l e R s m args below meth c H1 locs1 (cells + mc) (slots + ms) Q (F0 m pc ls rest) q9)
    (kk : ∀ (r : Int64) (u : S) (t : State) (H1 : Heap) (locs1 : List Loc), t.heap = H1 → s.vm.Alike t.vm → post r u → B u t → H.size ≤ H1.size → (∀ q : Nat, q < H.size → ¬ A1 q → H1[q]? = H[q]?) → va_S A0 H0 H1 locs1 → W p l e R s m args below meth c H1 locs1 (cells + mc) (slots + ms) Q (F0 m (pc + 3) ls (.long r :: rest))) : W p l e R s m args below meth c H locs cells slots Q (F0 m pc ls st0) := by
  intro T hT X
  rcases hr T hT X with ⟨v, st₀, t, T', L, h0, X', hL, e1, e2, ⟨⟨r, u, hv, hp, hb⟩, hF⟩, st⟩ | ⟨q, st₀, t, T', L, E, ce, h0, X', hL, e1, e2, ⟨u, hp, hb, hF⟩, hce, hcv, hcl, st⟩
  · cases hv
    obtain ⟨k1, k2, k3⟩ := vx_keep h0 e1 hS hA hf hL hF
    obtain ⟨t2, a1, b1⟩ := kk r u t T'.heap (locs ++ L) e1.symm (by rw [← e2]; exact X'.warmed.alike) hp hb k1 k2 k3 T' rfl X'
    exact ⟨t2, st t2 a1, b1⟩
  · obtain ⟨k1, k2, k3⟩ := vx_keep h0 e1 hS hAX hf hL hF
    obtain ⟨t2, a1, b1⟩ := kx E ce q u t T'.heap (locs ++ L) e1.symm (by rw [← e2]; exact X'.warmed.alike) hp hb k1 k2 k3 (by rw [e1]; exact hce) hcv hcl T' rfl X'
    exact ⟨t2, st.trans a1, b1⟩
theorem vx_callf {S SX : Type} {post : UInt32 → S → Prop} {px : SX → Prop} {B : S → State → Prop} {BX : String → SX → State → Prop} {AX : Nat → Prop} (hr : vx_Run p l e R s m args below meth c H locs cells slots mc ms (F0 m pc ls st0) rest (va_Qf post B A1 a) (vx_X px BX AX) free) (hS : va_S A0 H0 H locs) (hA : ∀ q, q < H.size → A1 q → A0 q) (hf : ∀ q, free q → A0 q) (hAX : ∀ q, q < H.size → AX q → A0 q)
    (kx : ∀ (E : String) (ce : Cell) (q9 : Addr) (u : SX) (t : State) (H1 : Heap) (locs1 : List Loc), t.heap = H1 → s.vm.Alike t.vm → px u → BX E u t → H.size ≤ H1.size → (∀ q : Nat, q < H.size → ¬ AX q → H1[q]? = H[q]?) → va_S A0 H0 H1 locs1 → H1[q9]? = some ce → ce.vm = .none → s.vm.findClass E = some ce.cls → vx_W p l e R s m args below meth c H1 locs1 (cells + mc) (slots + ms) Q (F0 m pc ls rest) q9)
    (kk : ∀ (r : UInt32) (u : S) (t : State) (H1 : Heap) (locs1 : List Loc), t.heap = H1 → s.vm.Alike t.vm → post r u → B u t → H.size ≤ H1.size → (∀ q : Nat, q < H.size → ¬ A1 q → H1[q]? = H[q]?) → va_S A0 H0 H1 locs1 → W p l e R s m args below meth c H1 locs1 (cells + mc) (slots + ms) Q (F0 m (pc + 3) ls (.float r :: rest))) : W p l e R s m args below meth c H locs cells slots Q (F0 m pc ls st0) := by
  intro T hT X
  rcases hr T hT X with ⟨v, st₀, t, T', L, h0, X', hL, e1, e2, ⟨⟨r, u, hv, hp, hb⟩, hF⟩, st⟩ | ⟨q, st₀, t, T', L, E, ce, h0, X', hL, e1, e2, ⟨u, hp, hb, hF⟩, hce, hcv, hcl, st⟩
  · cases hv
    obtain ⟨k1, k2, k3⟩ := vx_keep h0 e1 hS hA hf hL hF
    obtain ⟨t2, a1, b1⟩ := kk r u t T'.heap (locs ++ L) e1.symm (by rw [← e2]; exact X'.warmed.alike) hp hb k1 k2 k3 T' rfl X'
    exact ⟨t2, st t2 a1, b1⟩
  · obtain ⟨k1, k2, k3⟩ := vx_keep h0 e1 hS hAX hf hL hF
    obtain ⟨t2, a1, b1⟩ := kx E ce q u t T'.heap (locs ++ L) e1.symm (by rw [← e2]; exact X'.warmed.alike) hp hb k1 k2 k3 (by rw [e1]; exact hce) hcv hcl T' rfl X'
    exact ⟨t2, st.trans a1, b1⟩
theorem vx_calld {S SX : Type} {post : UInt64 → S → Prop} {px : SX → Prop} {B : S → State → Prop} {BX : String → SX → State → Prop} {AX : Nat → Prop} (hr : vx_Run p l e R s m args below meth c H locs cells slots mc ms (F0 m pc ls st0) rest (va_Qd post B A1 a) (vx_X px BX AX) free) (hS : va_S A0 H0 H locs) (hA : ∀ q, q < H.size → A1 q → A0 q) (hf : ∀ q, free q → A0 q) (hAX : ∀ q, q < H.size → AX q → A0 q)
    (kx : ∀ (E : String) (ce : Cell) (q9 : Addr) (u : SX) (t : State) (H1 : Heap) (locs1 : List Loc), t.heap = H1 → s.vm.Alike t.vm → px u → BX E u t → H.size ≤ H1.size → (∀ q : Nat, q < H.size → ¬ AX q → H1[q]? = H[q]?) → va_S A0 H0 H1 locs1 → H1[q9]? = some ce → ce.vm = .none → s.vm.findClass E = some ce.cls → vx_W p l e R s m args below meth c H1 locs1 (cells + mc) (slots + ms) Q (F0 m pc ls rest) q9)
    (kk : ∀ (r : UInt64) (u : S) (t : State) (H1 : Heap) (locs1 : List Loc), t.heap = H1 → s.vm.Alike t.vm → post r u → B u t → H.size ≤ H1.size → (∀ q : Nat, q < H.size → ¬ A1 q → H1[q]? = H[q]?) → va_S A0 H0 H1 locs1 → W p l e R s m args below meth c H1 locs1 (cells + mc) (slots + ms) Q (F0 m (pc + 3) ls (.double r :: rest))) : W p l e R s m args below meth c H locs cells slots Q (F0 m pc ls st0) := by
  intro T hT X
  rcases hr T hT X with ⟨v, st₀, t, T', L, h0, X', hL, e1, e2, ⟨⟨r, u, hv, hp, hb⟩, hF⟩, st⟩ | ⟨q, st₀, t, T', L, E, ce, h0, X', hL, e1, e2, ⟨u, hp, hb, hF⟩, hce, hcv, hcl, st⟩
  · cases hv
    obtain ⟨k1, k2, k3⟩ := vx_keep h0 e1 hS hA hf hL hF
    obtain ⟨t2, a1, b1⟩ := kk r u t T'.heap (locs ++ L) e1.symm (by rw [← e2]; exact X'.warmed.alike) hp hb k1 k2 k3 T' rfl X'
    exact ⟨t2, st t2 a1, b1⟩
  · obtain ⟨k1, k2, k3⟩ := vx_keep h0 e1 hS hAX hf hL hF
    obtain ⟨t2, a1, b1⟩ := kx E ce q u t T'.heap (locs ++ L) e1.symm (by rw [← e2]; exact X'.warmed.alike) hp hb k1 k2 k3 (by rw [e1]; exact hce) hcv hcl T' rfl X'
    exact ⟨t2, st.trans a1, b1⟩
theorem vx_callv {S SX : Type} {post : S → Prop} {px : SX → Prop} {B : S → State → Prop} {BX : String → SX → State → Prop} {AX : Nat → Prop} (hr : vx_Run p l e R s m args below meth c H locs cells slots mc ms (F0 m pc ls st0) rest (va_Qv post B A1 a) (vx_X px BX AX) free) (hS : va_S A0 H0 H locs) (hA : ∀ q, q < H.size → A1 q → A0 q) (hf : ∀ q, free q → A0 q) (hAX : ∀ q, q < H.size → AX q → A0 q)
    (kx : ∀ (E : String) (ce : Cell) (q9 : Addr) (u : SX) (t : State) (H1 : Heap) (locs1 : List Loc), t.heap = H1 → s.vm.Alike t.vm → px u → BX E u t → H.size ≤ H1.size → (∀ q : Nat, q < H.size → ¬ AX q → H1[q]? = H[q]?) → va_S A0 H0 H1 locs1 → H1[q9]? = some ce → ce.vm = .none → s.vm.findClass E = some ce.cls → vx_W p l e R s m args below meth c H1 locs1 (cells + mc) (slots + ms) Q (F0 m pc ls rest) q9)
    (kk : ∀ (u : S) (t : State) (H1 : Heap) (locs1 : List Loc), t.heap = H1 → s.vm.Alike t.vm → post u → B u t → H.size ≤ H1.size → (∀ q : Nat, q < H.size → ¬ A1 q → H1[q]? = H[q]?) → va_S A0 H0 H1 locs1 → W p l e R s m args below meth c H1 locs1 (cells + mc) (slots + ms) Q (F0 m (pc + 3) ls (rest))) : W p l e R s m args below meth c H locs cells slots Q (F0 m pc ls st0) := by
  intro T hT X
  rcases hr T hT X with ⟨v, st₀, t, T', L, h0, X', hL, e1, e2, ⟨⟨u, hv, hp, hb⟩, hF⟩, st⟩ | ⟨q, st₀, t, T', L, E, ce, h0, X', hL, e1, e2, ⟨u, hp, hb, hF⟩, hce, hcv, hcl, st⟩
  · cases hv
    obtain ⟨k1, k2, k3⟩ := vx_keep h0 e1 hS hA hf hL hF
    obtain ⟨t2, a1, b1⟩ := kk u t T'.heap (locs ++ L) e1.symm (by rw [← e2]; exact X'.warmed.alike) hp hb k1 k2 k3 T' rfl X'
    exact ⟨t2, st t2 a1, b1⟩
  · obtain ⟨k1, k2, k3⟩ := vx_keep h0 e1 hS hAX hf hL hF
    obtain ⟨t2, a1, b1⟩ := kx E ce q u t T'.heap (locs ++ L) e1.symm (by rw [← e2]; exact X'.warmed.alike) hp hb k1 k2 k3 (by rw [e1]; exact hce) hcv hcl T' rfl X'
    exact ⟨t2, st.trans a1, b1⟩
/-- caught by the row x of this method's table; the rows ahead don't take it -/
theorem vx_catch {own name : String} {E : String} {ce : Cell} {q : Addr} (hown : s.vm.findClass own = some m.cls) (pre : List ExceptionTableEntry) (x : ExceptionTableEntry) (suf : List ExceptionTableEntry) (hsplit : c.exceptionTable.toList = pre ++ x :: suf)
    (hpass : ∀ z ∈ pre, covers z pc = false ∨ (z.catchType ≠ 0 ∧ ∃ nm : String, (Cond.classLink own z.catchType nm).before args s = true ∧ va_Nc E nm s)) (hx : covers x pc = true) (h0 : x.catchType ≠ 0)
    (hlink : (Cond.classLink own x.catchType name).before args s = true) (hcast : (Cond.castable E name).before args s = true) (hcell : H[q]? = some ce) (hv : ce.vm = .none) (hcl : s.vm.findClass E = some ce.cls)
    (kk : W p l e R s m args below meth c H locs cells slots Q (F0 m x.handlerPc ls [.ref q])) : vx_W p l e R s m args below meth c H locs cells slots Q (F0 m pc ls rest) q := by
  intro T hT X
  have hpl : e.platform.magicAccessors = ({} : Platform).magicAccessors := by rw [X.admits.platform]
  obtain ⟨c3, c4, hc3, hc4, hasg⟩ := Cond.castable_spec hcast
  cases Option.some.inj (hc3.symm.trans hcl)
  obtain ⟨c5, hc5, hcl5⟩ := Cond.classLink_spec hown hlink e.platform hpl
  cases Option.some.inj (hc4.symm.trans hc5)
  obtain ⟨vm', X', st⟩ := X.thenCaughtThrough q (g := F0 m pc ls rest) rfl (Steps.refl _) (by rw [hT]; exact hcell) (by rw [hv]; rfl) (by obtain ⟨k9, h9, -⟩ := Vm.findClass_spec hcl; exact ⟨k9, h9⟩) pre x suf hsplit
    (fun z hz => by
      rcases hpass z hz with h | ⟨hz0, nm, hl1, hn1⟩
      · exact Or.inl h
      · obtain ⟨c6, hc6, hcl6⟩ := Cond.classLink_spec hown hl1 e.platform hpl
        obtain ⟨a8, b8, h1, h2, h3⟩ := hn1
        cases Option.some.inj (h1.symm.trans hcl)
        cases Option.some.inj (h2.symm.trans hc6)
        exact Or.inr ⟨hz0, _, hcl6, h3⟩) hx (Or.inr ⟨h0, c4, hcl5, hasg⟩)
  obtain ⟨t, a1, b1⟩ := kk (T.setVm vm') hT X'
  exact ⟨t, st.trans a1, b1⟩
end Rows
section Ends
variable {p : Program} {l : Launch} {e : Env} {R : Room} {s : State} {m : MethodId} {args : Array Value} {below : List Frame} {meth : Method} {c : Code} {H : Heap} {locs : List Loc} {cells slots : Nat} {Q : State → Prop}
variable {mc ms : Nat} {free : Addr → Prop} {A0 A1 : Nat → Prop} {H0 : Heap} {a : Array Value} {ls : Array Slot} {st0 rest : List Value}
variable {Qc : Array Value → State → Outcome → State → Prop} {XC : String → State → State → Prop}
/-- what a body that may throw owes at its end -/
def vx_MQ (below : List Frame) (Qc : Array Value → State → Outcome → State → Prop) (XC : String → State → State → Prop) (a : Array Value) (s : State) (mc ms : Nat) (free : Addr → Prop) : State → Prop := fun t =>
  ∃ o, t.status = .running ∧ Ended t below o ∧ vx_Q Qc XC mc ms free a s o t
theorem vx_ret {g : JFrame} {mc ms : Nat} (k : W p l e R s m args below meth c H locs cells slots (MQ below Qc args s mc ms free) g) : W p l e R s m args below meth c H locs cells slots (vx_MQ below Qc XC args s mc ms free) g := by
  intro T hT X
  obtain ⟨t, a1, o, b1, b2, b3, b4⟩ := k T hT X
  exact ⟨t, a1, o, b1, b2, Or.inl ⟨b3, b4⟩⟩
/-- not caught here: it goes on to the caller -/
theorem vx_widen {g : JFrame} {q : Addr} {k n : Nat} (h1 : cells ≤ k) (h2 : slots ≤ n) (kk : vx_W p l e R s m args below meth c H locs k n Q g q) : vx_W p l e R s m args below meth c H locs cells slots Q g q := fun T hT X => kk T hT (stand_widen X h1 h2)
theorem vx_out {pc : Nat} {E : String} {ce : Cell} {q : Addr} {mc ms : Nat} (hout : ∀ x ∈ c.exceptionTable.toList, covers x pc = false) (hlocks : meth.locks = false) (hcell : H[q]? = some ce) (hv : ce.vm = .none) (hcl : s.vm.findClass E = some ce.cls)
    (hx : ∀ t : State, t.heap = H → s.vm.Alike t.vm → XC E s t) (hf : ∀ z ∈ locs, free z.base) (hc : cells ≤ mc) (hs : slots ≤ ms) :
    vx_W p l e R s m args below meth c H locs cells slots (vx_MQ below Qc XC args s mc ms free) (F0 m pc ls rest) q := by
  intro T hT X
  obtain ⟨st1, hrun, hend, hW, hsm⟩ := X.leaveThrown q (g := F0 m pc ls rest) rfl rfl rfl hout hlocks
  have hcell9 : (T.setFrames (.throwing q :: below)).heap[q]? = some ce := by
    show T.heap[q]? = some ce
    rw [hT]; exact hcell
  exact ⟨_, st1, .threw q, hrun, hend, Or.inr ⟨q, rfl, E, ce, locs, hx _ hT hW.alike, hcell9, hv, hcl, hW, hsm.mono hc hs, hf⟩⟩
theorem vx_frame {U : State} {k n : Nat} (h : s.sameButNew ({ U with vm := s.vm } : State) locs k n) : s.heap.size ≤ U.heap.size ∧ ∀ q : Nat, q < s.heap.size → (∀ z ∈ locs, z.base ≠ q) → U.heap[q]? = s.heap[q]? := by
  obtain ⟨-, h2, -, -, -, h6⟩ := h
  refine ⟨h2, fun q hq hz => ?_⟩
  obtain ⟨c9, e1, e2, e3, e4⟩ := h6 q _ (Array.getElem?_eq_getElem hq)
  have hs : c9.slots = (s.heap[q]).slots := Array.ext_getElem? fun i => e4 i fun hm => hz _ hm rfl
  have h9 : c9 = s.heap[q] := by
    rw [hs] at e2
    exact e2
  have e5 : U.heap[q]? = some c9 := e1
  rw [e5, h9, Array.getElem?_eq_getElem hq]
/-- the words of a throw but the four that speak of the heap -/
def vx_no (w : Cond) : Bool := decide (w ≠ .isRef (.static Bundle.tN "UNASSIGNED_STACK" Bundle.steD)) && decide (w ≠ .isRef (.static Bundle.tN "SUPPRESSED_SENTINEL" Bundle.listD)) && decide (w ≠ .laysStatic Bundle.tN "UNASSIGNED_STACK" Bundle.steD) && decide (w ≠ .laysStatic Bundle.tN "SUPPRESSED_SENTINEL" Bundle.listD)
def vx_at0 (own : String) (ic : Nat) (X : String) (names : List String) : List Cond := (Bundle.ownAtoms0 own ic X names).filter vx_no
def vx_atS (own : String) (ic : Nat) (X : String) (names : List String) : List Cond := (Bundle.ownAtoms own ic X names).filter vx_no
/-- a word that the tables alone decide, or a good one -/
def vx_ot (w : Cond) : Bool := w.onTables || goodWord w
theorem vx_ot_at {args a' : Array Value} {s U : State} {w : Cond} (hW : s.WarmedH U.vm) (hvm : s.vm = U.vm) (hg : vx_ot w = true) (h : w.before args s = true) : w.before a' U = true := by
  simp only [vx_ot, Bool.or_eq_true] at hg
  rcases hg with hg | hg
  · exact va_tabs hg hvm h
  · exact word_at hW (good_of_word hg) h
/-- a list's words: the good ones out of the method's own list, the others by premises of their own -/
theorem vx_hat {args : Array Value} {s : State} {L B : List Cond} (h1 : ∀ w ∈ L.filter goodWord, w.before args s = true) (h2 : ∀ w ∈ L.filter (fun w => !goodWord w), w ∈ B) (h3 : ∀ w ∈ B, w.before args s = true) : ∀ w ∈ L, w.before args s = true := by
  intro w hw
  by_cases g : goodWord w = true
  · exact h1 w (List.mem_filter.mpr ⟨hw, g⟩)
  · refine h3 w (h2 w (List.mem_filter.mpr ⟨hw, ?_⟩))
    show (!goodWord w) = true
    cases hgw : goodWord w
    · rfl
    · exact absurd hgw g
theorem vx_c {args : Array Value} {s : State} {w : Cond} {B : List Cond} (h : w.before args s = true) (t : ∀ w ∈ B, w.before args s = true) : ∀ w' ∈ w :: B, w'.before args s = true := fun w' h' => (List.mem_cons.mp h').elim (fun e => by rw [e]; exact h) (t w')
theorem vx_n {args : Array Value} {s : State} : ∀ w ∈ ([] : List Cond), w.before args s = true := fun _ h => nomatch h
theorem vx_own {args : Array Value} {s : State} {L : List Cond} (h1 : ∀ w ∈ L.filter vx_no, w.before args s = true)
    (hU : (Cond.isRef (.static Bundle.tN "UNASSIGNED_STACK" Bundle.steD)).before args s = true) (hN : (Cond.isRef (.static Bundle.tN "SUPPRESSED_SENTINEL" Bundle.listD)).before args s = true)
    (lU : (Cond.laysStatic Bundle.tN "UNASSIGNED_STACK" Bundle.steD).before args s = true) (lN : (Cond.laysStatic Bundle.tN "SUPPRESSED_SENTINEL" Bundle.listD).before args s = true) : ∀ w ∈ L, w.before args s = true := by
  intro w hw
  by_cases e1 : w = .isRef (.static Bundle.tN "UNASSIGNED_STACK" Bundle.steD)
  · rw [e1]; exact hU
  · by_cases e2 : w = .isRef (.static Bundle.tN "SUPPRESSED_SENTINEL" Bundle.listD)
    · rw [e2]; exact hN
    · by_cases e3 : w = .laysStatic Bundle.tN "UNASSIGNED_STACK" Bundle.steD
      · rw [e3]; exact lU
      · by_cases e4 : w = .laysStatic Bundle.tN "SUPPRESSED_SENTINEL" Bundle.listD
        · rw [e4]; exact lN
        · exact h1 w (List.mem_filter.mpr ⟨hw, by unfold vx_no; rw [decide_eq_true e1, decide_eq_true e2, decide_eq_true e3, decide_eq_true e4]; rfl⟩)
/-- where a static field lies, its class's statics cell in H -/
def vx_L (C n d : String) (A : Nat → Prop) (U : State) (H : Heap) : Prop := ∃ (c : ClassId) (k : Class) (i : Nat) (f : Field) (a : Nat) (cell : Cell), U.vm.findClass C = some c ∧ U.fieldFound? C n d = some (c, k, i, f) ∧ f.isStatic = true ∧ k.statics = some a ∧ H[a]? = some cell ∧ cell.vm.isStatics = true ∧ cell.cls = c ∧ f.slot < cell.slots.size ∧ k.staticTypes[f.slot]? = some f.type ∧ ¬ A a
theorem vx_L.moved {C n d : String} {A : Nat → Prop} {u U : State} {H : Heap} (hvm : u.vm.Alike U.vm) (h : vx_L C n d A u H) : vx_L C n d A U H := by
  obtain ⟨c, k, i, f, a, cell, h1, h2, h3, h4, h5, h6, h7, h8, h9, h10⟩ := h
  obtain ⟨k', hi', he⟩ := State.fieldFound?_setVm hvm h2
  exact ⟨c, k', i, f, a, cell, by rw [hvm.findClass]; exact h1, hi', h3, by rw [he]; exact h4, h5, h6, h7, h8, by rw [he]; exact h9, h10⟩
theorem vx_L.kept {C n d : String} {A : Nat → Prop} {U : State} {H H1 : Heap} (h : vx_L C n d A U H) (hq : ∀ a : Nat, a < H.size → ¬ A a → H1[a]? = H[a]?) : vx_L C n d A U H1 := by
  obtain ⟨c, k, i, f, a, cell, h1, h2, h3, h4, h5, h6, h7, h8, h9, h10⟩ := h
  exact ⟨c, k, i, f, a, cell, h1, h2, h3, h4, by rw [hq a (Array.getElem?_eq_some_iff.mp h5).1 h10]; exact h5, h6, h7, h8, h9, h10⟩
theorem vx_L.narrow {C n d : String} {A B : Nat → Prop} {U : State} {H : Heap} (h : vx_L C n d A U H) (hAB : ∀ q, B q → A q) : vx_L C n d B U H := by
  obtain ⟨c, k, i, f, a, cell, h1, h2, h3, h4, h5, h6, h7, h8, h9, h10⟩ := h
  exact ⟨c, k, i, f, a, cell, h1, h2, h3, h4, h5, h6, h7, h8, h9, fun z => h10 (hAB _ z)⟩
theorem vx_L.word {C n d : String} {A : Nat → Prop} {s : State} {args : Array Value} (h : vx_L C n d A s s.heap) : (Cond.laysStatic C n d).before args s = true := by
  obtain ⟨c, k, i, f, a, cell, h1, h2, h3, h4, h5, h6, h7, h8, h9, -⟩ := h
  show (Cond.laysStatic C n d).holds args s none s [] = true
  exact Cond.laysStatic_of h1 h2 h3 h4 h5 h6 h7 h8 h9
/-- .. and what it holds: null or some reference -/
def vx_Zq (C n d : String) (A : Nat → Prop) (U : State) (H : Heap) : Prop := va_Zq C n d A U H ∧ vx_L C n d A U H
theorem vx_Zq.moved {C n d : String} {A : Nat → Prop} {u U : State} {H : Heap} (hvm : u.vm.Alike U.vm) (h : vx_Zq C n d A u H) : vx_Zq C n d A U H := ⟨va_Zq.moved hvm h.1, vx_L.moved hvm h.2⟩
theorem vx_Zq.kept {C n d : String} {A : Nat → Prop} {U : State} {H H1 : Heap} (h : vx_Zq C n d A U H) (hq : ∀ a : Nat, a < H.size → ¬ A a → H1[a]? = H[a]?) : vx_Zq C n d A U H1 := ⟨va_Zq.kept h.1 hq, vx_L.kept h.2 hq⟩
theorem vx_Zq.narrow {C n d : String} {A B : Nat → Prop} {U : State} {H : Heap} (h : vx_Zq C n d A U H) (hAB : ∀ q, B q → A q) : vx_Zq C n d B U H := ⟨va_Zq.narrow h.1 hAB, vx_L.narrow h.2 hAB⟩
theorem vx_Zqof {args : Array Value} {s : State} {C n d : String} {A : Nat → Prop} (hl : (Cond.laysStatic C n d).before args s = true) (hini : (Cond.initialized C).before args s = true) (h : (Cond.isRef (.static C n d)).before args s = true) (hA : ∀ a : Nat, a < s.heap.size → ¬ A a) : vx_Zq C n d A s s.heap := by
  refine ⟨va_Zqof hl hini h hA, ?_⟩
  obtain ⟨c, k, i, f, a, cell, h1, h2, h3, h4, h5, h6, h7, h8, h9⟩ := Cond.laysStatic_spec hl
  exact ⟨c, k, i, f, a, cell, h1, h2, h3, h4, h5, h6, h7, h8, h9, hA a (Array.getElem?_eq_some_iff.mp h5).1⟩
theorem vx_isRef {C n d : String} {v : Value} {A : Nat → Prop} {s : State} {args : Array Value} (h : va_Z C n d v A s s.heap) (hv : v.isRef = true) : (Cond.isRef (.static C n d)).before args s = true := by
  obtain ⟨cf, kf, fi, f, a, cell, h1, h2, h3, h4, h5, h6, h7, -⟩ := h
  have he : (Term.static C n d).eval args s none [] s = some v := by
    simp [Term.eval, State.fieldNamed?, h1, h2, h4, h5, h6, h7]
  simp only [Cond.before, Cond.holds, Cond.value, he]
  cases v <;> simp_all [Value.isRef]
theorem vx_isRefq {C n d : String} {A : Nat → Prop} {s : State} {args : Array Value} (h : va_Zq C n d A s s.heap) : (Cond.isRef (.static C n d)).before args s = true := by
  rcases h with h | ⟨t, h⟩
  · exact vx_isRef h rfl
  · exact vx_isRef h rfl
/-- the same frame, seen from here: as if the method were called anew in this heap -/
theorem vx_rebase {T : State} (X : Stand p l e R s m args below meth c T locs cells slots) {R' : Room} (hf : R'.frames ≤ R.frames) (hl : R'.locals ≤ R.locals) (hc : cells + R'.cells ≤ R.cells) (hs : slots + R'.slots ≤ R.slots) :
    Stand p l e R' ((T.setVm s.vm).setFrames (.invoking m args :: below)) m args below meth c T [] 0 0 := by
  have htop : (T.setVm s.vm).topJava?.isSome := X.here.top
  have hF : ((T.setVm s.vm).setFrames (.invoking m args :: below)).frames = .invoking m args :: below := State.frames_setFrames _ (State.cur_lt_of_top htop)
  obtain ⟨g₀, hg0⟩ := Option.isSome_iff_exists.mp htop
  obtain ⟨r, hr⟩ := State.topJava?_eq_some.mp hg0
  have hl9 : e.platform.stackLimits (T.setVm s.vm).me = e.platform.stackLimits s.me := X.limits
  have hb9 : (T.setVm s.vm).me.stackBytes = s.me.stackBytes := X.bytes
  refine ⟨X.admits, X.cas, X.clock, hF, ?_, X.hears, X.method, X.code, X.here, X.tail, X.warmed, ?_, ?_, ?_⟩
  · have h := X.room
    have hU : ((T.setVm s.vm).setFrames (.invoking m args :: below)).localsInUse = s.localsInUse := by
      rw [State.localsInUse_invoking hF (meth := meth) (c := c) X.method X.code, State.localsInUse_invoking X.frames X.method X.code]
    simp only [State.hasRoom, Bool.and_eq_true, decide_eq_true_eq] at h ⊢
    obtain ⟨⟨⟨⟨h1, h2, h3, h4, h5, h6⟩, h7⟩, h8⟩, h9⟩ := h
    rw [X.frames, List.length_cons] at h2 h3
    have q1 := X.heapSize
    have q2 := X.used
    simp only [hF, hU, List.length_cons, State.stackLimits_setFrames, State.stackBytes_setFrames, hl9, hb9]
    refine ⟨⟨⟨⟨by omega, by omega, by omega, by omega, by omega, h6⟩, ?_⟩, ?_⟩, X.book⟩
    · show T.heap.size + R'.cells ≤ e.platform.maxCells
      omega
    · show T.slotsUsed + R'.slots ≤ e.platform.maxSlots
      omega
  · rw [State.stackLimits_setFrames]; rfl
  · rw [State.stackBytes_setFrames]; rfl
  · refine ⟨?_, Nat.le_refl _, Nat.le_refl _, ?_, ?_, fun a c9 h9 => ⟨c9, h9, rfl, rfl, fun _ _ => rfl⟩⟩
    · obtain ⟨t, ht, -⟩ := State.frames_cons hr
      show T.setVm s.vm = { ((T.setVm s.vm).setFrames (.invoking m args :: below)).setFrames (T.setVm s.vm).frames with heap := T.heap, slotsUsed := T.slotsUsed }
      rw [State.setFrames_setFrames, State.setFrames_self ht]
      rfl
    · show T.slotsUsed = T.slotsUsed + ((T.heap.toList.drop T.heap.size).map (·.slots.size)).sum
      rw [List.drop_eq_nil_of_le (Nat.le_of_eq Array.length_toList)]
      rfl
    · show ((T.heap.toList.drop T.heap.size).map (·.slots.size)).sum ≤ 0
      rw [List.drop_eq_nil_of_le (Nat.le_of_eq Array.length_toList)]
      exact Nat.le_refl _
/-- 'throw new E()': new; dup; invokespecial; athrow -/
theorem vx_throw0 {cc : ByteArray} {pc : Nat} (hexec : p.tables.exec = Jvm.exec) (hb : c.code = cc) (hl : l.stackTraces = false) {own cls : String} {names : List String} {ik ic mc ms : Nat} {A : Nat → Prop}
    (hown : s.vm.findClass own = some m.cls) (hcls : Bundle.fit cls = true) (hnames : ∀ n ∈ names, Bundle.fit n = true)
    (hk : (Cond.classLink own ik cls).before args s = true) (hini : (Cond.initialized cls).before args s = true) (hat : ∀ w ∈ vx_at0 own ic cls names, w.before args s = true)
    (hgood : ∀ w ∈ Cond.classLink own ik cls :: Cond.initialized cls :: vx_at0 own ic cls names, vx_ot w = true)
    (hU : vx_Zq Bundle.tN "UNASSIGNED_STACK" Bundle.steD A s s.heap) (hN : vx_Zq Bundle.tN "SUPPRESSED_SENTINEL" Bundle.listD A s s.heap) (hS : va_S A s.heap H locs) (hsize : ls.size = c.maxLocals)
    (d0 : decode cc pc = .ok (.new ik, 3)) (d3 : decode cc (pc + 3) = .ok (.dup, 1)) (d4 : decode cc (pc + 4) = .ok (.invokespecial ic, 3)) (d7 : decode cc (pc + 7) = .ok (.athrow, 1))
    (hout : ∀ x ∈ c.exceptionTable.toList, covers x (pc + 7) = false)
    (hRframes : names.length + 3 < R.frames) (hRlocals : (rest.map fun v => v.category).sum + (13 * (names.length + 1) + 42) ≤ R.locals) (hRcells : cells + 1 ≤ R.cells) (hRslots : slots + 6 ≤ R.slots) (hlocks : meth.locks = false)
    (hx : ∀ t : State, s.vm.Alike t.vm → H.size ≤ t.heap.size → (∀ q : Nat, q < H.size → t.heap[q]? = H[q]?) → XC cls s t)
    (hf : ∀ z ∈ locs, free z.base) (hc : cells + 1 ≤ mc) (hs : slots + 6 ≤ ms) :
    W p l e R s m args below meth c H locs cells slots (vx_MQ below Qc XC args s mc ms free) (F0 m pc ls rest) := by
  intro T hT X
  have htr : e.platform.stackTraces = false := (show e.platform.stackTraces = l.stackTraces by rw [X.admits.platform]).trans hl
  have Y := vx_rebase X (R' := { frames := R.frames, locals := R.locals, cells := 1, slots := 6 }) (Nat.le_refl _) (Nat.le_refl _) hRcells hRslots
  obtain ⟨s', hA⟩ : ∃ z, z = (T.setVm s.vm).setFrames (.invoking m args :: below) := ⟨_, rfl⟩
  rw [← hA] at Y
  have hvm : s'.vm = s.vm := by rw [hA]; rfl
  have hhp : s'.heap = H := by rw [hA]; exact hT
  have hW0 : s.WarmedH s'.vm := by rw [hvm]; exact State.WarmedH.refl s
  have hat' : ∀ w ∈ vx_at0 own ic cls names, w.before args s' = true := fun w hw => vx_ot_at hW0 hvm.symm (hgood w (List.mem_cons_of_mem _ (List.mem_cons_of_mem _ hw))) (hat w hw)
  have hk' : (Cond.classLink own ik cls).before args s' = true := vx_ot_at hW0 hvm.symm (hgood _ List.mem_cons_self) hk
  have hini' : (Cond.initialized cls).before args s' = true := vx_ot_at hW0 hvm.symm (hgood _ (List.mem_cons_of_mem _ List.mem_cons_self)) hini
  have hU' : vx_Zq Bundle.tN "UNASSIGNED_STACK" Bundle.steD A s' s'.heap := by rw [hhp]; exact vx_Zq.moved hW0.alike (hU.kept hS.2.1)
  have hN' : vx_Zq Bundle.tN "SUPPRESSED_SENTINEL" Bundle.listD A s' s'.heap := by rw [hhp]; exact vx_Zq.moved hW0.alike (hN.kept hS.2.1)
  have h : ∀ w ∈ Bundle.ownAtoms0 own ic cls names, w.before args s' = true := vx_own hat' (vx_isRefq hU'.1) (vx_isRefq hN'.1) hU'.2.word hN'.2.word
  have hown' : s'.vm.findClass own = some m.cls := by rw [hvm]; exact hown
  have hins : (Cond.instantiable cls 6).before args s' = true := h _ (by simp [Bundle.ownAtoms0])
  obtain ⟨vm₁, cX, kX, hfX, hkX, -, -, X₁, st1⟩ := Y.newCold hexec (own := own) (C := cls) (index := ik) (n := 6) hown' hk' hins hini'
    (g := F0 m pc ls rest) rfl (by rw [hb]; exact d0) (Nat.le_refl _) (Nat.le_refl _)
  generalize hT1 : (T.setVm vm₁).pushCell { cls := cX, slots := kX.instanceTypes.map defaultValue, vm := .none } = T1 at X₁ st1
  have hcat : (Value.ref T.heap.size).category = 1 := rfl
  have hcellA : T1.heap[T.heap.size]? = some (freshCell cX kX) := by rw [← hT1]; exact State.heap_pushCell_size _ _
  have d3' : decode c.code (pc + 3) = .ok (.dup, 1) := by rw [hb]; exact d3
  obtain ⟨U, hsteps, hrun, hend, hW, hsame, ce, hce, hO⟩ := X₁.ctorThrow0 hexec htr (own := own) (cls := cls) (names := names) (ic := ic) hown' hcls hnames h (fun x hx => nomatch hx) hfX hkX hcellA (by rw [hhp, hT]; exact Nat.le_refl _)
    (g := { method := m, pc := pc + 4, locals := ls, stack := .ref T.heap.size :: .ref T.heap.size :: rest, locked := none }) rfl hsize rfl rfl (rest := rest) rfl
    (by rw [hb]; exact d4) (by rw [hb]; exact d7) hout hRframes (by simp only [List.map_cons, List.sum_cons, hcat]; omega) hlocks
  obtain ⟨f1, f2⟩ := vx_frame hsame
  rw [hhp] at f1 f2
  have hWs : s.WarmedH U.vm := State.WarmedH.trans hW0 hW
  have hcl : s.vm.findClass cls = some ce.cls := by
    have h9 := hO.cls
    rw [hvm] at h9
    exact h9
  have hall : s.sameButNew ({ U with vm := s.vm } : State) locs mc ms := by
    subst hA
    obtain ⟨e1, e2⟩ := hsame
    rw [State.setFrames_setFrames] at e1
    have h2 : (T.setVm s.vm).sameButNew ({ U with vm := s.vm } : State) [] (0 + 1) (0 + 6) := ⟨e1, e2⟩
    have h3 := X.same.trans h2
    rw [List.append_nil] at h3
    exact h3.mono hc hs
  refine ⟨U, ?_, .threw T.heap.size, hrun, hend, Or.inr ⟨T.heap.size, rfl, cls, ce, locs, hx U hWs.alike f1 (fun q hq => f2 q hq (fun z hz => nomatch hz)), hce, hO.vm, hcl, hWs, hall, hf⟩⟩
  refine st1 _ ?_
  show Steps p.tables e below (T1.setTop { method := m, pc := pc + 3, locals := ls, stack := .ref T.heap.size :: rest, locked := none }) _
  jvm_step X₁.here [X₁.here.top, hexec, d3', Value.category]
  exact hsteps
/-- 'throw new E("text")': new; dup; ldc; invokespecial; athrow -/
theorem vx_throwS {cc : ByteArray} {pc : Nat} (hexec : p.tables.exec = Jvm.exec) (hb : c.code = cc) (hl : l.stackTraces = false) {own cls text : String} {names : List String} {ik is ic mc ms sa : Nat} {A : Nat → Prop}
    (hown : s.vm.findClass own = some m.cls) (hcls : Bundle.fit cls = true) (hnames : ∀ n ∈ names, Bundle.fit n = true)
    (hk : (Cond.classLink own ik cls).before args s = true) (hini : (Cond.initialized cls).before args s = true) (hstr : vk_R own is text sa s) (hat : ∀ w ∈ vx_atS own ic cls names, w.before args s = true)
    (hgood : ∀ w ∈ Cond.classLink own ik cls :: Cond.initialized cls :: vx_atS own ic cls names, vx_ot w = true)
    (hU : vx_Zq Bundle.tN "UNASSIGNED_STACK" Bundle.steD A s s.heap) (hN : vx_Zq Bundle.tN "SUPPRESSED_SENTINEL" Bundle.listD A s s.heap) (hS : va_S A s.heap H locs) (hsize : ls.size = c.maxLocals)
    (d0 : decode cc pc = .ok (.new ik, 3)) (d3 : decode cc (pc + 3) = .ok (.dup, 1)) (d4 : decode cc (pc + 4) = .ok (.ldc is, 2)) (d6 : decode cc (pc + 6) = .ok (.invokespecial ic, 3)) (d9 : decode cc (pc + 9) = .ok (.athrow, 1))
    (hout : ∀ x ∈ c.exceptionTable.toList, covers x (pc + 9) = false)
    (hRframes : names.length + 3 < R.frames) (hRlocals : (rest.map fun v => v.category).sum + (13 * (names.length + 1) + 43) ≤ R.locals) (hRcells : cells + 1 ≤ R.cells) (hRslots : slots + 6 ≤ R.slots) (hlocks : meth.locks = false)
    (hx : ∀ t : State, s.vm.Alike t.vm → H.size ≤ t.heap.size → (∀ q : Nat, q < H.size → t.heap[q]? = H[q]?) → XC cls s t)
    (hf : ∀ z ∈ locs, free z.base) (hc : cells + 1 ≤ mc) (hs : slots + 6 ≤ ms) :
    W p l e R s m args below meth c H locs cells slots (vx_MQ below Qc XC args s mc ms free) (F0 m pc ls rest) := by
  intro T hT X
  have htr : e.platform.stackTraces = false := (show e.platform.stackTraces = l.stackTraces by rw [X.admits.platform]).trans hl
  have Y := vx_rebase X (R' := { frames := R.frames, locals := R.locals, cells := 1, slots := 6 }) (Nat.le_refl _) (Nat.le_refl _) hRcells hRslots
  obtain ⟨s', hA⟩ : ∃ z, z = (T.setVm s.vm).setFrames (.invoking m args :: below) := ⟨_, rfl⟩
  rw [← hA] at Y
  have hvm : s'.vm = s.vm := by rw [hA]; rfl
  have hhp : s'.heap = H := by rw [hA]; exact hT
  have hW0 : s.WarmedH s'.vm := by rw [hvm]; exact State.WarmedH.refl s
  have hat' : ∀ w ∈ vx_atS own ic cls names, w.before args s' = true := fun w hw => vx_ot_at hW0 hvm.symm (hgood w (List.mem_cons_of_mem _ (List.mem_cons_of_mem _ hw))) (hat w hw)
  have hk' : (Cond.classLink own ik cls).before args s' = true := vx_ot_at hW0 hvm.symm (hgood _ List.mem_cons_self) hk
  have hini' : (Cond.initialized cls).before args s' = true := vx_ot_at hW0 hvm.symm (hgood _ (List.mem_cons_of_mem _ List.mem_cons_self)) hini
  have hU' : vx_Zq Bundle.tN "UNASSIGNED_STACK" Bundle.steD A s' s'.heap := by rw [hhp]; exact vx_Zq.moved hW0.alike (hU.kept hS.2.1)
  have hN' : vx_Zq Bundle.tN "SUPPRESSED_SENTINEL" Bundle.listD A s' s'.heap := by rw [hhp]; exact vx_Zq.moved hW0.alike (hN.kept hS.2.1)
  have h : ∀ w ∈ Bundle.ownAtoms own ic cls names, w.before args s' = true := vx_own hat' (vx_isRefq hU'.1) (vx_isRefq hN'.1) hU'.2.word hN'.2.word
  have hown' : s'.vm.findClass own = some m.cls := by rw [hvm]; exact hown
  have hins : (Cond.instantiable cls 6).before args s' = true := h _ (by simp [Bundle.ownAtoms])
  obtain ⟨vm₁, cX, kX, hfX, hkX, -, -, X₁, st1⟩ := Y.newCold hexec (own := own) (C := cls) (index := ik) (n := 6) hown' hk' hins hini'
    (g := F0 m pc ls rest) rfl (by rw [hb]; exact d0) (Nat.le_refl _) (Nat.le_refl _)
  generalize hT1 : (T.setVm vm₁).pushCell { cls := cX, slots := kX.instanceTypes.map defaultValue, vm := .none } = T1 at X₁ st1
  have hcat : (Value.ref T.heap.size).category = 1 := rfl
  have hcellA : T1.heap[T.heap.size]? = some (freshCell cX kX) := by rw [← hT1]; exact State.heap_pushCell_size _ _
  have d3' : decode c.code (pc + 3) = .ok (.dup, 1) := by rw [hb]; exact d3
  have d4' : decode c.code (pc + 4) = .ok (.ldc is, 2) := by rw [hb]; exact d4
  have hstr' : vk_R own is text sa s' := vk_R.warm hW0 hstr
  obtain ⟨U, hsteps, hrun, hend, hW, hsame, ce, hce, hO⟩ := X₁.ctorThrowS hexec htr (own := own) (cls := cls) (names := names) (ic := ic) hown' hcls hnames h (fun x hx => nomatch hx) hfX hkX hcellA (by rw [hhp, hT]; exact Nat.le_refl _) (msg := .ref sa) rfl
    (g := { method := m, pc := pc + 6, locals := ls, stack := .ref sa :: .ref T.heap.size :: .ref T.heap.size :: rest, locked := none }) rfl hsize rfl rfl (rest := rest) rfl
    (by rw [hb]; exact d6) (by rw [hb]; exact d9) hout hRframes (by simp only [List.map_cons, List.sum_cons, hcat]; omega) hlocks
  obtain ⟨f1, f2⟩ := vx_frame hsame
  rw [hhp] at f1 f2
  have hWs : s.WarmedH U.vm := State.WarmedH.trans hW0 hW
  have hcl : s.vm.findClass cls = some ce.cls := by
    have h9 := hO.cls
    rw [hvm] at h9
    exact h9
  have hall : s.sameButNew ({ U with vm := s.vm } : State) locs mc ms := by
    subst hA
    obtain ⟨e1, e2⟩ := hsame
    rw [State.setFrames_setFrames] at e1
    have h2 : (T.setVm s.vm).sameButNew ({ U with vm := s.vm } : State) [] (0 + 1) (0 + 6) := ⟨e1, e2⟩
    have h3 := X.same.trans h2
    rw [List.append_nil] at h3
    exact h3.mono hc hs
  refine ⟨U, ?_, .threw T.heap.size, hrun, hend, Or.inr ⟨T.heap.size, rfl, cls, ce, locs, hx U hWs.alike f1 (fun q hq => f2 q hq (fun z hz => nomatch hz)), hce, hO.vm, hcl, hWs, hall, hf⟩⟩
  refine st1 _ ?_
  show Steps p.tables e below (T1.setTop { method := m, pc := pc + 3, locals := ls, stack := .ref T.heap.size :: rest, locked := none }) _
  jvm_step X₁.here [X₁.here.top, hexec, d3', Value.category]
  exact X₁.ldcString hexec (own := own) (text := text) (index := is) (a := sa) hown' hstr'.1 hstr'.2
    (g := { method := m, pc := pc + 4, locals := ls, stack := .ref T.heap.size :: .ref T.heap.size :: rest, locked := none }) rfl d4' _ hsteps
/-- 'throw new E("text")', the text by a wide index -/
theorem vx_throwSW {cc : ByteArray} {pc : Nat} (hexec : p.tables.exec = Jvm.exec) (hb : c.code = cc) (hl : l.stackTraces = false) {own cls text : String} {names : List String} {ik is ic mc ms sa : Nat} {A : Nat → Prop}
    (hown : s.vm.findClass own = some m.cls) (hcls : Bundle.fit cls = true) (hnames : ∀ n ∈ names, Bundle.fit n = true)
    (hk : (Cond.classLink own ik cls).before args s = true) (hini : (Cond.initialized cls).before args s = true) (hstr : vk_R own is text sa s) (hat : ∀ w ∈ vx_atS own ic cls names, w.before args s = true)
    (hgood : ∀ w ∈ Cond.classLink own ik cls :: Cond.initialized cls :: vx_atS own ic cls names, vx_ot w = true)
    (hU : vx_Zq Bundle.tN "UNASSIGNED_STACK" Bundle.steD A s s.heap) (hN : vx_Zq Bundle.tN "SUPPRESSED_SENTINEL" Bundle.listD A s s.heap) (hS : va_S A s.heap H locs) (hsize : ls.size = c.maxLocals)
    (d0 : decode cc pc = .ok (.new ik, 3)) (d3 : decode cc (pc + 3) = .ok (.dup, 1)) (d4 : decode cc (pc + 4) = .ok (.ldc_w is, 3)) (d7 : decode cc (pc + 7) = .ok (.invokespecial ic, 3)) (d10 : decode cc (pc + 10) = .ok (.athrow, 1))
    (hout : ∀ x ∈ c.exceptionTable.toList, covers x (pc + 10) = false)
    (hRframes : names.length + 3 < R.frames) (hRlocals : (rest.map fun v => v.category).sum + (13 * (names.length + 1) + 43) ≤ R.locals) (hRcells : cells + 1 ≤ R.cells) (hRslots : slots + 6 ≤ R.slots) (hlocks : meth.locks = false)
    (hx : ∀ t : State, s.vm.Alike t.vm → H.size ≤ t.heap.size → (∀ q : Nat, q < H.size → t.heap[q]? = H[q]?) → XC cls s t)
    (hf : ∀ z ∈ locs, free z.base) (hc : cells + 1 ≤ mc) (hs : slots + 6 ≤ ms) :
    W p l e R s m args below meth c H locs cells slots (vx_MQ below Qc XC args s mc ms free) (F0 m pc ls rest) := by
  intro T hT X
  have htr : e.platform.stackTraces = false := (show e.platform.stackTraces = l.stackTraces by rw [X.admits.platform]).trans hl
  have Y := vx_rebase X (R' := { frames := R.frames, locals := R.locals, cells := 1, slots := 6 }) (Nat.le_refl _) (Nat.le_refl _) hRcells hRslots
  obtain ⟨s', hA⟩ : ∃ z, z = (T.setVm s.vm).setFrames (.invoking m args :: below) := ⟨_, rfl⟩
  rw [← hA] at Y
  have hvm : s'.vm = s.vm := by rw [hA]; rfl
  have hhp : s'.heap = H := by rw [hA]; exact hT
  have hW0 : s.WarmedH s'.vm := by rw [hvm]; exact State.WarmedH.refl s
  have hat' : ∀ w ∈ vx_atS own ic cls names, w.before args s' = true := fun w hw => vx_ot_at hW0 hvm.symm (hgood w (List.mem_cons_of_mem _ (List.mem_cons_of_mem _ hw))) (hat w hw)
  have hk' : (Cond.classLink own ik cls).before args s' = true := vx_ot_at hW0 hvm.symm (hgood _ List.mem_cons_self) hk
  have hini' : (Cond.initialized cls).before args s' = true := vx_ot_at hW0 hvm.symm (hgood _ (List.mem_cons_of_mem _ List.mem_cons_self)) hini
  have hU' : vx_Zq Bundle.tN "UNASSIGNED_STACK" Bundle.steD A s' s'.heap := by rw [hhp]; exact vx_Zq.moved hW0.alike (hU.kept hS.2.1)
  have hN' : vx_Zq Bundle.tN "SUPPRESSED_SENTINEL" Bundle.listD A s' s'.heap := by rw [hhp]; exact vx_Zq.moved hW0.alike (hN.kept hS.2.1)
  have h : ∀ w ∈ Bundle.ownAtoms own ic cls names, w.before args s' = true := vx_own hat' (vx_isRefq hU'.1) (vx_isRefq hN'.1) hU'.2.word hN'.2.word
  have hown' : s'.vm.findClass own = some m.cls := by rw [hvm]; exact hown
  have hins : (Cond.instantiable cls 6).before args s' = true := h _ (by simp [Bundle.ownAtoms])
  obtain ⟨vm₁, cX, kX, hfX, hkX, -, -, X₁, st1⟩ := Y.newCold hexec (own := own) (C := cls) (index := ik) (n := 6) hown' hk' hins hini'
    (g := F0 m pc ls rest) rfl (by rw [hb]; exact d0) (Nat.le_refl _) (Nat.le_refl _)
  generalize hT1 : (T.setVm vm₁).pushCell { cls := cX, slots := kX.instanceTypes.map defaultValue, vm := .none } = T1 at X₁ st1
  have hcat : (Value.ref T.heap.size).category = 1 := rfl
  have hcellA : T1.heap[T.heap.size]? = some (freshCell cX kX) := by rw [← hT1]; exact State.heap_pushCell_size _ _
  have d3' : decode c.code (pc + 3) = .ok (.dup, 1) := by rw [hb]; exact d3
  have d4' : decode c.code (pc + 4) = .ok (.ldc_w is, 3) := by rw [hb]; exact d4
  have hstr' : vk_R own is text sa s' := vk_R.warm hW0 hstr
  obtain ⟨U, hsteps, hrun, hend, hW, hsame, ce, hce, hO⟩ := X₁.ctorThrowS hexec htr (own := own) (cls := cls) (names := names) (ic := ic) hown' hcls hnames h (fun x hx => nomatch hx) hfX hkX hcellA (by rw [hhp, hT]; exact Nat.le_refl _) (msg := .ref sa) rfl
    (g := { method := m, pc := pc + 7, locals := ls, stack := .ref sa :: .ref T.heap.size :: .ref T.heap.size :: rest, locked := none }) rfl hsize rfl rfl (rest := rest) rfl
    (by rw [hb]; exact d7) (by rw [hb]; exact d10) hout hRframes (by simp only [List.map_cons, List.sum_cons, hcat]; omega) hlocks
  obtain ⟨f1, f2⟩ := vx_frame hsame
  rw [hhp] at f1 f2
  have hWs : s.WarmedH U.vm := State.WarmedH.trans hW0 hW
  have hcl : s.vm.findClass cls = some ce.cls := by
    have h9 := hO.cls
    rw [hvm] at h9
    exact h9
  have hall : s.sameButNew ({ U with vm := s.vm } : State) locs mc ms := by
    subst hA
    obtain ⟨e1, e2⟩ := hsame
    rw [State.setFrames_setFrames] at e1
    have h2 : (T.setVm s.vm).sameButNew ({ U with vm := s.vm } : State) [] (0 + 1) (0 + 6) := ⟨e1, e2⟩
    have h3 := X.same.trans h2
    rw [List.append_nil] at h3
    exact h3.mono hc hs
  refine ⟨U, ?_, .threw T.heap.size, hrun, hend, Or.inr ⟨T.heap.size, rfl, cls, ce, locs, hx U hWs.alike f1 (fun q hq => f2 q hq (fun z hz => nomatch hz)), hce, hO.vm, hcl, hWs, hall, hf⟩⟩
  refine st1 _ ?_
  show Steps p.tables e below (T1.setTop { method := m, pc := pc + 3, locals := ls, stack := .ref T.heap.size :: rest, locked := none }) _
  jvm_step X₁.here [X₁.here.top, hexec, d3', Value.category]
  exact X₁.ldcStringW hexec (own := own) (text := text) (index := is) (a := sa) hown' hstr'.1 hstr'.2
    (g := { method := m, pc := pc + 4, locals := ls, stack := .ref T.heap.size :: .ref T.heap.size :: rest, locked := none }) rfl d4' _ hsteps
end Ends
section Bodies
variable {l : Launch}
theorem vx_ofW {y : MethodName} {ws ws' : List Cond} {rm : Room} {Pc : Array Value → State → Prop} {Qc : Array Value → State → Outcome → State → Prop} {XC : String → State → State → Prop} {mc ms : Nat} {free : Addr → Prop} {cc : ByteArray} {maxL : Nat} {ret : Option FieldType}
    (hy : plainName y.cls = true) (hw : ws = Cond.code y cc maxL ret :: ws')
    (body : ∀ p e s m args below meth c s₁, BodyLoose p l y (headSpec ws rm) cc maxL ret e s m args below meth c s₁ → c.maxLocals = maxL → (∀ x ∈ c.exceptionTable.toList, False) → Pc args s →
      W p l e (headSpec ws rm).room s m args below meth c s.heap [] 0 0 (vx_MQ below Qc XC args s mc ms free) (entryFrame m args maxL)) : vx_Met l y ws rm Pc Qc XC mc ms free := by
  refine MetFree.of_bodyS (code := cc) (maxLocals := maxL) (ret := ret) hy ?_ ?_
  · intro args s m h hn
    obtain ⟨meth, c, h1, h2, h3, h4, h5, h6, -, -⟩ := Cond.code_spec hn (atoms_spec (ws := ws) h _ (by rw [hw]; exact List.mem_cons_self))
    exact ⟨meth, c, h1, h2, h3, h4, h5, h6⟩
  · intro p e s m args below meth c s₁ B hml hP _
    have hh0 : s₁.heap = s.heap := by rw [B.state]; rfl
    have ht : ∀ x ∈ c.exceptionTable.toList, False := by
      obtain ⟨meth9, c9, h1, h2, -, -, -, -, h7, -⟩ := Cond.code_spec B.named (atoms_spec (ws := ws) B.pre _ (by rw [hw]; exact List.mem_cons_self))
      cases Option.some.inj (h1.symm.trans B.method)
      cases Option.some.inj (h2.symm.trans (Stand.of_body B).code)
      intro x hx
      rw [Array.isEmpty_iff.mp h7] at hx
      cases hx
    obtain ⟨t, a1, o, b1, b2, b3⟩ := body p e s m args below meth c s₁ B hml ht hP s₁ hh0 (Stand.of_body B)
    exact ⟨t, o, a1, b1, b2, b3⟩
/-- the table of a body with handlers -/
theorem vx_table {p : Program} {x y : MethodName} {S : Spec} {cc bytes : ByteArray} {maxL maxL' : Nat} {ret ret' : Option FieldType} {e : Env} {s s₁ : State} {m : MethodId} {args : Array Value} {below : List Frame} {meth : Method} {c : Code} {hh : List (Nat × Nat × Nat × Nat)}
    (B : BodyLoose p l y S cc maxL ret e s m args below meth c s₁) (h : (Cond.codeWith y bytes maxL' ret' hh).before args s = true) : c.exceptionTable.toList = tableOf hh := by
  obtain ⟨m9, meth9, c9, hn9, h1, h2, -, -, h6, -⟩ := Cond.codeWith_spec h
  cases Option.some.inj (hn9.symm.trans B.named)
  cases Option.some.inj (h1.symm.trans B.method)
  cases Option.some.inj (h2.symm.trans (Stand.of_body B).code)
  rw [← h6, table_eq]
end Bodies
end VXA
/-! ===== END ===== -/
end
section
/-! ===== BEGIN a static call of a method with an exception table ===== -/
section VXS
variable {p : Program} {l : Launch} {e : Env} {R : Room} {s : State} {m : MethodId} {args : Array Value} {below : List Frame} {meth : Method} {c : Code} {T : State} {H : Heap} {locs : List Loc} {cells slots : Nat}
abbrev vx_CSW (R : Room) (s : State) (args : Array Value) (own : String) (index : Nat) (y : MethodName) (bytes : ByteArray) (maxL : Nat) (ret : Option FieldType) (hh : List (Nat × Nat × Nat × Nat)) (ws : List Cond) (rm : Room) (mc ms n : Nat) : Prop :=
  (rm.cells = mc ∧ rm.slots = ms ∧ rm.frames + 1 ≤ R.frames ∧ 8 + (maxL + 11) + rm.locals ≤ R.locals ∧ (∀ w ∈ ws, ∀ (a' : Array Value) (U : State), s.WarmedH U.vm → w.before a' U = true) ∧ Cond.codeWith y bytes maxL ret hh ∈ ws) ∧
  (Cond.codeWith y bytes maxL ret hh).before args s = true ∧ (Cond.initialized y.cls).before args s = true ∧ (y.cls ≠ "java/lang/invoke/MethodHandle" ∧ y.cls ≠ "java/lang/invoke/VarHandle") ∧
  (∀ sig, parseMethodDescriptor y.desc = some sig → n = sig.parameters.length) ∧ (Cond.methodLink own index y).before args s = true ∧ (Cond.static y).before args s = true
theorem vx_cwSW {own : String} {index maxL mc ms : Nat} {y : MethodName} {bytes : ByteArray} {ret : Option FieldType} {hh : List (Nat × Nat × Nat × Nat)} {Ts ws ws' : List Cond} {rm : Room} (n : Nat) (ht : ∀ w ∈ Ts, w.before args s = true) (hT : GoodIn Ts (va_wsS own index y ws)) (hw : ws = Cond.codeWith y bytes maxL ret hh :: ws') (hrc : rm.cells = mc) (hrs : rm.slots = ms)
    (hd : y.cls ≠ "java/lang/invoke/MethodHandle" ∧ y.cls ≠ "java/lang/invoke/VarHandle" ∧ (parseMethodDescriptor y.desc).map (fun d => d.parameters.length) = some n) (hR : rm.frames + 1 ≤ R.frames ∧ 8 + (maxL + 11) + rm.locals ≤ R.locals) :
    vx_CSW R s args own index y bytes maxL ret hh ws rm mc ms n := by
  have ok : ∀ w ∈ va_wsS own index y ws, w.before args s = true := fun w h => ht w (hT w h).1
  have hG : GoodIn Ts ws := fun w h => hT w (by unfold va_wsS; exact List.mem_append_right _ h)
  have hc : Cond.codeWith y bytes maxL ret hh ∈ ws := by rw [hw]; exact List.mem_cons_self
  refine ⟨⟨hrc, hrs, hR.1, hR.2, pay_in ht hG, hc⟩, ht _ (hG _ hc).1, ok _ (by simp [va_wsS]), ⟨hd.1, hd.2.1⟩, fun sig h => ?_, ok _ (by simp [va_wsS]), ok _ (by simp [va_wsS])⟩
  have h2 := hd.2.2
  rw [h] at h2
  exact (Option.some.inj h2).symm
theorem vx_callSW (X : Stand p l e R s m args below meth c T locs cells slots) (hexec : p.tables.exec = Jvm.exec) {own : String} {index : Nat} {y : MethodName} {bytes : ByteArray} {maxL : Nat} {ret : Option FieldType} {hh : List (Nat × Nat × Nat × Nat)}
    (hown : s.vm.findClass own = some m.cls) (hlink : (Cond.methodLink own index y).before args s = true) (hstat : (Cond.static y).before args s = true) (hinit : (Cond.initialized y.cls).before args s = true)
    (hcode : (Cond.codeWith y bytes maxL ret hh).before args s = true) (hy : y.cls ≠ "java/lang/invoke/MethodHandle" ∧ y.cls ≠ "java/lang/invoke/VarHandle")
    {W9 : Nat} {Pre : Pt → Array Value → Prop} {Post : Pt → Array Value → Option Value → Pt → Prop} (hK : Back l R p e below s args y 3 W9 Pre Post)
    {g : JFrame} (hg : g.method = m) (hsize : g.locals.size = c.maxLocals) {argsL rest : List Value} (hlen : ∀ sig, parseMethodDescriptor y.desc = some sig → argsL.length = sig.parameters.length)
    (hstack : g.stack = argsL.reverse ++ rest) (hW : 2 * g.monitorRoom + (rest.map fun v => v.category).sum ≤ W9) (hdg : decode c.code g.pc = .ok (.invokestatic index, 3))
    (hpre : ∀ vm₁, s.WarmedH vm₁ → Pre ⟨T.setVm vm₁, locs, cells, slots⟩ argsL.toArray) :
    ∃ (v : Option Value) (vm₁ : Vm) (B : Pt), s.WarmedH vm₁ ∧ Stand p l e R s m args below meth c B.U B.locs B.cells B.slots ∧ Post ⟨T.setVm vm₁, locs, cells, slots⟩ argsL.toArray v B ∧
      ∀ target, Steps p.tables e below (B.U.setTop { g with pc := g.pc + 3, stack := v.toList ++ rest }) target → Steps p.tables e below (T.setTop g) target := by
  obtain ⟨mk, methM, cM, hnamed, hmethM, -, -, -, -, -, -, hsigM⟩ := Cond.codeWith_spec hcode
  have hstatic : methM.isStatic = true := Cond.static_spec hnamed hmethM hstat
  obtain ⟨kP, hkP, -⟩ := className_of_methodNamed hnamed
  have hinitP : kP.init = .initialized := Cond.initialized_spec (findClass_of_methodNamed hnamed) hkP hinit
  obtain ⟨vm₁, X₁, hstep₁⟩ := X.invokestatic hexec hown hlink hnamed hmethM hstatic hkP hinitP hy (g := g) hg (argsL := argsL) (rest := rest) (hlen _ hsigM) hstack hdg
  obtain ⟨v, B, X', hpost, hsteps⟩ := hK m meth c ⟨T.setVm vm₁, locs, cells, slots⟩ { g with stack := rest } (.invokestatic index) mk argsL.toArray X₁ hg hsize hdg hW (X₁.named hnamed) (hpre vm₁ X₁.warmed)
  exact ⟨v, vm₁, B, X₁.warmed, X', hpost, fun target h => hstep₁ _ fun acts => by rw [doInvoke_state]; exact hsteps.trans h⟩
theorem vx_runSW {y : MethodName} {bytes cc : ByteArray} {maxL nL mc ms n index : Nat} {ret : Option FieldType} {hh : List (Nat × Nat × Nat × Nat)} {ws : List Cond} {rm : Room} {Pc : Array Value → State → Prop} {Qc : Array Value → State → Outcome → State → Prop} {free : Addr → Prop} {Ts : List Cond} {own : String} {As rest : List Value} {g : JFrame}
    (S : CallFix p m c cc nL s args Ts own) (hM : Met l y ws rm Pc Qc mc ms free) (cw : vx_CSW R s args own index y bytes maxL ret hh ws rm mc ms n) (hp : PreS s H Pc As)
    (hg : g.method = m) (hn : As.length = n) (hsize : g.locals.size = nL) (hstack : g.stack = As.reverse ++ rest) (hW : 2 * g.monitorRoom + (rest.map fun v => v.category).sum ≤ 8) (hdg : decode cc g.pc = .ok (.invokestatic index, 3)) (hf : cells + mc ≤ R.cells ∧ slots + ms ≤ R.slots) :
    va_Run p l e R s m args below meth c H locs cells slots mc ms g rest (Qc As.toArray) (free) := by
  obtain ⟨⟨hrc, hrs, hfr, hlo, hws, hcw⟩, hcode, hini, hy, hlen, hl, hstt⟩ := cw
  have hK : Back l R p e below s args y 3 8 (PreOf R mc ms Pc) (PostOf Qc mc ms free) := va_backW (hh := hh) (bytes := bytes) (maxL := maxL) (ret := ret) hM hp.1 hrc hrs hfr hlo hws hcw (fun a' U hW => word_at hW (Or.inl (by first | rfl | simp [Cond.onTables, Cond.keeps, Cond.steady])) hini)
  obtain ⟨hx, hb, hml, ho, -⟩ := S
  intro T hT X
  obtain ⟨v, vm₁, ⟨U', l2, c2, s2⟩, hW₁, X', ⟨g', mk, t, L, e1, e2, hq, h1, hL, h2, h3⟩, st⟩ := vx_callSW X hx (hh := hh) (bytes := bytes) (maxL := maxL) (ret := ret) ho hl hstt hini hcode hy hK hg (hsize.trans hml.symm) (argsL := As) (rest := rest) (fun sig h => hn.trans (hlen sig h)) hstack hW (by rw [hb]; exact hdg)
    (fun vm₁ hW₁ => ⟨hf.1, hf.2, hp.2 (T.setVm vm₁) hT hW₁⟩)
  dsimp only [Pt.U, Pt.locs, Pt.cells, Pt.slots] at X' e1 e2 h1 h2 h3 st
  subst h1; subst h2; subst h3
  exact ⟨v, (T.setVm vm₁).calling g' mk As.toArray, t, U', L, hT, X', hL, e1, e2, hq, st⟩
/-- not caught here, past rows that name other classes: it goes on to the caller -/
theorem vx_outP {p : Program} {l : Launch} {e : Env} {R : Room} {s : State} {m : MethodId} {args : Array Value} {below : List Frame} {meth : Method} {c : Code} {H : Heap} {locs : List Loc} {cells slots : Nat} {free : Addr → Prop} {ls : Array Slot} {rest : List Value} {Qc : Array Value → State → Outcome → State → Prop} {XC : String → State → State → Prop}
    {pc : Nat} {own E : String} {ce : Cell} {q : Addr} {mc ms : Nat} (hown : s.vm.findClass own = some m.cls) (hlocks : meth.locks = false)
    (hpass : ∀ z ∈ c.exceptionTable.toList, covers z pc = false ∨ (z.catchType ≠ 0 ∧ ∃ nm : String, (Cond.classLink own z.catchType nm).before args s = true ∧ va_Nc E nm s)) (hcell : H[q]? = some ce) (hv : ce.vm = .none) (hcl : s.vm.findClass E = some ce.cls)
    (hx : ∀ t : State, t.heap = H → s.vm.Alike t.vm → XC E s t) (hf : ∀ z ∈ locs, free z.base) (hc : cells ≤ mc) (hs : slots ≤ ms) :
    vx_W p l e R s m args below meth c H locs cells slots (vx_MQ below Qc XC args s mc ms free) (F0 m pc ls rest) q := by
  intro T hT X
  have hpl : e.platform.magicAccessors = ({} : Platform).magicAccessors := by rw [X.admits.platform]
  obtain ⟨vm', hW', X', st⟩ := X.outThrough hlocks q (g := F0 m pc ls rest) rfl rfl rfl (cell := ce) (by rw [hT]; exact hcell) (by rw [hv]; rfl)
    (by obtain ⟨k9, h9, -⟩ := Vm.findClass_spec hcl; exact ⟨k9, h9⟩) (fun z hz => by
      rcases hpass z hz with h | ⟨hz0, nm, hl1, hn1⟩
      · exact Or.inl h
      · obtain ⟨c6, hc6, hcl6⟩ := Cond.classLink_spec hown hl1 e.platform hpl
        obtain ⟨a8, b8, h1, h2, h3⟩ := hn1
        cases Option.some.inj (h1.symm.trans hcl)
        cases Option.some.inj (h2.symm.trans hc6)
        exact Or.inr ⟨hz0, _, hcl6, h3⟩)
  obtain ⟨g₀, hfr⟩ := X'.frames_eq
  have hcell9 : ((T.setVm vm').setFrames (.throwing q :: below)).heap[q]? = some ce := by
    show T.heap[q]? = some ce
    rw [hT]; exact hcell
  have hend : Ended ((T.setVm vm').setFrames (.throwing q :: below)) below (.threw q) := State.frames_setFrames _ (State.cur_lt_of_frames hfr)
  refine ⟨(T.setVm vm').setFrames (.throwing q :: below), ?_, .threw q, X'.here.running, hend, Or.inr ⟨q, rfl, E, ce, locs, hx _ hT (X'.ends _).1.alike, hcell9, hv, hcl, (X'.ends _).1, (X'.ends _).2.mono hc hs, hf⟩⟩
  rw [X.pushThrowing_eq]
  exact st
/-- a thing of a world lies in the heap -/
theorem vx_lt {D : va_G} {cl : List vw_C} {ws : va_W} {H1 : Heap} (h : va_P D cl ws H1) {k : Nat} {q : Nat × va_E} (hk : ws[k]? = some q) : q.1 < H1.size := (h k q hk).lt
end VXS
/-! ===== END ===== -/
end
section
/-! ===== BEGIN methods with a table of their own: called by a name, returning or throwing ===== -/
section VXH
/-! vx_backW, vx_callVX, vx_callSX, vx_callVW, vx_runVW, vx_runVX, vx_runSX, vx_ofWH follow the same proofs as their sisters above (Free/Laws.lean, Shelf42/LK1.lean); vx_outP calls Shelf42/NT130.lean (outThrough). -/
section
variable {l : Launch} {R : Room} {p : Program} {e : Env} {below : List Frame} {s : State} {sargs : Array Value} {y : MethodName} {len W9 : Nat}
theorem vx_backW {ws : List Cond} {rm : Room} {Pc : Array Value → State → Prop} {Qc : Array Value → State → Outcome → State → Prop} {XC : String → State → State → Prop} {mc ms : Nat} {free : Addr → Prop} {bytes : ByteArray} {maxL : Nat} {ret : Option FieldType} {hh : List (Nat × Nat × Nat × Nat)}
    (hM : vx_Met l y ws rm Pc Qc XC mc ms free) (hblind : FrameBlind Pc) (hrc : rm.cells = mc) (hrs : rm.slots = ms)
    (hframes : rm.frames + 1 ≤ R.frames) (hlocals : W9 + (maxL + 11) + rm.locals ≤ R.locals)
    (hws : ∀ w ∈ ws, ∀ a' U, s.WarmedH U.vm → w.before a' U = true) (hcode : Cond.codeWith y bytes maxL ret hh ∈ ws) (hinit : ∀ a' U, s.WarmedH U.vm → (Cond.initialized y.cls).before a' U = true) :
    vx_Back l R p e below s sargs y len W9 (PreOf R mc ms Pc) (PostOf Qc mc ms free) (vx_Post XC mc ms free) := by
  intro m meth c A g ig mk a X hg hsize hdg hW hn hp
  have h1 : (headSpec ws rm).pre.before a A.U = true := atoms_intro fun w hw => hws w hw _ _ X.warmed
  have h2 : (Cond.codeWith y bytes maxL ret hh).before a A.U = true := hws _ hcode _ _ X.warmed
  have h3 : (Cond.initialized y.cls).before a A.U = true := hinit _ _ X.warmed
  have h4 : A.cells + (headSpec ws rm).room.cells ≤ R.cells := by rw [show (headSpec ws rm).room.cells = mc from hrc]; exact hp.1
  have h5 : A.slots + (headSpec ws rm).room.slots ≤ R.slots := by rw [show (headSpec ws rm).room.slots = ms from hrs]; exact hp.2.1
  have hPc : Pc a (A.U.calling g mk a) := hblind _ _ _ _ hp.2.2
  obtain ⟨U, Ls, c0, s0⟩ := A
  dsimp only [Pt.U, Pt.locs, Pt.cells, Pt.slots] at h1 h2 h3 h4 h5 X hn hPc ⊢
  obtain ⟨m9, methY, cY, hn9, hmY, hcY, -, hlY, -⟩ := Cond.codeWith_spec h2
  cases Option.some.inj (hn9.symm.trans hn)
  obtain ⟨kY, hkY, -⟩ := className_of_methodNamed hn
  have hinitY : kY.init = .initialized := Cond.initialized_spec (findClass_of_methodNamed hn) hkY h3
  have h : At U g.method c below := by rw [hg]; exact X.here
  have hlocals9 : W9 + (maxL + 11) + (headSpec ws rm).room.locals ≤ R.locals := hlocals
  have happ : (headSpec ws rm).appliesLoose y e.platform (U.calling g mk a) = true :=
    Spec.appliesLoose_calling (g := g) h hdg hn hkY hinitY
      (X.room_calling (g := g) (R' := (headSpec ws rm).room) hsize hmY hcY hframes (by rw [hlY]; omega) h4 h5) h1
  obtain ⟨mid, hmid⟩ := h.above
  have hfr : (U.setTop g).frames = (.java g :: mid) ++ below := by rw [State.frames_setTop' g h.top, hmid]; rfl
  obtain ⟨o, s₂, hsteps, -, hend, hq⟩ := Steps.callFree hM p X.admits X.cas X.clock (acts := []) hfr happ hPc trivial
  have hq' : vx_Q Qc XC mc ms free a (U.calling g mk a) o s₂ := hq
  rw [State.frames_setTop' g h.top] at hend
  obtain ⟨g₀, hg0⟩ := Option.isSome_iff_exists.mp h.top
  obtain ⟨r, hr⟩ := State.topJava?_eq_some.mp hg0
  have hr' : (({ U with heap := s₂.heap, slotsUsed := s₂.slotsUsed } : State).setVm s₂.vm).frames = .java g₀ :: r := hr
  rcases hq' with ⟨hqc, L, hfe, hL⟩ | ⟨q, rfl, E, ce, L, hx, hce, hcv, hcl, hW₂, hsm, hL⟩
  · obtain ⟨⟨v, rfl⟩, hW₂, e2, q2, q3, q4, q5, q6⟩ := id hfe
    have e3 : s₂ = ({ (U.calling g mk a).setFrames s₂.frames with heap := s₂.heap, slotsUsed := s₂.slotsUsed } : State).setVm s₂.vm := by
      have : s₂ = ({ s₂ with vm := (U.calling g mk a).vm } : State).setVm s₂.vm := rfl
      rw [e2] at this
      exact this
    obtain ⟨c₂, i₂, len₂, hc₂, hd₂, hf₂⟩ := hend
    have hW' : U.WarmedH s₂.vm := hW₂
    have hcc : c₂ = c := by
      have h1 : s₂.code? g.method = U.code? g.method := by
        rw [State.code?_eq, State.code?_eq, hW'.alike.method?]
      exact Option.some.inj (hc₂.symm.trans (h1.trans h.code))
    subst hcc
    have hlen : len₂ = len := by rw [hdg] at hd₂; cases hd₂; rfl
    subst hlen
    have hs₂ : s₂ = (({ U with heap := s₂.heap, slotsUsed := s₂.slotsUsed } : State).setVm s₂.vm).setTop { g with pc := g.pc + len₂, stack := v.toList ++ g.stack } := by
      refine e3.trans ?_
      rw [hf₂, State.calling_eq h.top, State.setFrames_setFrames, State.setTop_of_frames _ hr', hr]
      rfl
    have hsame : U.sameButNew ({ U with heap := s₂.heap, slotsUsed := s₂.slotsUsed } : State) L mc ms := by
      refine ⟨?_, q2, q3, q4, q5, q6⟩
      obtain ⟨t, ht, -⟩ := State.frames_cons hr
      show ({ U with heap := s₂.heap, slotsUsed := s₂.slotsUsed } : State) = { U.setFrames U.frames with heap := s₂.heap, slotsUsed := s₂.slotsUsed }
      rw [State.setFrames_self ht]
    subst hg
    refine Or.inl ⟨v, ⟨(({ U with heap := s₂.heap, slotsUsed := s₂.slotsUsed } : State).setVm s₂.vm), Ls ++ L, c0 + mc, s0 + ms⟩,
      ⟨X.admits, X.cas, X.clock, X.frames, X.room, X.hears, X.method, X.code, (X.here.setHeapUsed s₂.heap s₂.slotsUsed).setVm hW'.alike, X.tail, State.WarmedH.trans X.warmed hW', X.limits, X.bytes, X.same.trans (hsame.setVm s.vm)⟩,
      ⟨g, mk, s₂, L, rfl, rfl, hqc, rfl, hL, rfl, rfl⟩, ?_⟩
    show Steps p.tables e below _ ((({ U with heap := s₂.heap, slotsUsed := s₂.slotsUsed } : State).setVm s₂.vm).setTop { g with pc := g.pc + len₂, stack := v.toList ++ g.stack })
    rw [← hs₂]
    exact hsteps
  · obtain ⟨e2, q2, q3, q4, q5, q6⟩ := id hsm
    have e3 : s₂ = ({ (U.calling g mk a).setFrames s₂.frames with heap := s₂.heap, slotsUsed := s₂.slotsUsed } : State).setVm s₂.vm := by
      have : s₂ = ({ s₂ with vm := (U.calling g mk a).vm } : State).setVm s₂.vm := rfl
      rw [e2] at this
      exact this
    have hf₂ : s₂.frames = .throwing q :: .java g :: U.frames.tail := hend
    have hW' : U.WarmedH s₂.vm := hW₂
    have hs₂ : s₂ = ((({ U with heap := s₂.heap, slotsUsed := s₂.slotsUsed } : State).setVm s₂.vm).setTop g).pushFrame (.throwing q) := by
      refine e3.trans ?_
      rw [hf₂, State.calling_eq h.top, State.setFrames_setFrames, State.pushFrame, State.frames_setTop _ hr', State.setTop_of_frames _ hr', State.setFrames_setFrames, hr]
      rfl
    have hsame : U.sameButNew ({ U with heap := s₂.heap, slotsUsed := s₂.slotsUsed } : State) L mc ms := by
      refine ⟨?_, q2, q3, q4, q5, q6⟩
      obtain ⟨t, ht, -⟩ := State.frames_cons hr
      show ({ U with heap := s₂.heap, slotsUsed := s₂.slotsUsed } : State) = { U.setFrames U.frames with heap := s₂.heap, slotsUsed := s₂.slotsUsed }
      rw [State.setFrames_self ht]
    subst hg
    refine Or.inr ⟨q, ⟨(({ U with heap := s₂.heap, slotsUsed := s₂.slotsUsed } : State).setVm s₂.vm), Ls ++ L, c0 + mc, s0 + ms⟩,
      ⟨X.admits, X.cas, X.clock, X.frames, X.room, X.hears, X.method, X.code, (X.here.setHeapUsed s₂.heap s₂.slotsUsed).setVm hW'.alike, X.tail, State.WarmedH.trans X.warmed hW', X.limits, X.bytes, X.same.trans (hsame.setVm s.vm)⟩,
      ⟨g, mk, s₂, L, E, ce, rfl, rfl, hx, hce, hcv, hcl, rfl, hL, rfl, rfl⟩, ?_⟩
    show Steps p.tables e below _ (((({ U with heap := s₂.heap, slotsUsed := s₂.slotsUsed } : State).setVm s₂.vm).setTop g).pushFrame (.throwing q))
    rw [← hs₂]
    exact hsteps
end
variable {p : Program} {l : Launch} {e : Env} {R : Room} {s : State} {m : MethodId} {args : Array Value} {below : List Frame} {meth : Method} {c : Code} {T : State} {H : Heap} {locs : List Loc} {cells slots : Nat}
theorem vx_callVX (X : Stand p l e R s m args below meth c T locs cells slots) (hexec : p.tables.exec = Jvm.exec) {own C : String} {index : Nat} {y : MethodName} {bytes : ByteArray} {maxL : Nat} {ret : Option FieldType} {hh : List (Nat × Nat × Nat × Nat)}
    (hown : s.vm.findClass own = some m.cls) (hlink : (Cond.methodLink own index y).before args s = true) (hinst : (Cond.instanceMethod y).before args s = true) (hsel : (Cond.selects C y y).before args s = true)
    (hcode : (Cond.codeWith y bytes maxL ret hh).before args s = true) (hy : y.cls ≠ "java/lang/invoke/MethodHandle" ∧ y.cls ≠ "java/lang/invoke/VarHandle")
    {W9 : Nat} {Pre : Pt → Array Value → Prop} {Post : Pt → Array Value → Option Value → Pt → Prop} {PostX : Pt → Array Value → Addr → Pt → Prop} (hK : vx_Back l R p e below s args y 3 W9 Pre Post PostX)
    {b : Addr} {cellB : Cell} (hcell : T.heap[b]? = some cellB) (hobj : cellB.vm.isStatics = false) (hcls : s.vm.findClass C = some cellB.cls)
    {g : JFrame} (hg : g.method = m) (hsize : g.locals.size = c.maxLocals) {argsL rest : List Value} (hlen : ∀ sig, parseMethodDescriptor y.desc = some sig → argsL.length = sig.parameters.length)
    (hstack : g.stack = argsL.reverse ++ .ref b :: rest) (hW : 2 * g.monitorRoom + (rest.map fun v => v.category).sum ≤ W9) (hdg : decode c.code g.pc = .ok (.invokevirtual index, 3))
    (hpre : ∀ vm₁, s.WarmedH vm₁ → Pre ⟨T.setVm vm₁, locs, cells, slots⟩ (Value.ref b :: argsL).toArray) :
    (∃ (v : Option Value) (vm₁ : Vm) (B : Pt), s.WarmedH vm₁ ∧ Stand p l e R s m args below meth c B.U B.locs B.cells B.slots ∧ Post ⟨T.setVm vm₁, locs, cells, slots⟩ (Value.ref b :: argsL).toArray v B ∧
      ∀ target, Steps p.tables e below (B.U.setTop { g with pc := g.pc + 3, stack := v.toList ++ rest }) target → Steps p.tables e below (T.setTop g) target) ∨
    (∃ (q : Addr) (vm₁ : Vm) (B : Pt), s.WarmedH vm₁ ∧ Stand p l e R s m args below meth c B.U B.locs B.cells B.slots ∧ PostX ⟨T.setVm vm₁, locs, cells, slots⟩ (Value.ref b :: argsL).toArray q B ∧
      Steps p.tables e below (T.setTop g) ((B.U.setTop { g with stack := rest }).pushFrame (.throwing q))) := by
  obtain ⟨mk, methM, hnamed, hmethM, hstM, habM⟩ := Cond.instanceMethod_spec hinst
  obtain ⟨m8, methM', cM, hn8, hmethM', -, -, -, -, -, -, hsigM⟩ := Cond.codeWith_spec hcode
  cases Option.some.inj (hn8.symm.trans hnamed)
  cases hmethM.symm.trans hmethM'
  obtain ⟨c2, r2, m2, q1, q2, q3, q4, kP, hkP, hkPi⟩ := Cond.selects_spec hsel
  cases hcls.symm.trans q1
  cases (State.methodFound?_of_named hnamed hy).symm.trans q2
  cases hnamed.symm.trans q3
  have hselP : selectMethod e.platform s.vm cellB.cls mk = .method mk := by rw [Launch.admits_selectMethod X.admits]; exact q4
  obtain ⟨vm₁, X₁, hstep₁⟩ := X.invokevirtual hexec hown hlink hnamed hmethM hstM hkP hkPi hy (a := b) (cell := cellB) hcell
    (fun z h => by rw [h] at hobj; cases hobj) hselP hmethM habM hkP hkPi (g := g) hg (argsL := argsL) (rest := rest) (hlen _ hsigM) hstack hdg
  rcases hK m meth c ⟨T.setVm vm₁, locs, cells, slots⟩ { g with stack := rest } (.invokevirtual index) mk (Value.ref b :: argsL).toArray X₁ hg hsize hdg hW (X₁.named hnamed) (hpre vm₁ X₁.warmed) with ⟨v, B, X', hpost, hsteps⟩ | ⟨q, B, X', hpost, hsteps⟩
  · exact Or.inl ⟨v, vm₁, B, X₁.warmed, X', hpost, fun target h => hstep₁ _ fun acts => by rw [doInvoke_state]; exact hsteps.trans h⟩
  · exact Or.inr ⟨q, vm₁, B, X₁.warmed, X', hpost, hstep₁ _ fun acts => by rw [doInvoke_state]; exact hsteps⟩
theorem vx_callSX (X : Stand p l e R s m args below meth c T locs cells slots) (hexec : p.tables.exec = Jvm.exec) {own : String} {index : Nat} {y : MethodName} {bytes : ByteArray} {maxL : Nat} {ret : Option FieldType} {hh : List (Nat × Nat × Nat × Nat)}
    (hown : s.vm.findClass own = some m.cls) (hlink : (Cond.methodLink own index y).before args s = true) (hstat : (Cond.static y).before args s = true) (hinit : (Cond.initialized y.cls).before args s = true)
    (hcode : (Cond.codeWith y bytes maxL ret hh).before args s = true) (hy : y.cls ≠ "java/lang/invoke/MethodHandle" ∧ y.cls ≠ "java/lang/invoke/VarHandle")
    {W9 : Nat} {Pre : Pt → Array Value → Prop} {Post : Pt → Array Value → Option Value → Pt → Prop} {PostX : Pt → Array Value → Addr → Pt → Prop} (hK : vx_Back l R p e below s args y 3 W9 Pre Post PostX)
    {g : JFrame} (hg : g.method = m) (hsize : g.locals.size = c.maxLocals) {argsL rest : List Value} (hlen : ∀ sig, parseMethodDescriptor y.desc = some sig → argsL.length = sig.parameters.length)
    (hstack : g.stack = argsL.reverse ++ rest) (hW : 2 * g.monitorRoom + (rest.map fun v => v.category).sum ≤ W9) (hdg : decode c.code g.pc = .ok (.invokestatic index, 3))
    (hpre : ∀ vm₁, s.WarmedH vm₁ → Pre ⟨T.setVm vm₁, locs, cells, slots⟩ argsL.toArray) :
    (∃ (v : Option Value) (vm₁ : Vm) (B : Pt), s.WarmedH vm₁ ∧ Stand p l e R s m args below meth c B.U B.locs B.cells B.slots ∧ Post ⟨T.setVm vm₁, locs, cells, slots⟩ argsL.toArray v B ∧
      ∀ target, Steps p.tables e below (B.U.setTop { g with pc := g.pc + 3, stack := v.toList ++ rest }) target → Steps p.tables e below (T.setTop g) target) ∨
    (∃ (q : Addr) (vm₁ : Vm) (B : Pt), s.WarmedH vm₁ ∧ Stand p l e R s m args below meth c B.U B.locs B.cells B.slots ∧ PostX ⟨T.setVm vm₁, locs, cells, slots⟩ argsL.toArray q B ∧
      Steps p.tables e below (T.setTop g) ((B.U.setTop { g with stack := rest }).pushFrame (.throwing q))) := by
  obtain ⟨mk, methM, cM, hnamed, hmethM, -, -, -, -, -, -, hsigM⟩ := Cond.codeWith_spec hcode
  have hstatic : methM.isStatic = true := Cond.static_spec hnamed hmethM hstat
  obtain ⟨kP, hkP, -⟩ := className_of_methodNamed hnamed
  have hinitP : kP.init = .initialized := Cond.initialized_spec (findClass_of_methodNamed hnamed) hkP hinit
  obtain ⟨vm₁, X₁, hstep₁⟩ := X.invokestatic hexec hown hlink hnamed hmethM hstatic hkP hinitP hy (g := g) hg (argsL := argsL) (rest := rest) (hlen _ hsigM) hstack hdg
  rcases hK m meth c ⟨T.setVm vm₁, locs, cells, slots⟩ { g with stack := rest } (.invokestatic index) mk argsL.toArray X₁ hg hsize hdg hW (X₁.named hnamed) (hpre vm₁ X₁.warmed) with ⟨v, B, X', hpost, hsteps⟩ | ⟨q, B, X', hpost, hsteps⟩
  · exact Or.inl ⟨v, vm₁, B, X₁.warmed, X', hpost, fun target h => hstep₁ _ fun acts => by rw [doInvoke_state]; exact hsteps.trans h⟩
  · exact Or.inr ⟨q, vm₁, B, X₁.warmed, X', hpost, hstep₁ _ fun acts => by rw [doInvoke_state]; exact hsteps⟩
theorem vx_callVW (X : Stand p l e R s m args below meth c T locs cells slots) (hexec : p.tables.exec = Jvm.exec) {own C : String} {index : Nat} {y : MethodName} {bytes : ByteArray} {maxL : Nat} {ret : Option FieldType} {hh : List (Nat × Nat × Nat × Nat)}
    (hown : s.vm.findClass own = some m.cls) (hlink : (Cond.methodLink own index y).before args s = true) (hinst : (Cond.instanceMethod y).before args s = true) (hsel : (Cond.selects C y y).before args s = true)
    (hcode : (Cond.codeWith y bytes maxL ret hh).before args s = true) (hy : y.cls ≠ "java/lang/invoke/MethodHandle" ∧ y.cls ≠ "java/lang/invoke/VarHandle")
    {W9 : Nat} {Pre : Pt → Array Value → Prop} {Post : Pt → Array Value → Option Value → Pt → Prop} (hK : Back l R p e below s args y 3 W9 Pre Post)
    {b : Addr} {cellB : Cell} (hcell : T.heap[b]? = some cellB) (hobj : cellB.vm.isStatics = false) (hcls : s.vm.findClass C = some cellB.cls)
    {g : JFrame} (hg : g.method = m) (hsize : g.locals.size = c.maxLocals) {argsL rest : List Value} (hlen : ∀ sig, parseMethodDescriptor y.desc = some sig → argsL.length = sig.parameters.length)
    (hstack : g.stack = argsL.reverse ++ .ref b :: rest) (hW : 2 * g.monitorRoom + (rest.map fun v => v.category).sum ≤ W9) (hdg : decode c.code g.pc = .ok (.invokevirtual index, 3))
    (hpre : ∀ vm₁, s.WarmedH vm₁ → Pre ⟨T.setVm vm₁, locs, cells, slots⟩ (Value.ref b :: argsL).toArray) :
    ∃ (v : Option Value) (vm₁ : Vm) (B : Pt), s.WarmedH vm₁ ∧ Stand p l e R s m args below meth c B.U B.locs B.cells B.slots ∧ Post ⟨T.setVm vm₁, locs, cells, slots⟩ (Value.ref b :: argsL).toArray v B ∧
      ∀ target, Steps p.tables e below (B.U.setTop { g with pc := g.pc + 3, stack := v.toList ++ rest }) target → Steps p.tables e below (T.setTop g) target := by
  obtain ⟨mk, methM, hnamed, hmethM, hstM, habM⟩ := Cond.instanceMethod_spec hinst
  obtain ⟨m8, methM', cM, hn8, hmethM', -, -, -, -, -, -, hsigM⟩ := Cond.codeWith_spec hcode
  cases Option.some.inj (hn8.symm.trans hnamed)
  cases hmethM.symm.trans hmethM'
  obtain ⟨c2, r2, m2, q1, q2, q3, q4, kP, hkP, hkPi⟩ := Cond.selects_spec hsel
  cases hcls.symm.trans q1
  cases (State.methodFound?_of_named hnamed hy).symm.trans q2
  cases hnamed.symm.trans q3
  have hselP : selectMethod e.platform s.vm cellB.cls mk = .method mk := by rw [Launch.admits_selectMethod X.admits]; exact q4
  obtain ⟨vm₁, X₁, hstep₁⟩ := X.invokevirtual hexec hown hlink hnamed hmethM hstM hkP hkPi hy (a := b) (cell := cellB) hcell
    (fun z h => by rw [h] at hobj; cases hobj) hselP hmethM habM hkP hkPi (g := g) hg (argsL := argsL) (rest := rest) (hlen _ hsigM) hstack hdg
  obtain ⟨v, B, X', hpost, hsteps⟩ := hK m meth c ⟨T.setVm vm₁, locs, cells, slots⟩ { g with stack := rest } (.invokevirtual index) mk (Value.ref b :: argsL).toArray X₁ hg hsize hdg hW (X₁.named hnamed) (hpre vm₁ X₁.warmed)
  exact ⟨v, vm₁, B, X₁.warmed, X', hpost, fun target h => hstep₁ _ fun acts => by rw [doInvoke_state]; exact hsteps.trans h⟩
abbrev vx_CVW (R : Room) (s : State) (args : Array Value) (own C : String) (index : Nat) (y : MethodName) (bytes : ByteArray) (maxL : Nat) (ret : Option FieldType) (hh : List (Nat × Nat × Nat × Nat)) (ws : List Cond) (rm : Room) (mc ms n : Nat) : Prop :=
  (rm.cells = mc ∧ rm.slots = ms ∧ rm.frames + 1 ≤ R.frames ∧ 8 + (maxL + 11) + rm.locals ≤ R.locals ∧ (∀ w ∈ ws, ∀ (a' : Array Value) (U : State), s.WarmedH U.vm → w.before a' U = true) ∧ Cond.codeWith y bytes maxL ret hh ∈ ws) ∧
  (Cond.codeWith y bytes maxL ret hh).before args s = true ∧ (Cond.initialized y.cls).before args s = true ∧ (y.cls ≠ "java/lang/invoke/MethodHandle" ∧ y.cls ≠ "java/lang/invoke/VarHandle") ∧
  (∀ sig, parseMethodDescriptor y.desc = some sig → n = sig.parameters.length) ∧ (Cond.methodLink own index y).before args s = true ∧ (Cond.instanceMethod y).before args s = true ∧ (Cond.selects C y y).before args s = true
theorem vx_cwVW {own C : String} {index maxL mc ms : Nat} {y : MethodName} {bytes : ByteArray} {ret : Option FieldType} {hh : List (Nat × Nat × Nat × Nat)} {Ts ws ws' : List Cond} {rm : Room} (n : Nat) (ht : ∀ w ∈ Ts, w.before args s = true) (hT : GoodIn Ts (wsV own index C y ws)) (hw : ws = Cond.codeWith y bytes maxL ret hh :: ws') (hrc : rm.cells = mc) (hrs : rm.slots = ms)
    (hd : y.cls = C ∧ y.cls ≠ "java/lang/invoke/MethodHandle" ∧ y.cls ≠ "java/lang/invoke/VarHandle" ∧ (parseMethodDescriptor y.desc).map (fun d => d.parameters.length) = some n) (hR : rm.frames + 1 ≤ R.frames ∧ 8 + (maxL + 11) + rm.locals ≤ R.locals) :
    vx_CVW R s args own C index y bytes maxL ret hh ws rm mc ms n := by
  obtain ⟨hC, hd⟩ := hd
  subst hC
  have ok : ∀ w ∈ wsV own index y.cls y ws, w.before args s = true := fun w h => ht w (hT w h).1
  have hG : GoodIn Ts ws := fun w h => hT w (by unfold wsV; exact List.mem_append_right _ h)
  have hc : Cond.codeWith y bytes maxL ret hh ∈ ws := by rw [hw]; exact List.mem_cons_self
  refine ⟨⟨hrc, hrs, hR.1, hR.2, pay_in ht hG, hc⟩, ht _ (hG _ hc).1, ok _ (by simp [wsV]), ⟨hd.1, hd.2.1⟩, fun sig h => ?_, ok _ (by simp [wsV]), ok _ (by simp [wsV]), ok _ (by simp [wsV])⟩
  have h2 := hd.2.2
  rw [h] at h2
  exact (Option.some.inj h2).symm
theorem vx_runVW {y : MethodName} {bytes cc : ByteArray} {maxL nL mc ms n index : Nat} {ret : Option FieldType} {hh : List (Nat × Nat × Nat × Nat)} {ws : List Cond} {rm : Room} {Pc : Array Value → State → Prop} {Qc : Array Value → State → Outcome → State → Prop} {free : Addr → Prop} {Ts : List Cond} {own C : String} {b : Addr} {As rest : List Value} {g : JFrame}
    (S : CallFix p m c cc nL s args Ts own) (hM : Met l y ws rm Pc Qc mc ms free) (cw : vx_CVW R s args own C index y bytes maxL ret hh ws rm mc ms n) (hp : PreV s H C b Pc As)
    (hg : g.method = m) (hn : As.length = n) (hsize : g.locals.size = nL) (hstack : g.stack = As.reverse ++ .ref b :: rest) (hW : 2 * g.monitorRoom + (rest.map fun v => v.category).sum ≤ 8) (hdg : decode cc g.pc = .ok (.invokevirtual index, 3)) (hf : cells + mc ≤ R.cells ∧ slots + ms ≤ R.slots) :
    va_Run p l e R s m args below meth c H locs cells slots mc ms g rest (Qc (Value.ref b :: As).toArray) free := by
  obtain ⟨⟨hrc, hrs, hfr, hlo, hws, hcw⟩, hcode, hini, hy, hlen, hl, hin, hse⟩ := cw
  have hK : Back l R p e below s args y 3 8 (PreOf R mc ms Pc) (PostOf Qc mc ms free) := va_backW (hh := hh) (bytes := bytes) (maxL := maxL) (ret := ret) hM hp.1 hrc hrs hfr hlo hws hcw (fun a' U hW => word_at hW (Or.inl (by first | rfl | simp [Cond.onTables, Cond.keeps, Cond.steady])) hini)
  obtain ⟨hx, hb, hml, ho, -⟩ := S
  obtain ⟨-, ⟨cellB, hcB, hoB, hclB⟩, hPc⟩ := hp
  intro T hT X
  obtain ⟨v, vm₁, ⟨U', l2, c2, s2⟩, hW₁, X', ⟨g', mk, t, L, e1, e2, hq, h1, hL, h2, h3⟩, st⟩ := vx_callVW X hx (C := C) (hh := hh) (bytes := bytes) (maxL := maxL) (ret := ret) ho hl hin hse hcode hy hK (by rw [hT]; exact hcB) hoB hclB hg (hsize.trans hml.symm) (argsL := As) (rest := rest) (fun sig h => hn.trans (hlen sig h)) hstack hW (by rw [hb]; exact hdg)
    (fun vm₁ hW₁ => ⟨hf.1, hf.2, hPc (T.setVm vm₁) hT hW₁⟩)
  dsimp only [Pt.U, Pt.locs, Pt.cells, Pt.slots] at X' e1 e2 h1 h2 h3 st
  subst h1; subst h2; subst h3
  exact ⟨v, (T.setVm vm₁).calling g' mk (Value.ref b :: As).toArray, t, U', L, hT, X', hL, e1, e2, hq, st⟩
section
variable {y : MethodName} {bytes cc : ByteArray} {maxL nL mc ms n index : Nat} {ret : Option FieldType} {ws : List Cond} {rm : Room} {Pc : Array Value → State → Prop} {Qc : Array Value → State → Outcome → State → Prop} {XC : String → State → State → Prop} {free : Addr → Prop} {Ts : List Cond} {own C : String} {b : Addr} {As rest : List Value} {g : JFrame}
theorem vx_runVX {hh : List (Nat × Nat × Nat × Nat)} (S : CallFix p m c cc nL s args Ts own) (hM : vx_Met l y ws rm Pc Qc XC mc ms free) (cw : vx_CVW R s args own C index y bytes maxL ret hh ws rm mc ms n) (hp : PreV s H C b Pc As)
    (hg : g.method = m) (hn : As.length = n) (hsize : g.locals.size = nL) (hstack : g.stack = As.reverse ++ .ref b :: rest) (hW : 2 * g.monitorRoom + (rest.map fun v => v.category).sum ≤ 8) (hdg : decode cc g.pc = .ok (.invokevirtual index, 3)) (hf : cells + mc ≤ R.cells ∧ slots + ms ≤ R.slots) :
    vx_Run p l e R s m args below meth c H locs cells slots mc ms g rest (Qc (Value.ref b :: As).toArray) XC free := by
  obtain ⟨⟨hrc, hrs, hfr, hlo, hws, hcw⟩, hcode, hini, hy, hlen, hl, hin, hse⟩ := cw
  have hK : vx_Back l R p e below s args y 3 8 (PreOf R mc ms Pc) (PostOf Qc mc ms free) (vx_Post XC mc ms free) := vx_backW (hh := hh) (bytes := bytes) (maxL := maxL) (ret := ret) hM hp.1 hrc hrs hfr hlo hws hcw (fun a' U hW => word_at hW (Or.inl (by first | rfl | simp [Cond.onTables, Cond.keeps, Cond.steady])) hini)
  obtain ⟨hx, hb, hml, ho, -⟩ := S
  obtain ⟨-, ⟨cellB, hcB, hoB, hclB⟩, hPc⟩ := hp
  intro T hT X
  rcases vx_callVX X hx (C := C) (hh := hh) (bytes := bytes) (maxL := maxL) (ret := ret) ho hl hin hse hcode hy hK (by rw [hT]; exact hcB) hoB hclB hg (hsize.trans hml.symm) (argsL := As) (rest := rest) (fun sig h => hn.trans (hlen sig h)) hstack hW (by rw [hb]; exact hdg)
    (fun vm₁ hW₁ => ⟨hf.1, hf.2, hPc (T.setVm vm₁) hT hW₁⟩) with ⟨v, vm₁, ⟨U', l2, c2, s2⟩, hW₁, X', ⟨g', mk, t, L, e1, e2, hq, h1, hL, h2, h3⟩, st⟩ | ⟨q, vm₁, ⟨U', l2, c2, s2⟩, hW₁, X', ⟨g', mk, t, L, E, ce, e1, e2, hq, hce, hcv, hcl, h1, hL, h2, h3⟩, st⟩
  · dsimp only [Pt.U, Pt.locs, Pt.cells, Pt.slots] at X' e1 e2 h1 h2 h3 st
    subst h1; subst h2; subst h3
    exact Or.inl ⟨v, (T.setVm vm₁).calling g' mk (Value.ref b :: As).toArray, t, U', L, hT, X', hL, e1, e2, hq, st⟩
  · dsimp only [Pt.U, Pt.locs, Pt.cells, Pt.slots] at X' e1 e2 h1 h2 h3 st hcl
    subst h1; subst h2; subst h3
    exact Or.inr ⟨q, (T.setVm vm₁).calling g' mk (Value.ref b :: As).toArray, t, U', L, E, ce, hT, X', hL, e1, e2, hq, hce, hcv, vx_cls hW₁ hcl, st⟩
theorem vx_runSX {hh : List (Nat × Nat × Nat × Nat)} (S : CallFix p m c cc nL s args Ts own) (hM : vx_Met l y ws rm Pc Qc XC mc ms free) (cw : vx_CSW R s args own index y bytes maxL ret hh ws rm mc ms n) (hp : PreS s H Pc As)
    (hg : g.method = m) (hn : As.length = n) (hsize : g.locals.size = nL) (hstack : g.stack = As.reverse ++ rest) (hW : 2 * g.monitorRoom + (rest.map fun v => v.category).sum ≤ 8) (hdg : decode cc g.pc = .ok (.invokestatic index, 3)) (hf : cells + mc ≤ R.cells ∧ slots + ms ≤ R.slots) :
    vx_Run p l e R s m args below meth c H locs cells slots mc ms g rest (Qc As.toArray) XC free := by
  obtain ⟨⟨hrc, hrs, hfr, hlo, hws, hcw⟩, hcode, hini, hy, hlen, hl, hstt⟩ := cw
  have hK : vx_Back l R p e below s args y 3 8 (PreOf R mc ms Pc) (PostOf Qc mc ms free) (vx_Post XC mc ms free) := vx_backW (hh := hh) (bytes := bytes) (maxL := maxL) (ret := ret) hM hp.1 hrc hrs hfr hlo hws hcw (fun a' U hW => word_at hW (Or.inl (by first | rfl | simp [Cond.onTables, Cond.keeps, Cond.steady])) hini)
  obtain ⟨hx, hb, hml, ho, -⟩ := S
  intro T hT X
  rcases vx_callSX X hx (hh := hh) (bytes := bytes) (maxL := maxL) (ret := ret) ho hl hstt hini hcode hy hK hg (hsize.trans hml.symm) (argsL := As) (rest := rest) (fun sig h => hn.trans (hlen sig h)) hstack hW (by rw [hb]; exact hdg)
    (fun vm₁ hW₁ => ⟨hf.1, hf.2, hp.2 (T.setVm vm₁) hT hW₁⟩) with ⟨v, vm₁, ⟨U', l2, c2, s2⟩, hW₁, X', ⟨g', mk, t, L, e1, e2, hq, h1, hL, h2, h3⟩, st⟩ | ⟨q, vm₁, ⟨U', l2, c2, s2⟩, hW₁, X', ⟨g', mk, t, L, E, ce, e1, e2, hq, hce, hcv, hcl, h1, hL, h2, h3⟩, st⟩
  · dsimp only [Pt.U, Pt.locs, Pt.cells, Pt.slots] at X' e1 e2 h1 h2 h3 st
    subst h1; subst h2; subst h3
    exact Or.inl ⟨v, (T.setVm vm₁).calling g' mk As.toArray, t, U', L, hT, X', hL, e1, e2, hq, st⟩
  · dsimp only [Pt.U, Pt.locs, Pt.cells, Pt.slots] at X' e1 e2 h1 h2 h3 st hcl
    subst h1; subst h2; subst h3
    exact Or.inr ⟨q, (T.setVm vm₁).calling g' mk As.toArray, t, U', L, E, ce, hT, X', hL, e1, e2, hq, hce, hcv, vx_cls hW₁ hcl, st⟩
end
end VXH
theorem vx_ofWH {l : Launch} {y : MethodName} {ws ws' : List Cond} {rm : Room} {Pc : Array Value → State → Prop} {Qc : Array Value → State → Outcome → State → Prop} {XC : String → State → State → Prop} {mc ms : Nat} {free : Addr → Prop} {cc : ByteArray} {maxL : Nat} {ret : Option FieldType} {hh : List (Nat × Nat × Nat × Nat)}
    (hy : plainName y.cls = true) (hw : ws = Cond.codeWith y cc maxL ret hh :: ws')
    (body : ∀ p e s m args below meth c s₁, BodyLoose p l y (headSpec ws rm) cc maxL ret e s m args below meth c s₁ → c.maxLocals = maxL → Pc args s →
      W p l e (headSpec ws rm).room s m args below meth c s.heap [] 0 0 (vx_MQ below Qc XC args s mc ms free) (entryFrame m args maxL)) : vx_Met l y ws rm Pc Qc XC mc ms free := by
  refine MetFree.of_bodyS (code := cc) (maxLocals := maxL) (ret := ret) hy ?_ ?_
  · intro args s m h hn
    obtain ⟨m9, meth, c, hn9, h1, h2, h3, h4, -, h5, h6, -⟩ := Cond.codeWith_spec (atoms_spec (ws := ws) h _ (by rw [hw]; exact List.mem_cons_self))
    cases hn.symm.trans hn9
    exact ⟨meth, c, h1, h2, h3, h4, h5, h6⟩
  · intro p e s m args below meth c s₁ B hml hP _
    have hh0 : s₁.heap = s.heap := by rw [B.state]; rfl
    obtain ⟨t, a1, o, b1, b2, b3⟩ := body p e s m args below meth c s₁ B hml hP s₁ hh0 (Stand.of_body B)
    exact ⟨t, o, a1, b1, b2, b3⟩
/-! ===== END ===== -/
end
section
/-! ===== BEGIN printed: names, fields, word lists, decode rows ===== -/
def RX0 : String := "TripleWays$Advice"
def TX0 : u_T := fun k => match k with
  | 0 => ("TripleWays$Advice", "costs", "[I", true)
  | 1 => ("TripleWays$Advice", "covers", "[I", true)
  | 2 => ("TripleWays$Advice", "questionCount", "I", false)
  | 3 => ("TripleWays$Advice", "fullWalk", "I", false)
  | 4 => ("TripleWays$Advice", "kept", "I", false)
  | _ => ("TripleWays$Advice", "upkeep", "I", false)
def tyX0 : Nat → FieldType := fun k => match k with
  | 0 => .array .int
  | 1 => .array .int
  | 2 => .int
  | 3 => .int
  | 4 => .int
  | _ => .int
abbrev wsX00 : List Cond := u_ws RX0 TX0 6
theorem nmX0 : ∀ a, a < 6 → ∀ b, b < 6 → a ≠ b → (TX0 a).2.1 ≠ (TX0 b).2.1 := by decide +kernel
theorem tyX0_ok : ∀ k, k < 6 → parseFieldDescriptor (TX0 k).2.2.1 = some (tyX0 k) := by decide +kernel
abbrev cX0_init : ByteArray := prog_2_method_1_code
def yX0_init : MethodName := ⟨RX0, "<init>", "()V"⟩
abbrev cX0_learn : ByteArray := prog_2_method_2_code
def yX0_learn : MethodName := ⟨RX0, "learn", "(LTripleWays$State;)V"⟩
abbrev cX0_costWith : ByteArray := prog_2_method_3_code
def yX0_costWith : MethodName := ⟨RX0, "costWith", "(I)I"⟩
abbrev cX0_costAt : ByteArray := prog_2_method_4_code
def yX0_costAt : MethodName := ⟨RX0, "costAt", "(II)I"⟩
abbrev cX0_worth : ByteArray := prog_2_method_5_code
def yX0_worth : MethodName := ⟨RX0, "worth", "(I)I"⟩
abbrev cX0_orderToBuild : ByteArray := prog_2_method_6_code
def yX0_orderToBuild : MethodName := ⟨RX0, "orderToBuild", "()I"⟩
abbrev cX0_orderToDrop : ByteArray := prog_2_method_7_code
def yX0_orderToDrop : MethodName := ⟨RX0, "orderToDrop", "()I"⟩
abbrev cX0_follow : ByteArray := prog_2_method_8_code
def yX0_follow : MethodName := ⟨RX0, "follow", "(LTripleWays$State;)I"⟩
abbrev cX0_smallestCover : ByteArray := prog_2_method_9_code
def yX0_smallestCover : MethodName := ⟨RX0, "smallestCover", "()I"⟩
abbrev cX0_coversAll : ByteArray := prog_2_method_10_code
def yX0_coversAll : MethodName := ⟨RX0, "coversAll", "(I)Z"⟩
abbrev cX0_cheapestSet : ByteArray := prog_2_method_11_code
def yX0_cheapestSet : MethodName := ⟨RX0, "cheapestSet", "()I"⟩
def RX1 : String := "TripleWays$History"
def TX1 : u_T := fun k => match k with
  | 0 => ("TripleWays$History", "states", "[LTripleWays$State;", true)
  | 1 => ("TripleWays$History", "oldest", "I", false)
  | _ => ("TripleWays$History", "size", "I", false)
def tyX1 : Nat → FieldType := fun k => match k with
  | 0 => .array (.object "TripleWays$State")
  | 1 => .int
  | _ => .int
abbrev wsX10 : List Cond := u_ws RX1 TX1 3
theorem nmX1 : ∀ a, a < 3 → ∀ b, b < 3 → a ≠ b → (TX1 a).2.1 ≠ (TX1 b).2.1 := by decide +kernel
theorem tyX1_ok : ∀ k, k < 3 → parseFieldDescriptor (TX1 k).2.2.1 = some (tyX1 k) := by decide +kernel
abbrev cX1_init : ByteArray := prog_3_method_1_code
def yX1_init : MethodName := ⟨RX1, "<init>", "()V"⟩
abbrev cX1_push : ByteArray := prog_3_method_2_code
def yX1_push : MethodName := ⟨RX1, "push", "(LTripleWays$State;)V"⟩
abbrev cX1_pop : ByteArray := prog_3_method_3_code
def yX1_pop : MethodName := ⟨RX1, "pop", "(LTripleWays$State;)I"⟩
abbrev cX1_stateAt : ByteArray := prog_3_method_5_code
def yX1_stateAt : MethodName := ⟨RX1, "stateAt", "(I)LTripleWays$State;"⟩
def RX2 : String := "TripleWays$Numbers"
def TX2 : u_T := fun k => match k with
  | _ => ("", "", "", false)
def tyX2 : Nat → FieldType := fun k => match k with
  | _ => .int
abbrev wsX20 : List Cond := u_ws RX2 TX2 0
theorem nmX2 : ∀ a, a < 0 → ∀ b, b < 0 → a ≠ b → (TX2 a).2.1 ≠ (TX2 b).2.1 := by decide +kernel
theorem tyX2_ok : ∀ k, k < 0 → parseFieldDescriptor (TX2 k).2.2.1 = some (tyX2 k) := by decide +kernel
abbrev cX2_componentAt : ByteArray := prog_4_method_2_code
def yX2_componentAt : MethodName := ⟨RX2, "componentAt", "(II)I"⟩
abbrev cX2_tripleDigit : ByteArray := prog_4_method_3_code
def yX2_tripleDigit : MethodName := ⟨RX2, "tripleDigit", "(II)I"⟩
abbrev cX2_questionDigit : ByteArray := prog_4_method_4_code
def yX2_questionDigit : MethodName := ⟨RX2, "questionDigit", "(II)I"⟩
abbrev cX2_rankOf : ByteArray := prog_4_method_6_code
def yX2_rankOf : MethodName := ⟨RX2, "rankOf", "(II)I"⟩
abbrev cX2_reachOf : ByteArray := prog_4_method_7_code
def yX2_reachOf : MethodName := ⟨RX2, "reachOf", "(II)I"⟩
abbrev cX2_reachesAll : ByteArray := prog_4_method_8_code
def yX2_reachesAll : MethodName := ⟨RX2, "reachesAll", "(II)Z"⟩
abbrev cX2_reachedPart : ByteArray := prog_4_method_9_code
def yX2_reachedPart : MethodName := ⟨RX2, "reachedPart", "(III)I"⟩
abbrev cX2_countBound : ByteArray := prog_4_method_11_code
def yX2_countBound : MethodName := ⟨RX2, "countBound", "(I)I"⟩
abbrev cX2_unitOf : ByteArray := prog_4_method_12_code
def yX2_unitOf : MethodName := ⟨RX2, "unitOf", "(I)I"⟩
def RX3 : String := "TripleWays$Slot"
def TX3 : u_T := fun k => match k with
  | 0 => ("TripleWays$Slot", "state", "LTripleWays$State;", true)
  | _ => ("TripleWays$Slot", "filled", "Z", false)
def tyX3 : Nat → FieldType := fun k => match k with
  | 0 => .object "TripleWays$State"
  | _ => .boolean
abbrev wsX30 : List Cond := u_ws RX3 TX3 2
theorem nmX3 : ∀ a, a < 2 → ∀ b, b < 2 → a ≠ b → (TX3 a).2.1 ≠ (TX3 b).2.1 := by decide +kernel
theorem tyX3_ok : ∀ k, k < 2 → parseFieldDescriptor (TX3 k).2.2.1 = some (tyX3 k) := by decide +kernel
abbrev cX3_init : ByteArray := prog_5_method_1_code
def yX3_init : MethodName := ⟨RX3, "<init>", "()V"⟩
def RX4 : String := "TripleWays$State"
def TX4 : u_T := fun k => match k with
  | 0 => ("TripleWays$State", "triples", "[I", true)
  | 1 => ("TripleWays$State", "size", "I", false)
  | 2 => ("TripleWays$State", "kept", "I", false)
  | 3 => ("TripleWays$State", "upkeepCosts", "I", false)
  | 4 => ("TripleWays$State", "buildingCosts", "I", false)
  | 5 => ("TripleWays$State", "answerCosts", "I", false)
  | 6 => ("TripleWays$State", "asked", "I", false)
  | 7 => ("TripleWays$State", "questions", "[I", true)
  | 8 => ("TripleWays$State", "questionCount", "I", false)
  | _ => ("TripleWays$State", "weight", "I", false)
def tyX4 : Nat → FieldType := fun k => match k with
  | 0 => .array .int
  | 1 => .int
  | 2 => .int
  | 3 => .int
  | 4 => .int
  | 5 => .int
  | 6 => .int
  | 7 => .array .int
  | 8 => .int
  | _ => .int
abbrev wsX40 : List Cond := u_ws RX4 TX4 10
theorem nmX4 : ∀ a, a < 10 → ∀ b, b < 10 → a ≠ b → (TX4 a).2.1 ≠ (TX4 b).2.1 := by decide +kernel
theorem tyX4_ok : ∀ k, k < 10 → parseFieldDescriptor (TX4 k).2.2.1 = some (tyX4 k) := by decide +kernel
abbrev cX4_init : ByteArray := prog_6_method_1_code
def yX4_init : MethodName := ⟨RX4, "<init>", "()V"⟩
abbrev cX4_become : ByteArray := prog_6_method_2_code
def yX4_become : MethodName := ⟨RX4, "become", "(LTripleWays$State;)V"⟩
abbrev cX4_copyRow : ByteArray := prog_6_method_3_code
def yX4_copyRow : MethodName := ⟨RX4, "copyRow", "([I[II)V"⟩
abbrev cX4_look : ByteArray := prog_6_method_4_code
def yX4_look : MethodName := ⟨RX4, "look", "()I"⟩
abbrev cX4_tripleAt : ByteArray := prog_6_method_5_code
def yX4_tripleAt : MethodName := ⟨RX4, "tripleAt", "(I)I"⟩
abbrev cX4_questionAt : ByteArray := prog_6_method_6_code
def yX4_questionAt : MethodName := ⟨RX4, "questionAt", "(I)I"⟩
abbrev cX4_canPut : ByteArray := prog_6_method_7_code
def yX4_canPut : MethodName := ⟨RX4, "canPut", "(I)Z"⟩
abbrev cX4_put : ByteArray := prog_6_method_8_code
def yX4_put : MethodName := ⟨RX4, "put", "(I)I"⟩
abbrev cX4_take : ByteArray := prog_6_method_9_code
def yX4_take : MethodName := ⟨RX4, "take", "(I)I"⟩
abbrev cX4_indexOf : ByteArray := prog_6_method_10_code
def yX4_indexOf : MethodName := ⟨RX4, "indexOf", "(I)I"⟩
abbrev cX4_payUpkeep : ByteArray := prog_6_method_11_code
def yX4_payUpkeep : MethodName := ⟨RX4, "payUpkeep", "()V"⟩
abbrev cX4_keeps : ByteArray := prog_6_method_12_code
def yX4_keeps : MethodName := ⟨RX4, "keeps", "(I)Z"⟩
abbrev cX4_keep : ByteArray := prog_6_method_13_code
def yX4_keep : MethodName := ⟨RX4, "keep", "(I)I"⟩
abbrev cX4_discard : ByteArray := prog_6_method_14_code
def yX4_discard : MethodName := ⟨RX4, "discard", "(I)I"⟩
abbrev cX4_countAnswers : ByteArray := prog_6_method_15_code
def yX4_countAnswers : MethodName := ⟨RX4, "countAnswers", "(I)I"⟩
abbrev cX4_costBy : ByteArray := prog_6_method_16_code
def yX4_costBy : MethodName := ⟨RX4, "costBy", "(II)I"⟩
abbrev cX4_costNow : ByteArray := prog_6_method_17_code
def yX4_costNow : MethodName := ⟨RX4, "costNow", "(I)I"⟩
abbrev cX4_answeringOrder : ByteArray := prog_6_method_18_code
def yX4_answeringOrder : MethodName := ⟨RX4, "answeringOrder", "(I)I"⟩
abbrev cX4_answerAt : ByteArray := prog_6_method_21_code
def yX4_answerAt : MethodName := ⟨RX4, "answerAt", "(III)I"⟩
abbrev cX4_countBefore : ByteArray := prog_6_method_22_code
def yX4_countBefore : MethodName := ⟨RX4, "countBefore", "(III)I"⟩
abbrev cX4_rankAt : ByteArray := prog_6_method_23_code
def yX4_rankAt : MethodName := ⟨RX4, "rankAt", "(II)I"⟩
abbrev cX4_fits : ByteArray := prog_6_method_24_code
def yX4_fits : MethodName := ⟨RX4, "fits", "(II)Z"⟩
abbrev cX4_noteQuestion : ByteArray := prog_6_method_25_code
def yX4_noteQuestion : MethodName := ⟨RX4, "noteQuestion", "(I)I"⟩
abbrev cX4_forgetOldest : ByteArray := prog_6_method_26_code
def yX4_forgetOldest : MethodName := ⟨RX4, "forgetOldest", "()V"⟩
def RX5 : String := "TripleWays$Text"
def TX5 : u_T := fun k => match k with
  | 0 => ("TripleWays$Text", "signs", "[C", true)
  | _ => ("TripleWays$Text", "length", "I", false)
def tyX5 : Nat → FieldType := fun k => match k with
  | 0 => .array .char
  | _ => .int
abbrev wsX50 : List Cond := u_ws RX5 TX5 2
theorem nmX5 : ∀ a, a < 2 → ∀ b, b < 2 → a ≠ b → (TX5 a).2.1 ≠ (TX5 b).2.1 := by decide +kernel
theorem tyX5_ok : ∀ k, k < 2 → parseFieldDescriptor (TX5 k).2.2.1 = some (tyX5 k) := by decide +kernel
abbrev cX5_init : ByteArray := prog_7_method_1_code
def yX5_init : MethodName := ⟨RX5, "<init>", "()V"⟩
def RX6 : String := "TripleWays"
def TX6 : u_T := fun k => match k with
  | 0 => ("TripleWays", "text", "LTripleWays$Text;", true)
  | 1 => ("TripleWays", "now", "LTripleWays$State;", true)
  | 2 => ("TripleWays", "copy", "LTripleWays$State;", true)
  | 3 => ("TripleWays", "history", "LTripleWays$History;", true)
  | 4 => ("TripleWays", "advice", "LTripleWays$Advice;", true)
  | 5 => ("TripleWays", "firstSlot", "LTripleWays$Slot;", true)
  | _ => ("TripleWays", "secondSlot", "LTripleWays$Slot;", true)
def tyX6 : Nat → FieldType := fun k => match k with
  | 0 => .object "TripleWays$Text"
  | 1 => .object "TripleWays$State"
  | 2 => .object "TripleWays$State"
  | 3 => .object "TripleWays$History"
  | 4 => .object "TripleWays$Advice"
  | 5 => .object "TripleWays$Slot"
  | _ => .object "TripleWays$Slot"
abbrev wsX60 : List Cond := u_ws RX6 TX6 7
theorem nmX6 : ∀ a, a < 7 → ∀ b, b < 7 → a ≠ b → (TX6 a).2.1 ≠ (TX6 b).2.1 := by decide +kernel
theorem tyX6_ok : ∀ k, k < 7 → parseFieldDescriptor (TX6 k).2.2.1 = some (tyX6 k) := by decide +kernel
abbrev cX6_init : ByteArray := prog_1_method_1_code
def yX6_init : MethodName := ⟨RX6, "<init>", "()V"⟩
abbrev cX6_about : ByteArray := prog_1_method_6_code
def yX6_about : MethodName := ⟨RX6, "about", "(I)I"⟩
abbrev cX6_triple : ByteArray := prog_1_method_7_code
def yX6_triple : MethodName := ⟨RX6, "triple", "(II)I"⟩
abbrev cX6_remembered : ByteArray := prog_1_method_8_code
def yX6_remembered : MethodName := ⟨RX6, "remembered", "(I)I"⟩
abbrev cX6_weight : ByteArray := prog_1_method_9_code
def yX6_weight : MethodName := ⟨RX6, "weight", "()I"⟩
abbrev cX6_count : ByteArray := prog_1_method_10_code
def yX6_count : MethodName := ⟨RX6, "count", "(I)I"⟩
abbrev cX6_cost : ByteArray := prog_1_method_11_code
def yX6_cost : MethodName := ⟨RX6, "cost", "(II)I"⟩
abbrev cX6_by : ByteArray := prog_1_method_12_code
def yX6_by : MethodName := ⟨RX6, "by", "(I)I"⟩
abbrev cX6_reach : ByteArray := prog_1_method_13_code
def yX6_reach : MethodName := ⟨RX6, "reach", "(II)I"⟩
abbrev cX6_answer : ByteArray := prog_1_method_14_code
def yX6_answer : MethodName := ⟨RX6, "answer", "(II)I"⟩
abbrev cX6_add : ByteArray := prog_1_method_17_code
def yX6_add : MethodName := ⟨RX6, "add", "(I)I"⟩
abbrev cX6_remove : ByteArray := prog_1_method_19_code
def yX6_remove : MethodName := ⟨RX6, "remove", "(I)I"⟩
abbrev cX6_ask : ByteArray := prog_1_method_20_code
def yX6_ask : MethodName := ⟨RX6, "ask", "(I)I"⟩
abbrev cX6_build : ByteArray := prog_1_method_21_code
def yX6_build : MethodName := ⟨RX6, "build", "(I)I"⟩
abbrev cX6_drop : ByteArray := prog_1_method_22_code
def yX6_drop : MethodName := ⟨RX6, "drop", "(I)I"⟩
abbrev cX6_tidy : ByteArray := prog_1_method_23_code
def yX6_tidy : MethodName := ⟨RX6, "tidy", "()I"⟩
abbrev cX6_setWeight : ByteArray := prog_1_method_24_code
def yX6_setWeight : MethodName := ⟨RX6, "setWeight", "(I)I"⟩
abbrev cX6_undo : ByteArray := prog_1_method_25_code
def yX6_undo : MethodName := ⟨RX6, "undo", "()I"⟩
abbrev cX6_value : ByteArray := prog_1_method_26_code
def yX6_value : MethodName := ⟨RX6, "value", "(I)I"⟩
abbrev cX6_advised : ByteArray := prog_1_method_27_code
def yX6_advised : MethodName := ⟨RX6, "advised", "()I"⟩
abbrev cX6_spare : ByteArray := prog_1_method_28_code
def yX6_spare : MethodName := ⟨RX6, "spare", "()I"⟩
abbrev cX6_needed : ByteArray := prog_1_method_29_code
def yX6_needed : MethodName := ⟨RX6, "needed", "()I"⟩
abbrev cX6_ifKept : ByteArray := prog_1_method_30_code
def yX6_ifKept : MethodName := ⟨RX6, "ifKept", "(I)I"⟩
abbrev cX6_bestSet : ByteArray := prog_1_method_31_code
def yX6_bestSet : MethodName := ⟨RX6, "bestSet", "()I"⟩
abbrev cX6_needTriple : ByteArray := prog_1_method_36_code
def yX6_needTriple : MethodName := ⟨RX6, "needTriple", "(I)V"⟩
abbrev cX6_needQuestion : ByteArray := prog_1_method_37_code
def yX6_needQuestion : MethodName := ⟨RX6, "needQuestion", "(I)V"⟩
abbrev cX6_needPlace : ByteArray := prog_1_method_38_code
def yX6_needPlace : MethodName := ⟨RX6, "needPlace", "(I)V"⟩
abbrev cX6_needOrder : ByteArray := prog_1_method_39_code
def yX6_needOrder : MethodName := ⟨RX6, "needOrder", "(I)V"⟩
abbrev cX6_needOrderOrNone : ByteArray := prog_1_method_40_code
def yX6_needOrderOrNone : MethodName := ⟨RX6, "needOrderOrNone", "(I)V"⟩
def RX7 : String := "TripleWaysModel"
def TX7 : u_T := fun k => match k with
  | _ => ("", "", "", false)
def tyX7 : Nat → FieldType := fun k => match k with
  | _ => .int
abbrev wsX70 : List Cond := u_ws RX7 TX7 0
theorem nmX7 : ∀ a, a < 0 → ∀ b, b < 0 → a ≠ b → (TX7 a).2.1 ≠ (TX7 b).2.1 := by decide +kernel
theorem tyX7_ok : ∀ k, k < 0 → parseFieldDescriptor (TX7 k).2.2.1 = some (tyX7 k) := by decide +kernel
def RJ6 : String := "java/lang/Integer"
def TJ6 : u_T := fun k => match k with
  | _ => ("", "", "", false)
def tyJ6 : Nat → FieldType := fun k => match k with
  | _ => .int
abbrev wsJ60 : List Cond := u_ws RJ6 TJ6 0
theorem nmJ6 : ∀ a, a < 0 → ∀ b, b < 0 → a ≠ b → (TJ6 a).2.1 ≠ (TJ6 b).2.1 := by decide +kernel
theorem tyJ6_ok : ∀ k, k < 0 → parseFieldDescriptor (TJ6 k).2.2.1 = some (tyJ6 k) := by decide +kernel
abbrev cJ6_bitCount_0f7a4 : ByteArray := prog_14_method_49_code
def yJ6_bitCount_0f7a4 : MethodName := ⟨RJ6, "bitCount", "(I)I"⟩
def RJ9 : String := "java/lang/Math"
def TJ9 : u_T := fun k => match k with
  | _ => ("", "", "", false)
def tyJ9 : Nat → FieldType := fun k => match k with
  | _ => .int
abbrev wsJ90 : List Cond := u_ws RJ9 TJ9 0
theorem nmJ9 : ∀ a, a < 0 → ∀ b, b < 0 → a ≠ b → (TJ9 a).2.1 ≠ (TJ9 b).2.1 := by decide +kernel
theorem tyJ9_ok : ∀ k, k < 0 → parseFieldDescriptor (TJ9 k).2.2.1 = some (tyJ9 k) := by decide +kernel
abbrev cJ9_min_7cf53 : ByteArray := prog_15_method_69_code
def yJ9_min_7cf53 : MethodName := ⟨RJ9, "min", "(II)I"⟩
def RJ0 : String := "java/lang/String"
def TJ0 : u_T := fun k => match k with
  | _ => ("", "", "", false)
def tyJ0 : Nat → FieldType := fun k => match k with
  | _ => .int
abbrev wsJ00 : List Cond := u_ws RJ0 TJ0 0
theorem nmJ0 : ∀ a, a < 0 → ∀ b, b < 0 → a ≠ b → (TJ0 a).2.1 ≠ (TJ0 b).2.1 := by decide +kernel
theorem tyJ0_ok : ∀ k, k < 0 → parseFieldDescriptor (TJ0 k).2.2.1 = some (tyJ0 k) := by decide +kernel
def RL : String := "TripleWaysLaw"
abbrev cL_cell : ByteArray := method_2_code
def yL_cell : MethodName := ⟨RL, "cell", "([II)I"⟩
abbrev cL_low : ByteArray := method_3_code
def yL_low : MethodName := ⟨RL, "low", "(II)I"⟩
abbrev cL_digits : ByteArray := method_4_code
def yL_digits : MethodName := ⟨RL, "digits", "(I)I"⟩
abbrev cL_question : ByteArray := method_5_code
def yL_question : MethodName := ⟨RL, "question", "(I)I"⟩
abbrev cL_does : ByteArray := method_6_code
def yL_does : MethodName := ⟨RL, "does", "(LTripleWays;I)I"⟩
abbrev cL_bits : ByteArray := method_7_code
def yL_bits : MethodName := ⟨RL, "bits", "(I)I"⟩
abbrev cL_isAnsweredSo : ByteArray := method_8_code
def yL_isAnsweredSo : MethodName := ⟨RL, "isAnsweredSo", "(LTripleWays;I)Z"⟩
abbrev cL_isEnough : ByteArray := method_9_code
def yL_isEnough : MethodName := ⟨RL, "isEnough", "(LTripleWays;I)Z"⟩
abbrev cL_isAdviceSo : ByteArray := method_10_code
def yL_isAdviceSo : MethodName := ⟨RL, "isAdviceSo", "(LTripleWays;I)Z"⟩
abbrev cL_law : ByteArray := code
def yL_law : MethodName := ⟨RL, "law", "([I)Z"⟩
def wsX0_init : List Cond := .code yX0_init cX0_init 1 none :: ([.methodLink RX0 3 objectInit, .instanceMethod objectInit, .code objectInit ⟨#[0xb1]⟩ 1 none, .arrayClass .int, .fieldLink RX0 9 "TripleWays$Advice" "costs" "[I", .fieldLink RX0 15 "TripleWays$Advice" "covers" "[I"] ++ wsX00)
def wsX4_look : List Cond := .code yX4_look cX4_look 2 (some .int) :: ([.fieldLink RX4 25 "TripleWays$State" "size" "I"] ++ wsX40)
def wsX4_questionAt : List Cond := .code yX4_questionAt cX4_questionAt 2 (some .int) :: ([.fieldLink RX4 44 "TripleWays$State" "questionCount" "I", .fieldLink RX4 19 "TripleWays$State" "questions" "[I"] ++ wsX40)
def wsX2_componentAt : List Cond := .code yX2_componentAt cX2_componentAt 3 (some .int) :: ([.fieldLink RX2 9 "TripleWays$Numbers" "BY" "[I"])
def wsX2_questionDigit : List Cond := .code yX2_questionDigit cX2_questionDigit 2 (some .int) :: ([])
def wsX2_reachOf : List Cond := .code yX2_reachOf cX2_reachOf 3 (some .int) :: ([.methodLink RX2 15 yX2_componentAt, .static yX2_componentAt, .initialized RX2, .code yX2_componentAt cX2_componentAt 3 (some .int), .fieldLink RX2 9 "TripleWays$Numbers" "BY" "[I", .methodLink RX2 22 yX2_questionDigit, .static yX2_questionDigit, .code yX2_questionDigit cX2_questionDigit 2 (some .int)])
def wsX2_unitOf : List Cond := .code yX2_unitOf cX2_unitOf 1 (some .int) :: ([])
def wsX2_reachedPart : List Cond := .code yX2_reachedPart cX2_reachedPart 6 (some .int) :: ([.methodLink RX2 15 yX2_componentAt, .static yX2_componentAt, .initialized RX2, .code yX2_componentAt cX2_componentAt 3 (some .int), .fieldLink RX2 9 "TripleWays$Numbers" "BY" "[I", .methodLink RX2 32 yX2_unitOf, .static yX2_unitOf, .code yX2_unitOf cX2_unitOf 1 (some .int), .methodLink RX2 22 yX2_questionDigit, .static yX2_questionDigit, .code yX2_questionDigit cX2_questionDigit 2 (some .int)])
def wsX4_tripleAt : List Cond := .code yX4_tripleAt cX4_tripleAt 2 (some .int) :: ([.fieldLink RX4 25 "TripleWays$State" "size" "I", .fieldLink RX4 9 "TripleWays$State" "triples" "[I"] ++ wsX40)
def wsX4_fits : List Cond := .code yX4_fits cX4_fits 5 (some .boolean) :: ([])
def wsX4_countAnswers : List Cond := .code yX4_countAnswers cX4_countAnswers 4 (some .int) :: ([.fieldLink RX4 25 "TripleWays$State" "size" "I", .methodLink RX4 54 yX4_tripleAt, .instanceMethod yX4_tripleAt, .selects RX4 yX4_tripleAt yX4_tripleAt, .initialized RX4, .code yX4_tripleAt cX4_tripleAt 2 (some .int), .fieldLink RX4 9 "TripleWays$State" "triples" "[I", .methodLink RX4 66 yX4_fits, .static yX4_fits, .code yX4_fits cX4_fits 5 (some .boolean)] ++ wsX40)
def wsX4_costBy_r1 : List Cond := [Cond.fieldLink RX4 25 "TripleWays$State" "size" "I", Cond.methodLink RX4 70 yX2_reachOf, Cond.static yX2_reachOf, Cond.initialized RX2, Cond.code yX2_reachOf cX2_reachOf 3 (some .int), Cond.methodLink RX2 15 yX2_componentAt, Cond.static yX2_componentAt, Cond.code yX2_componentAt cX2_componentAt 3 (some .int), Cond.fieldLink RX2 9 "TripleWays$Numbers" "BY" "[I", Cond.methodLink RX2 22 yX2_questionDigit, Cond.static yX2_questionDigit, Cond.code yX2_questionDigit cX2_questionDigit 2 (some .int), Cond.methodLink RX4 62 yX4_look, Cond.instanceMethod yX4_look, Cond.selects RX4 yX4_look yX4_look, Cond.initialized RX4, Cond.code yX4_look cX4_look 2 (some .int), Cond.methodLink RX4 76 yX2_reachedPart, Cond.static yX2_reachedPart, Cond.code yX2_reachedPart cX2_reachedPart 6 (some .int), Cond.methodLink RX2 32 yX2_unitOf, Cond.static yX2_unitOf, Cond.code yX2_unitOf cX2_unitOf 1 (some .int), Cond.methodLink RX4 80 yX4_countAnswers]
def wsX4_costBy_r2 : List Cond := [Cond.instanceMethod yX4_countAnswers, Cond.selects RX4 yX4_countAnswers yX4_countAnswers, Cond.code yX4_countAnswers cX4_countAnswers 4 (some .int), Cond.methodLink RX4 54 yX4_tripleAt, Cond.instanceMethod yX4_tripleAt, Cond.selects RX4 yX4_tripleAt yX4_tripleAt, Cond.code yX4_tripleAt cX4_tripleAt 2 (some .int), Cond.fieldLink RX4 9 "TripleWays$State" "triples" "[I", Cond.methodLink RX4 66 yX4_fits, Cond.static yX4_fits, Cond.code yX4_fits cX4_fits 5 (some .boolean)]
def wsX4_costBy : List Cond := .code yX4_costBy cX4_costBy 4 (some .int) :: ((wsX4_costBy_r1 ++ wsX4_costBy_r2) ++ wsX40)
def wsX2_countBound : List Cond := .code yX2_countBound cX2_countBound 3 (some .int) :: ([.methodLink RX2 22 yX2_questionDigit, .static yX2_questionDigit, .initialized RX2, .code yX2_questionDigit cX2_questionDigit 2 (some .int)])
def wsX2_reachesAll : List Cond := .code yX2_reachesAll cX2_reachesAll 2 (some .boolean) :: ([.methodLink RX2 25 yX2_reachOf, .static yX2_reachOf, .initialized RX2, .code yX2_reachOf cX2_reachOf 3 (some .int), .methodLink RX2 15 yX2_componentAt, .static yX2_componentAt, .code yX2_componentAt cX2_componentAt 3 (some .int), .fieldLink RX2 9 "TripleWays$Numbers" "BY" "[I", .methodLink RX2 22 yX2_questionDigit, .static yX2_questionDigit, .code yX2_questionDigit cX2_questionDigit 2 (some .int), .methodLink RX2 28 yX2_countBound, .static yX2_countBound, .code yX2_countBound cX2_countBound 3 (some .int)])
def wsX0_learn_r1 : List Cond := [Cond.fieldLink RX0 24 "TripleWays$Advice" "questionCount" "I", Cond.fieldLink RX0 28 "TripleWays$Advice" "fullWalk" "I", Cond.fieldLink RX0 34 "TripleWays$Advice" "kept" "I", Cond.fieldLink RX0 42 "TripleWays$Advice" "upkeep" "I", Cond.fieldLink RX0 15 "TripleWays$Advice" "covers" "[I", Cond.fieldLink RX0 9 "TripleWays$Advice" "costs" "[I", Cond.methodLink RX0 38 yX4_look, Cond.instanceMethod yX4_look, Cond.selects RX4 yX4_look yX4_look, Cond.initialized RX4, Cond.code yX4_look cX4_look 2 (some .int), Cond.fieldLink RX4 25 "TripleWays$State" "size" "I", Cond.methodLink RX0 45 yX4_questionAt, Cond.instanceMethod yX4_questionAt, Cond.selects RX4 yX4_questionAt yX4_questionAt, Cond.code yX4_questionAt cX4_questionAt 2 (some .int), Cond.fieldLink RX4 44 "TripleWays$State" "questionCount" "I", Cond.fieldLink RX4 19 "TripleWays$State" "questions" "[I", Cond.methodLink RX0 49 yX4_costBy, Cond.instanceMethod yX4_costBy, Cond.selects RX4 yX4_costBy yX4_costBy, Cond.code yX4_costBy cX4_costBy 4 (some .int), Cond.methodLink RX4 70 yX2_reachOf, Cond.static yX2_reachOf]
def wsX0_learn_r2 : List Cond := [Cond.initialized RX2, Cond.code yX2_reachOf cX2_reachOf 3 (some .int), Cond.methodLink RX2 15 yX2_componentAt, Cond.static yX2_componentAt, Cond.code yX2_componentAt cX2_componentAt 3 (some .int), Cond.fieldLink RX2 9 "TripleWays$Numbers" "BY" "[I", Cond.methodLink RX2 22 yX2_questionDigit, Cond.static yX2_questionDigit, Cond.code yX2_questionDigit cX2_questionDigit 2 (some .int), Cond.methodLink RX4 62 yX4_look, Cond.methodLink RX4 76 yX2_reachedPart, Cond.static yX2_reachedPart, Cond.code yX2_reachedPart cX2_reachedPart 6 (some .int), Cond.methodLink RX2 32 yX2_unitOf, Cond.static yX2_unitOf, Cond.code yX2_unitOf cX2_unitOf 1 (some .int), Cond.methodLink RX4 80 yX4_countAnswers, Cond.instanceMethod yX4_countAnswers, Cond.selects RX4 yX4_countAnswers yX4_countAnswers, Cond.code yX4_countAnswers cX4_countAnswers 4 (some .int), Cond.methodLink RX4 54 yX4_tripleAt, Cond.instanceMethod yX4_tripleAt, Cond.selects RX4 yX4_tripleAt yX4_tripleAt, Cond.code yX4_tripleAt cX4_tripleAt 2 (some .int)]
def wsX0_learn_r3 : List Cond := [Cond.fieldLink RX4 9 "TripleWays$State" "triples" "[I", Cond.methodLink RX4 66 yX4_fits, Cond.static yX4_fits, Cond.code yX4_fits cX4_fits 5 (some .boolean), Cond.methodLink RX0 53 yX2_reachesAll, Cond.static yX2_reachesAll, Cond.code yX2_reachesAll cX2_reachesAll 2 (some .boolean), Cond.methodLink RX2 25 yX2_reachOf, Cond.methodLink RX2 28 yX2_countBound, Cond.static yX2_countBound, Cond.code yX2_countBound cX2_countBound 3 (some .int)]
def wsX0_learn : List Cond := .code yX0_learn cX0_learn 7 none :: ((wsX0_learn_r1 ++ (wsX0_learn_r2 ++ wsX0_learn_r3)) ++ wsX40 ++ wsX00)
def wsX0_costAt : List Cond := .code yX0_costAt cX0_costAt 4 (some .int) :: ([.fieldLink RX0 9 "TripleWays$Advice" "costs" "[I", .fieldLink RX0 28 "TripleWays$Advice" "fullWalk" "I"] ++ wsX00)
def wsX0_costWith : List Cond := .code yX0_costWith cX0_costWith 6 (some .int) :: ([.fieldLink RX0 24 "TripleWays$Advice" "questionCount" "I", .fieldLink RX0 28 "TripleWays$Advice" "fullWalk" "I", .methodLink RX0 62 Lib.Math.min.name, .static Lib.Math.min.name, .initialized "java/lang/Math", .code Lib.Math.min.name Lib.Math.min.code 2 (some .int), .methodLink RX0 59 yX0_costAt, .instanceMethod yX0_costAt, .selects RX0 yX0_costAt yX0_costAt, .initialized RX0, .code yX0_costAt cX0_costAt 4 (some .int), .fieldLink RX0 9 "TripleWays$Advice" "costs" "[I"] ++ wsX00)
def wsX0_worth : List Cond := .code yX0_worth cX0_worth 3 (some .int) :: ([.fieldLink RX0 34 "TripleWays$Advice" "kept" "I", .fieldLink RX0 42 "TripleWays$Advice" "upkeep" "I", .methodLink RX0 67 yX0_costWith, .instanceMethod yX0_costWith, .selects RX0 yX0_costWith yX0_costWith, .initialized RX0, .code yX0_costWith cX0_costWith 6 (some .int), .fieldLink RX0 24 "TripleWays$Advice" "questionCount" "I", .fieldLink RX0 28 "TripleWays$Advice" "fullWalk" "I", .methodLink RX0 62 Lib.Math.min.name, .static Lib.Math.min.name, .initialized "java/lang/Math", .code Lib.Math.min.name Lib.Math.min.code 2 (some .int), .methodLink RX0 59 yX0_costAt, .instanceMethod yX0_costAt, .selects RX0 yX0_costAt yX0_costAt, .code yX0_costAt cX0_costAt 4 (some .int), .fieldLink RX0 9 "TripleWays$Advice" "costs" "[I"] ++ wsX00)
def wsX0_orderToBuild : List Cond := .code yX0_orderToBuild cX0_orderToBuild 5 (some .int) :: ([.fieldLink RX0 34 "TripleWays$Advice" "kept" "I", .methodLink RX0 70 yX0_worth, .instanceMethod yX0_worth, .selects RX0 yX0_worth yX0_worth, .initialized RX0, .code yX0_worth cX0_worth 3 (some .int), .fieldLink RX0 42 "TripleWays$Advice" "upkeep" "I", .methodLink RX0 67 yX0_costWith, .instanceMethod yX0_costWith, .selects RX0 yX0_costWith yX0_costWith, .code yX0_costWith cX0_costWith 6 (some .int), .fieldLink RX0 24 "TripleWays$Advice" "questionCount" "I", .fieldLink RX0 28 "TripleWays$Advice" "fullWalk" "I", .methodLink RX0 62 Lib.Math.min.name, .static Lib.Math.min.name, .initialized "java/lang/Math", .code Lib.Math.min.name Lib.Math.min.code 2 (some .int), .methodLink RX0 59 yX0_costAt, .instanceMethod yX0_costAt, .selects RX0 yX0_costAt yX0_costAt, .code yX0_costAt cX0_costAt 4 (some .int), .fieldLink RX0 9 "TripleWays$Advice" "costs" "[I"] ++ wsX00)
def wsX0_orderToDrop : List Cond := .code yX0_orderToDrop cX0_orderToDrop 5 (some .int) :: ([.fieldLink RX0 34 "TripleWays$Advice" "kept" "I", .methodLink RX0 70 yX0_worth, .instanceMethod yX0_worth, .selects RX0 yX0_worth yX0_worth, .initialized RX0, .code yX0_worth cX0_worth 3 (some .int), .fieldLink RX0 42 "TripleWays$Advice" "upkeep" "I", .methodLink RX0 67 yX0_costWith, .instanceMethod yX0_costWith, .selects RX0 yX0_costWith yX0_costWith, .code yX0_costWith cX0_costWith 6 (some .int), .fieldLink RX0 24 "TripleWays$Advice" "questionCount" "I", .fieldLink RX0 28 "TripleWays$Advice" "fullWalk" "I", .methodLink RX0 62 Lib.Math.min.name, .static Lib.Math.min.name, .initialized "java/lang/Math", .code Lib.Math.min.name Lib.Math.min.code 2 (some .int), .methodLink RX0 59 yX0_costAt, .instanceMethod yX0_costAt, .selects RX0 yX0_costAt yX0_costAt, .code yX0_costAt cX0_costAt 4 (some .int), .fieldLink RX0 9 "TripleWays$Advice" "costs" "[I"] ++ wsX00)
def wsX4_keep : List Cond := .code yX4_keep cX4_keep 3 (some .int) :: ([.fieldLink RX4 25 "TripleWays$State" "size" "I", .fieldLink RX4 35 "TripleWays$State" "buildingCosts" "I", .fieldLink RX4 15 "TripleWays$State" "kept" "I", .methodLink RX4 62 yX4_look, .instanceMethod yX4_look, .selects RX4 yX4_look yX4_look, .initialized RX4, .code yX4_look cX4_look 2 (some .int)] ++ wsX40)
def wsJ6_bitCount_0f7a4 : List Cond := .code yJ6_bitCount_0f7a4 cJ6_bitCount_0f7a4 1 (some .int) :: ([.constant RJ6 265 (1431655765), .constant RJ6 266 (858993459), .constant RJ6 267 (252645135)])
def wsX4_discard : List Cond := .code yX4_discard cX4_discard 2 (some .int) :: ([.fieldLink RX4 15 "TripleWays$State" "kept" "I", .methodLink RX4 57 yJ6_bitCount_0f7a4, .static yJ6_bitCount_0f7a4, .initialized RJ6, .code yJ6_bitCount_0f7a4 cJ6_bitCount_0f7a4 1 (some .int), .constant RJ6 265 (1431655765), .constant RJ6 266 (858993459), .constant RJ6 267 (252645135)] ++ wsX40)
def wsX0_follow_r1 : List Cond := [Cond.methodLink RX0 73 yX0_learn, Cond.instanceMethod yX0_learn, Cond.selects RX0 yX0_learn yX0_learn, Cond.initialized RX0, Cond.code yX0_learn cX0_learn 7 none, Cond.fieldLink RX0 24 "TripleWays$Advice" "questionCount" "I", Cond.fieldLink RX0 28 "TripleWays$Advice" "fullWalk" "I", Cond.fieldLink RX0 34 "TripleWays$Advice" "kept" "I", Cond.fieldLink RX0 42 "TripleWays$Advice" "upkeep" "I", Cond.fieldLink RX0 15 "TripleWays$Advice" "covers" "[I", Cond.fieldLink RX0 9 "TripleWays$Advice" "costs" "[I", Cond.methodLink RX0 38 yX4_look, Cond.instanceMethod yX4_look, Cond.selects RX4 yX4_look yX4_look, Cond.initialized RX4, Cond.code yX4_look cX4_look 2 (some .int), Cond.fieldLink RX4 25 "TripleWays$State" "size" "I", Cond.methodLink RX0 45 yX4_questionAt, Cond.instanceMethod yX4_questionAt, Cond.selects RX4 yX4_questionAt yX4_questionAt, Cond.code yX4_questionAt cX4_questionAt 2 (some .int), Cond.fieldLink RX4 44 "TripleWays$State" "questionCount" "I", Cond.fieldLink RX4 19 "TripleWays$State" "questions" "[I", Cond.methodLink RX0 49 yX4_costBy]
def wsX0_follow_r2 : List Cond := [Cond.instanceMethod yX4_costBy, Cond.selects RX4 yX4_costBy yX4_costBy, Cond.code yX4_costBy cX4_costBy 4 (some .int), Cond.methodLink RX4 70 yX2_reachOf, Cond.static yX2_reachOf, Cond.initialized RX2, Cond.code yX2_reachOf cX2_reachOf 3 (some .int), Cond.methodLink RX2 15 yX2_componentAt, Cond.static yX2_componentAt, Cond.code yX2_componentAt cX2_componentAt 3 (some .int), Cond.fieldLink RX2 9 "TripleWays$Numbers" "BY" "[I", Cond.methodLink RX2 22 yX2_questionDigit, Cond.static yX2_questionDigit, Cond.code yX2_questionDigit cX2_questionDigit 2 (some .int), Cond.methodLink RX4 62 yX4_look, Cond.methodLink RX4 76 yX2_reachedPart, Cond.static yX2_reachedPart, Cond.code yX2_reachedPart cX2_reachedPart 6 (some .int), Cond.methodLink RX2 32 yX2_unitOf, Cond.static yX2_unitOf, Cond.code yX2_unitOf cX2_unitOf 1 (some .int), Cond.methodLink RX4 80 yX4_countAnswers, Cond.instanceMethod yX4_countAnswers, Cond.selects RX4 yX4_countAnswers yX4_countAnswers]
def wsX0_follow_r3 : List Cond := [Cond.code yX4_countAnswers cX4_countAnswers 4 (some .int), Cond.methodLink RX4 54 yX4_tripleAt, Cond.instanceMethod yX4_tripleAt, Cond.selects RX4 yX4_tripleAt yX4_tripleAt, Cond.code yX4_tripleAt cX4_tripleAt 2 (some .int), Cond.fieldLink RX4 9 "TripleWays$State" "triples" "[I", Cond.methodLink RX4 66 yX4_fits, Cond.static yX4_fits, Cond.code yX4_fits cX4_fits 5 (some .boolean), Cond.methodLink RX0 53 yX2_reachesAll, Cond.static yX2_reachesAll, Cond.code yX2_reachesAll cX2_reachesAll 2 (some .boolean), Cond.methodLink RX2 25 yX2_reachOf, Cond.methodLink RX2 28 yX2_countBound, Cond.static yX2_countBound, Cond.code yX2_countBound cX2_countBound 3 (some .int), Cond.methodLink RX0 77 yX0_orderToBuild, Cond.instanceMethod yX0_orderToBuild, Cond.selects RX0 yX0_orderToBuild yX0_orderToBuild, Cond.code yX0_orderToBuild cX0_orderToBuild 5 (some .int), Cond.methodLink RX0 70 yX0_worth, Cond.instanceMethod yX0_worth, Cond.selects RX0 yX0_worth yX0_worth, Cond.code yX0_worth cX0_worth 3 (some .int)]
def wsX0_follow_r4 : List Cond := [Cond.methodLink RX0 67 yX0_costWith, Cond.instanceMethod yX0_costWith, Cond.selects RX0 yX0_costWith yX0_costWith, Cond.code yX0_costWith cX0_costWith 6 (some .int), Cond.methodLink RX0 62 Lib.Math.min.name, Cond.static Lib.Math.min.name, Cond.initialized "java/lang/Math", Cond.code Lib.Math.min.name Lib.Math.min.code 2 (some .int), Cond.methodLink RX0 59 yX0_costAt, Cond.instanceMethod yX0_costAt, Cond.selects RX0 yX0_costAt yX0_costAt, Cond.code yX0_costAt cX0_costAt 4 (some .int), Cond.methodLink RX0 80 yX4_keep, Cond.instanceMethod yX4_keep, Cond.selects RX4 yX4_keep yX4_keep, Cond.code yX4_keep cX4_keep 3 (some .int), Cond.fieldLink RX4 35 "TripleWays$State" "buildingCosts" "I", Cond.fieldLink RX4 15 "TripleWays$State" "kept" "I", Cond.methodLink RX0 83 yX0_orderToDrop, Cond.instanceMethod yX0_orderToDrop, Cond.selects RX0 yX0_orderToDrop yX0_orderToDrop, Cond.code yX0_orderToDrop cX0_orderToDrop 5 (some .int), Cond.methodLink RX0 86 yX4_discard, Cond.instanceMethod yX4_discard]
def wsX0_follow_r5 : List Cond := [Cond.selects RX4 yX4_discard yX4_discard, Cond.code yX4_discard cX4_discard 2 (some .int), Cond.methodLink RX4 57 yJ6_bitCount_0f7a4, Cond.static yJ6_bitCount_0f7a4, Cond.initialized RJ6, Cond.code yJ6_bitCount_0f7a4 cJ6_bitCount_0f7a4 1 (some .int), Cond.constant RJ6 265 (1431655765), Cond.constant RJ6 266 (858993459), Cond.constant RJ6 267 (252645135)]
def wsX0_follow : List Cond := .code yX0_follow cX0_follow 4 (some .int) :: ((wsX0_follow_r1 ++ (wsX0_follow_r2 ++ (wsX0_follow_r3 ++ (wsX0_follow_r4 ++ wsX0_follow_r5)))) ++ wsX40 ++ wsX00)
def wsX0_coversAll : List Cond := .code yX0_coversAll cX0_coversAll 3 (some .boolean) :: ([.fieldLink RX0 24 "TripleWays$Advice" "questionCount" "I", .fieldLink RX0 15 "TripleWays$Advice" "covers" "[I"] ++ wsX00)
def wsX0_smallestCover : List Cond := .code yX0_smallestCover cX0_smallestCover 3 (some .int) :: ([.methodLink RX0 89 yJ6_bitCount_0f7a4, .static yJ6_bitCount_0f7a4, .initialized RJ6, .code yJ6_bitCount_0f7a4 cJ6_bitCount_0f7a4 1 (some .int), .constant RJ6 265 (1431655765), .constant RJ6 266 (858993459), .constant RJ6 267 (252645135), .methodLink RX0 94 yX0_coversAll, .instanceMethod yX0_coversAll, .selects RX0 yX0_coversAll yX0_coversAll, .initialized RX0, .code yX0_coversAll cX0_coversAll 3 (some .boolean), .fieldLink RX0 24 "TripleWays$Advice" "questionCount" "I", .fieldLink RX0 15 "TripleWays$Advice" "covers" "[I"] ++ wsX00)
def wsX0_cheapestSet : List Cond := .code yX0_cheapestSet cX0_cheapestSet 5 (some .int) :: ([.fieldLink RX0 42 "TripleWays$Advice" "upkeep" "I", .methodLink RX0 67 yX0_costWith, .instanceMethod yX0_costWith, .selects RX0 yX0_costWith yX0_costWith, .initialized RX0, .code yX0_costWith cX0_costWith 6 (some .int), .fieldLink RX0 24 "TripleWays$Advice" "questionCount" "I", .fieldLink RX0 28 "TripleWays$Advice" "fullWalk" "I", .methodLink RX0 62 Lib.Math.min.name, .static Lib.Math.min.name, .initialized "java/lang/Math", .code Lib.Math.min.name Lib.Math.min.code 2 (some .int), .methodLink RX0 59 yX0_costAt, .instanceMethod yX0_costAt, .selects RX0 yX0_costAt yX0_costAt, .code yX0_costAt cX0_costAt 4 (some .int), .fieldLink RX0 9 "TripleWays$Advice" "costs" "[I", .methodLink RX0 89 yJ6_bitCount_0f7a4, .static yJ6_bitCount_0f7a4, .initialized RJ6, .code yJ6_bitCount_0f7a4 cJ6_bitCount_0f7a4 1 (some .int), .constant RJ6 265 (1431655765), .constant RJ6 266 (858993459), .constant RJ6 267 (252645135)] ++ wsX00)
def wsX4_init : List Cond := .code yX4_init cX4_init 1 none :: ([.methodLink RX4 3 objectInit, .instanceMethod objectInit, .code objectInit ⟨#[0xb1]⟩ 1 none, .arrayClass .int, .fieldLink RX4 9 "TripleWays$State" "triples" "[I", .fieldLink RX4 15 "TripleWays$State" "kept" "I", .fieldLink RX4 19 "TripleWays$State" "questions" "[I", .fieldLink RX4 22 "TripleWays$State" "weight" "I"] ++ wsX40)
def wsX1_init : List Cond := .code yX1_init cX1_init 2 none :: ([.methodLink RX1 3 objectInit, .instanceMethod objectInit, .code objectInit ⟨#[0xb1]⟩ 1 none, .classLink RX1 9 RX4, .fieldLink RX1 11 "TripleWays$History" "states" "[LTripleWays$State;", .instantiable RX4 10, .initialized RX4, .instanceMethod yX4_init, .code yX4_init cX4_init 1 none, .methodLink RX4 3 objectInit, .arrayClass .int, .fieldLink RX4 9 "TripleWays$State" "triples" "[I", .fieldLink RX4 15 "TripleWays$State" "kept" "I", .fieldLink RX4 19 "TripleWays$State" "questions" "[I", .fieldLink RX4 22 "TripleWays$State" "weight" "I"] ++ wsX10 ++ wsX40)
def wsX1_stateAt : List Cond := .code yX1_stateAt cX1_stateAt 3 (some (.object "TripleWays$State")) :: ([.fieldLink RX1 22 "TripleWays$History" "oldest" "I", .fieldLink RX1 11 "TripleWays$History" "states" "[LTripleWays$State;"] ++ wsX10)
def wsX4_copyRow : List Cond := .code yX4_copyRow cX4_copyRow 4 none :: ([])
def wsX4_become : List Cond := .code yX4_become cX4_become 2 none :: ([.fieldLink RX4 25 "TripleWays$State" "size" "I", .fieldLink RX4 9 "TripleWays$State" "triples" "[I", .fieldLink RX4 15 "TripleWays$State" "kept" "I", .fieldLink RX4 32 "TripleWays$State" "upkeepCosts" "I", .fieldLink RX4 35 "TripleWays$State" "buildingCosts" "I", .fieldLink RX4 38 "TripleWays$State" "answerCosts" "I", .fieldLink RX4 41 "TripleWays$State" "asked" "I", .fieldLink RX4 44 "TripleWays$State" "questionCount" "I", .fieldLink RX4 19 "TripleWays$State" "questions" "[I", .fieldLink RX4 22 "TripleWays$State" "weight" "I", .methodLink RX4 28 yX4_copyRow, .static yX4_copyRow, .initialized RX4, .code yX4_copyRow cX4_copyRow 4 none] ++ wsX40)
def wsX1_push_r1 : List Cond := [Cond.fieldLink RX1 18 "TripleWays$History" "size" "I", Cond.fieldLink RX1 22 "TripleWays$History" "oldest" "I", Cond.methodLink RX1 25 yX1_stateAt, Cond.instanceMethod yX1_stateAt, Cond.selects RX1 yX1_stateAt yX1_stateAt, Cond.initialized RX1, Cond.code yX1_stateAt cX1_stateAt 3 (some (.object "TripleWays$State")), Cond.fieldLink RX1 11 "TripleWays$History" "states" "[LTripleWays$State;", Cond.methodLink RX1 29 yX4_become, Cond.instanceMethod yX4_become, Cond.selects RX4 yX4_become yX4_become, Cond.initialized RX4, Cond.code yX4_become cX4_become 2 none, Cond.fieldLink RX4 25 "TripleWays$State" "size" "I", Cond.fieldLink RX4 9 "TripleWays$State" "triples" "[I", Cond.fieldLink RX4 15 "TripleWays$State" "kept" "I", Cond.fieldLink RX4 32 "TripleWays$State" "upkeepCosts" "I", Cond.fieldLink RX4 35 "TripleWays$State" "buildingCosts" "I", Cond.fieldLink RX4 38 "TripleWays$State" "answerCosts" "I", Cond.fieldLink RX4 41 "TripleWays$State" "asked" "I", Cond.fieldLink RX4 44 "TripleWays$State" "questionCount" "I", Cond.fieldLink RX4 19 "TripleWays$State" "questions" "[I", Cond.fieldLink RX4 22 "TripleWays$State" "weight" "I", Cond.methodLink RX4 28 yX4_copyRow]
def wsX1_push_r2 : List Cond := [Cond.static yX4_copyRow, Cond.code yX4_copyRow cX4_copyRow 4 none]
def wsX1_push : List Cond := .code yX1_push cX1_push 3 none :: ((wsX1_push_r1 ++ wsX1_push_r2) ++ wsX10 ++ wsX40)
def wsX1_pop_r1 : List Cond := [Cond.fieldLink RX1 18 "TripleWays$History" "size" "I", Cond.methodLink RX1 25 yX1_stateAt, Cond.instanceMethod yX1_stateAt, Cond.selects RX1 yX1_stateAt yX1_stateAt, Cond.initialized RX1, Cond.code yX1_stateAt cX1_stateAt 3 (some (.object "TripleWays$State")), Cond.fieldLink RX1 22 "TripleWays$History" "oldest" "I", Cond.fieldLink RX1 11 "TripleWays$History" "states" "[LTripleWays$State;", Cond.methodLink RX1 29 yX4_become, Cond.instanceMethod yX4_become, Cond.selects RX4 yX4_become yX4_become, Cond.initialized RX4, Cond.code yX4_become cX4_become 2 none, Cond.fieldLink RX4 25 "TripleWays$State" "size" "I", Cond.fieldLink RX4 9 "TripleWays$State" "triples" "[I", Cond.fieldLink RX4 15 "TripleWays$State" "kept" "I", Cond.fieldLink RX4 32 "TripleWays$State" "upkeepCosts" "I", Cond.fieldLink RX4 35 "TripleWays$State" "buildingCosts" "I", Cond.fieldLink RX4 38 "TripleWays$State" "answerCosts" "I", Cond.fieldLink RX4 41 "TripleWays$State" "asked" "I", Cond.fieldLink RX4 44 "TripleWays$State" "questionCount" "I", Cond.fieldLink RX4 19 "TripleWays$State" "questions" "[I", Cond.fieldLink RX4 22 "TripleWays$State" "weight" "I", Cond.methodLink RX4 28 yX4_copyRow]
def wsX1_pop_r2 : List Cond := [Cond.static yX4_copyRow, Cond.code yX4_copyRow cX4_copyRow 4 none]
def wsX1_pop : List Cond := .code yX1_pop cX1_pop 2 (some .int) :: ((wsX1_pop_r1 ++ wsX1_pop_r2) ++ wsX10 ++ wsX40)
def wsX2_tripleDigit : List Cond := .code yX2_tripleDigit cX2_tripleDigit 2 (some .int) :: ([])
def wsX2_rankOf : List Cond := .code yX2_rankOf cX2_rankOf 4 (some .int) :: ([.methodLink RX2 15 yX2_componentAt, .static yX2_componentAt, .initialized RX2, .code yX2_componentAt cX2_componentAt 3 (some .int), .fieldLink RX2 9 "TripleWays$Numbers" "BY" "[I", .methodLink RX2 19 yX2_tripleDigit, .static yX2_tripleDigit, .code yX2_tripleDigit cX2_tripleDigit 2 (some .int)])
def wsX3_init : List Cond := .code yX3_init cX3_init 1 none :: ([.methodLink RX3 1 objectInit, .instanceMethod objectInit, .code objectInit ⟨#[0xb1]⟩ 1 none, .classLink RX3 7 RX4, .instantiable RX4 10, .initialized RX4, .fieldLink RX3 10 "TripleWays$Slot" "state" "LTripleWays$State;", .instanceMethod yX4_init, .code yX4_init cX4_init 1 none, .methodLink RX4 3 objectInit, .arrayClass .int, .fieldLink RX4 9 "TripleWays$State" "triples" "[I", .fieldLink RX4 15 "TripleWays$State" "kept" "I", .fieldLink RX4 19 "TripleWays$State" "questions" "[I", .fieldLink RX4 22 "TripleWays$State" "weight" "I"] ++ wsX40 ++ wsX30)
def wsX4_indexOf : List Cond := .code yX4_indexOf cX4_indexOf 3 (some .int) :: ([.fieldLink RX4 25 "TripleWays$State" "size" "I", .methodLink RX4 54 yX4_tripleAt, .instanceMethod yX4_tripleAt, .selects RX4 yX4_tripleAt yX4_tripleAt, .initialized RX4, .code yX4_tripleAt cX4_tripleAt 2 (some .int), .fieldLink RX4 9 "TripleWays$State" "triples" "[I"] ++ wsX40)
def wsX4_canPut : List Cond := .code yX4_canPut cX4_canPut 2 (some .boolean) :: ([.fieldLink RX4 25 "TripleWays$State" "size" "I", .fieldLink RX4 9 "TripleWays$State" "triples" "[I", .methodLink RX4 47 yX4_indexOf, .instanceMethod yX4_indexOf, .selects RX4 yX4_indexOf yX4_indexOf, .initialized RX4, .code yX4_indexOf cX4_indexOf 3 (some .int), .methodLink RX4 54 yX4_tripleAt, .instanceMethod yX4_tripleAt, .selects RX4 yX4_tripleAt yX4_tripleAt, .code yX4_tripleAt cX4_tripleAt 2 (some .int)] ++ wsX40)
def wsX4_payUpkeep : List Cond := .code yX4_payUpkeep cX4_payUpkeep 1 none :: ([.fieldLink RX4 32 "TripleWays$State" "upkeepCosts" "I", .fieldLink RX4 15 "TripleWays$State" "kept" "I", .methodLink RX4 57 yJ6_bitCount_0f7a4, .static yJ6_bitCount_0f7a4, .initialized RJ6, .code yJ6_bitCount_0f7a4 cJ6_bitCount_0f7a4 1 (some .int), .constant RJ6 265 (1431655765), .constant RJ6 266 (858993459), .constant RJ6 267 (252645135), .methodLink RX4 62 yX4_look, .instanceMethod yX4_look, .selects RX4 yX4_look yX4_look, .initialized RX4, .code yX4_look cX4_look 2 (some .int), .fieldLink RX4 25 "TripleWays$State" "size" "I"] ++ wsX40)
def wsX4_put_r1 : List Cond := [Cond.fieldLink RX4 25 "TripleWays$State" "size" "I", Cond.fieldLink RX4 9 "TripleWays$State" "triples" "[I", Cond.methodLink RX4 47 yX4_indexOf, Cond.instanceMethod yX4_indexOf, Cond.selects RX4 yX4_indexOf yX4_indexOf, Cond.initialized RX4, Cond.code yX4_indexOf cX4_indexOf 3 (some .int), Cond.methodLink RX4 54 yX4_tripleAt, Cond.instanceMethod yX4_tripleAt, Cond.selects RX4 yX4_tripleAt yX4_tripleAt, Cond.code yX4_tripleAt cX4_tripleAt 2 (some .int), Cond.methodLink RX4 51 yX4_payUpkeep, Cond.instanceMethod yX4_payUpkeep, Cond.selects RX4 yX4_payUpkeep yX4_payUpkeep, Cond.code yX4_payUpkeep cX4_payUpkeep 1 none, Cond.fieldLink RX4 32 "TripleWays$State" "upkeepCosts" "I", Cond.fieldLink RX4 15 "TripleWays$State" "kept" "I", Cond.methodLink RX4 57 yJ6_bitCount_0f7a4, Cond.static yJ6_bitCount_0f7a4, Cond.initialized RJ6, Cond.code yJ6_bitCount_0f7a4 cJ6_bitCount_0f7a4 1 (some .int), Cond.constant RJ6 265 (1431655765), Cond.constant RJ6 266 (858993459), Cond.constant RJ6 267 (252645135)]
def wsX4_put_r2 : List Cond := [Cond.methodLink RX4 62 yX4_look, Cond.instanceMethod yX4_look, Cond.selects RX4 yX4_look yX4_look, Cond.code yX4_look cX4_look 2 (some .int)]
def wsX4_put : List Cond := .code yX4_put cX4_put 2 (some .int) :: ((wsX4_put_r1 ++ wsX4_put_r2) ++ wsX40)
def wsX4_take_r1 : List Cond := [Cond.fieldLink RX4 25 "TripleWays$State" "size" "I", Cond.fieldLink RX4 9 "TripleWays$State" "triples" "[I", Cond.methodLink RX4 47 yX4_indexOf, Cond.instanceMethod yX4_indexOf, Cond.selects RX4 yX4_indexOf yX4_indexOf, Cond.initialized RX4, Cond.code yX4_indexOf cX4_indexOf 3 (some .int), Cond.methodLink RX4 54 yX4_tripleAt, Cond.instanceMethod yX4_tripleAt, Cond.selects RX4 yX4_tripleAt yX4_tripleAt, Cond.code yX4_tripleAt cX4_tripleAt 2 (some .int), Cond.methodLink RX4 51 yX4_payUpkeep, Cond.instanceMethod yX4_payUpkeep, Cond.selects RX4 yX4_payUpkeep yX4_payUpkeep, Cond.code yX4_payUpkeep cX4_payUpkeep 1 none, Cond.fieldLink RX4 32 "TripleWays$State" "upkeepCosts" "I", Cond.fieldLink RX4 15 "TripleWays$State" "kept" "I", Cond.methodLink RX4 57 yJ6_bitCount_0f7a4, Cond.static yJ6_bitCount_0f7a4, Cond.initialized RJ6, Cond.code yJ6_bitCount_0f7a4 cJ6_bitCount_0f7a4 1 (some .int), Cond.constant RJ6 265 (1431655765), Cond.constant RJ6 266 (858993459), Cond.constant RJ6 267 (252645135)]
def wsX4_take_r2 : List Cond := [Cond.methodLink RX4 62 yX4_look, Cond.instanceMethod yX4_look, Cond.selects RX4 yX4_look yX4_look, Cond.code yX4_look cX4_look 2 (some .int)]
def wsX4_take : List Cond := .code yX4_take cX4_take 4 (some .int) :: ((wsX4_take_r1 ++ wsX4_take_r2) ++ wsX40)
def wsX4_keeps : List Cond := .code yX4_keeps cX4_keeps 2 (some .boolean) :: ([.fieldLink RX4 15 "TripleWays$State" "kept" "I"] ++ wsX40)
def wsX4_costNow_r1 : List Cond := [Cond.fieldLink RX4 25 "TripleWays$State" "size" "I", Cond.methodLink RX4 90 Lib.Math.min.name, Cond.static Lib.Math.min.name, Cond.initialized "java/lang/Math", Cond.code Lib.Math.min.name Lib.Math.min.code 2 (some .int), Cond.methodLink RX4 83 yX4_keeps, Cond.instanceMethod yX4_keeps, Cond.selects RX4 yX4_keeps yX4_keeps, Cond.initialized RX4, Cond.code yX4_keeps cX4_keeps 2 (some .boolean), Cond.fieldLink RX4 15 "TripleWays$State" "kept" "I", Cond.methodLink RX4 87 yX4_costBy, Cond.instanceMethod yX4_costBy, Cond.selects RX4 yX4_costBy yX4_costBy, Cond.code yX4_costBy cX4_costBy 4 (some .int), Cond.methodLink RX4 70 yX2_reachOf, Cond.static yX2_reachOf, Cond.initialized RX2, Cond.code yX2_reachOf cX2_reachOf 3 (some .int), Cond.methodLink RX2 15 yX2_componentAt, Cond.static yX2_componentAt, Cond.code yX2_componentAt cX2_componentAt 3 (some .int), Cond.fieldLink RX2 9 "TripleWays$Numbers" "BY" "[I", Cond.methodLink RX2 22 yX2_questionDigit]
def wsX4_costNow_r2 : List Cond := [Cond.static yX2_questionDigit, Cond.code yX2_questionDigit cX2_questionDigit 2 (some .int), Cond.methodLink RX4 62 yX4_look, Cond.instanceMethod yX4_look, Cond.selects RX4 yX4_look yX4_look, Cond.code yX4_look cX4_look 2 (some .int), Cond.methodLink RX4 76 yX2_reachedPart, Cond.static yX2_reachedPart, Cond.code yX2_reachedPart cX2_reachedPart 6 (some .int), Cond.methodLink RX2 32 yX2_unitOf, Cond.static yX2_unitOf, Cond.code yX2_unitOf cX2_unitOf 1 (some .int), Cond.methodLink RX4 80 yX4_countAnswers, Cond.instanceMethod yX4_countAnswers, Cond.selects RX4 yX4_countAnswers yX4_countAnswers, Cond.code yX4_countAnswers cX4_countAnswers 4 (some .int), Cond.methodLink RX4 54 yX4_tripleAt, Cond.instanceMethod yX4_tripleAt, Cond.selects RX4 yX4_tripleAt yX4_tripleAt, Cond.code yX4_tripleAt cX4_tripleAt 2 (some .int), Cond.fieldLink RX4 9 "TripleWays$State" "triples" "[I", Cond.methodLink RX4 66 yX4_fits, Cond.static yX4_fits, Cond.code yX4_fits cX4_fits 5 (some .boolean)]
def wsX4_costNow : List Cond := .code yX4_costNow cX4_costNow 4 (some .int) :: ((wsX4_costNow_r1 ++ wsX4_costNow_r2) ++ wsX40)
def wsX4_answeringOrder_r1 : List Cond := [Cond.fieldLink RX4 25 "TripleWays$State" "size" "I", Cond.methodLink RX4 83 yX4_keeps, Cond.instanceMethod yX4_keeps, Cond.selects RX4 yX4_keeps yX4_keeps, Cond.initialized RX4, Cond.code yX4_keeps cX4_keeps 2 (some .boolean), Cond.fieldLink RX4 15 "TripleWays$State" "kept" "I", Cond.methodLink RX4 87 yX4_costBy, Cond.instanceMethod yX4_costBy, Cond.selects RX4 yX4_costBy yX4_costBy, Cond.code yX4_costBy cX4_costBy 4 (some .int), Cond.methodLink RX4 70 yX2_reachOf, Cond.static yX2_reachOf, Cond.initialized RX2, Cond.code yX2_reachOf cX2_reachOf 3 (some .int), Cond.methodLink RX2 15 yX2_componentAt, Cond.static yX2_componentAt, Cond.code yX2_componentAt cX2_componentAt 3 (some .int), Cond.fieldLink RX2 9 "TripleWays$Numbers" "BY" "[I", Cond.methodLink RX2 22 yX2_questionDigit, Cond.static yX2_questionDigit, Cond.code yX2_questionDigit cX2_questionDigit 2 (some .int), Cond.methodLink RX4 62 yX4_look, Cond.instanceMethod yX4_look]
def wsX4_answeringOrder_r2 : List Cond := [Cond.selects RX4 yX4_look yX4_look, Cond.code yX4_look cX4_look 2 (some .int), Cond.methodLink RX4 76 yX2_reachedPart, Cond.static yX2_reachedPart, Cond.code yX2_reachedPart cX2_reachedPart 6 (some .int), Cond.methodLink RX2 32 yX2_unitOf, Cond.static yX2_unitOf, Cond.code yX2_unitOf cX2_unitOf 1 (some .int), Cond.methodLink RX4 80 yX4_countAnswers, Cond.instanceMethod yX4_countAnswers, Cond.selects RX4 yX4_countAnswers yX4_countAnswers, Cond.code yX4_countAnswers cX4_countAnswers 4 (some .int), Cond.methodLink RX4 54 yX4_tripleAt, Cond.instanceMethod yX4_tripleAt, Cond.selects RX4 yX4_tripleAt yX4_tripleAt, Cond.code yX4_tripleAt cX4_tripleAt 2 (some .int), Cond.fieldLink RX4 9 "TripleWays$State" "triples" "[I", Cond.methodLink RX4 66 yX4_fits, Cond.static yX4_fits, Cond.code yX4_fits cX4_fits 5 (some .boolean)]
def wsX4_answeringOrder : List Cond := .code yX4_answeringOrder cX4_answeringOrder 6 (some .int) :: ((wsX4_answeringOrder_r1 ++ wsX4_answeringOrder_r2) ++ wsX40)
def wsX4_rankAt : List Cond := .code yX4_rankAt cX4_rankAt 3 (some .int) :: ([.methodLink RX4 54 yX4_tripleAt, .instanceMethod yX4_tripleAt, .selects RX4 yX4_tripleAt yX4_tripleAt, .initialized RX4, .code yX4_tripleAt cX4_tripleAt 2 (some .int), .fieldLink RX4 25 "TripleWays$State" "size" "I", .fieldLink RX4 9 "TripleWays$State" "triples" "[I", .methodLink RX4 111 yX2_rankOf, .static yX2_rankOf, .initialized RX2, .code yX2_rankOf cX2_rankOf 4 (some .int), .methodLink RX2 15 yX2_componentAt, .static yX2_componentAt, .code yX2_componentAt cX2_componentAt 3 (some .int), .fieldLink RX2 9 "TripleWays$Numbers" "BY" "[I", .methodLink RX2 19 yX2_tripleDigit, .static yX2_tripleDigit, .code yX2_tripleDigit cX2_tripleDigit 2 (some .int)] ++ wsX40)
def wsX4_countBefore_r1 : List Cond := [Cond.fieldLink RX4 25 "TripleWays$State" "size" "I", Cond.methodLink RX4 108 yX4_rankAt, Cond.instanceMethod yX4_rankAt, Cond.selects RX4 yX4_rankAt yX4_rankAt, Cond.initialized RX4, Cond.code yX4_rankAt cX4_rankAt 3 (some .int), Cond.methodLink RX4 54 yX4_tripleAt, Cond.instanceMethod yX4_tripleAt, Cond.selects RX4 yX4_tripleAt yX4_tripleAt, Cond.code yX4_tripleAt cX4_tripleAt 2 (some .int), Cond.fieldLink RX4 9 "TripleWays$State" "triples" "[I", Cond.methodLink RX4 111 yX2_rankOf, Cond.static yX2_rankOf, Cond.initialized RX2, Cond.code yX2_rankOf cX2_rankOf 4 (some .int), Cond.methodLink RX2 15 yX2_componentAt, Cond.static yX2_componentAt, Cond.code yX2_componentAt cX2_componentAt 3 (some .int), Cond.fieldLink RX2 9 "TripleWays$Numbers" "BY" "[I", Cond.methodLink RX2 19 yX2_tripleDigit, Cond.static yX2_tripleDigit, Cond.code yX2_tripleDigit cX2_tripleDigit 2 (some .int), Cond.methodLink RX4 66 yX4_fits, Cond.static yX4_fits]
def wsX4_countBefore_r2 : List Cond := [Cond.code yX4_fits cX4_fits 5 (some .boolean)]
def wsX4_countBefore : List Cond := .code yX4_countBefore cX4_countBefore 7 (some .int) :: ((wsX4_countBefore_r1 ++ wsX4_countBefore_r2) ++ wsX40)
def wsX4_answerAt_r1 : List Cond := [Cond.fieldLink RX4 25 "TripleWays$State" "size" "I", Cond.methodLink RX4 54 yX4_tripleAt, Cond.instanceMethod yX4_tripleAt, Cond.selects RX4 yX4_tripleAt yX4_tripleAt, Cond.initialized RX4, Cond.code yX4_tripleAt cX4_tripleAt 2 (some .int), Cond.fieldLink RX4 9 "TripleWays$State" "triples" "[I", Cond.methodLink RX4 66 yX4_fits, Cond.static yX4_fits, Cond.code yX4_fits cX4_fits 5 (some .boolean), Cond.methodLink RX4 105 yX4_countBefore, Cond.instanceMethod yX4_countBefore, Cond.selects RX4 yX4_countBefore yX4_countBefore, Cond.code yX4_countBefore cX4_countBefore 7 (some .int), Cond.methodLink RX4 108 yX4_rankAt, Cond.instanceMethod yX4_rankAt, Cond.selects RX4 yX4_rankAt yX4_rankAt, Cond.code yX4_rankAt cX4_rankAt 3 (some .int), Cond.methodLink RX4 111 yX2_rankOf, Cond.static yX2_rankOf, Cond.initialized RX2, Cond.code yX2_rankOf cX2_rankOf 4 (some .int), Cond.methodLink RX2 15 yX2_componentAt, Cond.static yX2_componentAt]
def wsX4_answerAt_r2 : List Cond := [Cond.code yX2_componentAt cX2_componentAt 3 (some .int), Cond.fieldLink RX2 9 "TripleWays$Numbers" "BY" "[I", Cond.methodLink RX2 19 yX2_tripleDigit, Cond.static yX2_tripleDigit, Cond.code yX2_tripleDigit cX2_tripleDigit 2 (some .int)]
def wsX4_answerAt : List Cond := .code yX4_answerAt cX4_answerAt 5 (some .int) :: ((wsX4_answerAt_r1 ++ wsX4_answerAt_r2) ++ wsX40)
def wsX4_forgetOldest : List Cond := .code yX4_forgetOldest cX4_forgetOldest 2 none :: ([.fieldLink RX4 44 "TripleWays$State" "questionCount" "I", .fieldLink RX4 19 "TripleWays$State" "questions" "[I"] ++ wsX40)
def wsX4_noteQuestion_r1 : List Cond := [Cond.fieldLink RX4 38 "TripleWays$State" "answerCosts" "I", Cond.fieldLink RX4 41 "TripleWays$State" "asked" "I", Cond.fieldLink RX4 44 "TripleWays$State" "questionCount" "I", Cond.fieldLink RX4 19 "TripleWays$State" "questions" "[I", Cond.methodLink RX4 114 yX4_costNow, Cond.instanceMethod yX4_costNow, Cond.selects RX4 yX4_costNow yX4_costNow, Cond.initialized RX4, Cond.code yX4_costNow cX4_costNow 4 (some .int), Cond.fieldLink RX4 25 "TripleWays$State" "size" "I", Cond.methodLink RX4 90 Lib.Math.min.name, Cond.static Lib.Math.min.name, Cond.initialized "java/lang/Math", Cond.code Lib.Math.min.name Lib.Math.min.code 2 (some .int), Cond.methodLink RX4 83 yX4_keeps, Cond.instanceMethod yX4_keeps, Cond.selects RX4 yX4_keeps yX4_keeps, Cond.code yX4_keeps cX4_keeps 2 (some .boolean), Cond.fieldLink RX4 15 "TripleWays$State" "kept" "I", Cond.methodLink RX4 87 yX4_costBy, Cond.instanceMethod yX4_costBy, Cond.selects RX4 yX4_costBy yX4_costBy, Cond.code yX4_costBy cX4_costBy 4 (some .int), Cond.methodLink RX4 70 yX2_reachOf]
def wsX4_noteQuestion_r2 : List Cond := [Cond.static yX2_reachOf, Cond.initialized RX2, Cond.code yX2_reachOf cX2_reachOf 3 (some .int), Cond.methodLink RX2 15 yX2_componentAt, Cond.static yX2_componentAt, Cond.code yX2_componentAt cX2_componentAt 3 (some .int), Cond.fieldLink RX2 9 "TripleWays$Numbers" "BY" "[I", Cond.methodLink RX2 22 yX2_questionDigit, Cond.static yX2_questionDigit, Cond.code yX2_questionDigit cX2_questionDigit 2 (some .int), Cond.methodLink RX4 62 yX4_look, Cond.instanceMethod yX4_look, Cond.selects RX4 yX4_look yX4_look, Cond.code yX4_look cX4_look 2 (some .int), Cond.methodLink RX4 76 yX2_reachedPart, Cond.static yX2_reachedPart, Cond.code yX2_reachedPart cX2_reachedPart 6 (some .int), Cond.methodLink RX2 32 yX2_unitOf, Cond.static yX2_unitOf, Cond.code yX2_unitOf cX2_unitOf 1 (some .int), Cond.methodLink RX4 80 yX4_countAnswers, Cond.instanceMethod yX4_countAnswers, Cond.selects RX4 yX4_countAnswers yX4_countAnswers, Cond.code yX4_countAnswers cX4_countAnswers 4 (some .int)]
def wsX4_noteQuestion_r3 : List Cond := [Cond.methodLink RX4 54 yX4_tripleAt, Cond.instanceMethod yX4_tripleAt, Cond.selects RX4 yX4_tripleAt yX4_tripleAt, Cond.code yX4_tripleAt cX4_tripleAt 2 (some .int), Cond.fieldLink RX4 9 "TripleWays$State" "triples" "[I", Cond.methodLink RX4 66 yX4_fits, Cond.static yX4_fits, Cond.code yX4_fits cX4_fits 5 (some .boolean), Cond.methodLink RX4 117 yX4_forgetOldest, Cond.instanceMethod yX4_forgetOldest, Cond.selects RX4 yX4_forgetOldest yX4_forgetOldest, Cond.code yX4_forgetOldest cX4_forgetOldest 2 none]
def wsX4_noteQuestion : List Cond := .code yX4_noteQuestion cX4_noteQuestion 2 (some .int) :: ((wsX4_noteQuestion_r1 ++ (wsX4_noteQuestion_r2 ++ wsX4_noteQuestion_r3)) ++ wsX40)
def wsX5_init : List Cond := .code yX5_init cX5_init 1 none :: ([.methodLink RX5 3 objectInit, .instanceMethod objectInit, .code objectInit ⟨#[0xb1]⟩ 1 none, .arrayClass .char, .fieldLink RX5 9 "TripleWays$Text" "signs" "[C"] ++ wsX50)
def wsX6_init_r1 : List Cond := [Cond.methodLink RX6 1 objectInit, Cond.instanceMethod objectInit, Cond.code objectInit ⟨#[0xb1]⟩ 1 none, Cond.classLink RX6 7 RX5, Cond.instantiable RX5 2, Cond.initialized RX5, Cond.fieldLink RX6 10 "TripleWays" "text" "LTripleWays$Text;", Cond.classLink RX6 16 RX4, Cond.instantiable RX4 10, Cond.initialized RX4, Cond.fieldLink RX6 19 "TripleWays" "now" "LTripleWays$State;", Cond.fieldLink RX6 23 "TripleWays" "copy" "LTripleWays$State;", Cond.classLink RX6 26 RX1, Cond.instantiable RX1 3, Cond.initialized RX1, Cond.fieldLink RX6 29 "TripleWays" "history" "LTripleWays$History;", Cond.classLink RX6 33 RX0, Cond.instantiable RX0 6, Cond.initialized RX0, Cond.fieldLink RX6 36 "TripleWays" "advice" "LTripleWays$Advice;", Cond.classLink RX6 40 RX3, Cond.instantiable RX3 2, Cond.initialized RX3, Cond.fieldLink RX6 43 "TripleWays" "firstSlot" "LTripleWays$Slot;"]
def wsX6_init_r2 : List Cond := [Cond.fieldLink RX6 47 "TripleWays" "secondSlot" "LTripleWays$Slot;", Cond.instanceMethod yX5_init, Cond.code yX5_init cX5_init 1 none, Cond.methodLink RX5 3 objectInit, Cond.arrayClass .char, Cond.fieldLink RX5 9 "TripleWays$Text" "signs" "[C", Cond.instanceMethod yX4_init, Cond.code yX4_init cX4_init 1 none, Cond.methodLink RX4 3 objectInit, Cond.arrayClass .int, Cond.fieldLink RX4 9 "TripleWays$State" "triples" "[I", Cond.fieldLink RX4 15 "TripleWays$State" "kept" "I", Cond.fieldLink RX4 19 "TripleWays$State" "questions" "[I", Cond.fieldLink RX4 22 "TripleWays$State" "weight" "I", Cond.methodLink RX6 28 yX1_init, Cond.instanceMethod yX1_init, Cond.code yX1_init cX1_init 2 none, Cond.methodLink RX1 3 objectInit, Cond.classLink RX1 9 RX4, Cond.fieldLink RX1 11 "TripleWays$History" "states" "[LTripleWays$State;", Cond.instanceMethod yX0_init, Cond.code yX0_init cX0_init 1 none, Cond.methodLink RX0 3 objectInit, Cond.fieldLink RX0 9 "TripleWays$Advice" "costs" "[I"]
def wsX6_init_r3 : List Cond := [Cond.fieldLink RX0 15 "TripleWays$Advice" "covers" "[I", Cond.instanceMethod yX3_init, Cond.code yX3_init cX3_init 1 none, Cond.methodLink RX3 1 objectInit, Cond.classLink RX3 7 RX4, Cond.fieldLink RX3 10 "TripleWays$Slot" "state" "LTripleWays$State;"]
def wsX6_init : List Cond := .code yX6_init cX6_init 1 none :: ((wsX6_init_r1 ++ (wsX6_init_r2 ++ wsX6_init_r3)) ++ wsX50 ++ wsX60 ++ wsX40 ++ wsX10 ++ wsX00 ++ wsX30)
def wsX6_about : List Cond := .code yX6_about cX6_about 2 (some .int) :: ([.classLink RX6 50 "java/lang/IllegalArgumentException", .initialized "java/lang/IllegalArgumentException", .fieldLink RX6 19 "TripleWays" "now" "LTripleWays$State;", .methodLink RX6 107 yX4_look, .instanceMethod yX4_look, .selects RX4 yX4_look yX4_look, .initialized RX4, .code yX4_look cX4_look 2 (some .int), .fieldLink RX4 25 "TripleWays$State" "size" "I"] ++ wsX60 ++ wsX40 ++ (vx_atS RX6 54 "java/lang/IllegalArgumentException" ["java/lang/RuntimeException", "java/lang/Exception"]).filter goodWord)
def wsX6_needOrder : List Cond := .code yX6_needOrder cX6_needOrder 1 none :: ([.classLink RX6 310 "java/lang/IndexOutOfBoundsException", .initialized "java/lang/IndexOutOfBoundsException"] ++ (vx_atS RX6 314 "java/lang/IndexOutOfBoundsException" ["java/lang/RuntimeException", "java/lang/Exception"]).filter goodWord)
def wsX6_needOrderOrNone : List Cond := .code yX6_needOrderOrNone cX6_needOrderOrNone 1 none :: ([.methodLink RX6 145 yX6_needOrder, .static yX6_needOrder, .initialized RX6, .code yX6_needOrder cX6_needOrder 1 none, .classLink RX6 310 "java/lang/IndexOutOfBoundsException", .initialized "java/lang/IndexOutOfBoundsException"] ++ (vx_atS RX6 314 "java/lang/IndexOutOfBoundsException" ["java/lang/RuntimeException", "java/lang/Exception"]).filter goodWord)
def wsX6_needPlace : List Cond := .code yX6_needPlace cX6_needPlace 1 none :: ([.classLink RX6 50 "java/lang/IllegalArgumentException", .initialized "java/lang/IllegalArgumentException"] ++ (vx_atS RX6 54 "java/lang/IllegalArgumentException" ["java/lang/RuntimeException", "java/lang/Exception"]).filter goodWord)
def wsX6_triple_r1 : List Cond := [Cond.fieldLink RX6 19 "TripleWays" "now" "LTripleWays$State;", Cond.methodLink RX6 112 yX6_needOrderOrNone, Cond.static yX6_needOrderOrNone, Cond.initialized RX6, Cond.code yX6_needOrderOrNone cX6_needOrderOrNone 1 none, Cond.methodLink RX6 145 yX6_needOrder, Cond.static yX6_needOrder, Cond.code yX6_needOrder cX6_needOrder 1 none, Cond.classLink RX6 310 "java/lang/IndexOutOfBoundsException", Cond.initialized "java/lang/IndexOutOfBoundsException", Cond.methodLink RX6 116 yX6_needPlace, Cond.static yX6_needPlace, Cond.code yX6_needPlace cX6_needPlace 1 none, Cond.classLink RX6 50 "java/lang/IllegalArgumentException", Cond.initialized "java/lang/IllegalArgumentException", Cond.methodLink RX6 119 yX4_answerAt, Cond.instanceMethod yX4_answerAt, Cond.selects RX4 yX4_answerAt yX4_answerAt, Cond.initialized RX4, Cond.code yX4_answerAt cX4_answerAt 5 (some .int), Cond.fieldLink RX4 25 "TripleWays$State" "size" "I", Cond.methodLink RX4 54 yX4_tripleAt, Cond.instanceMethod yX4_tripleAt, Cond.selects RX4 yX4_tripleAt yX4_tripleAt]
def wsX6_triple_r2 : List Cond := [Cond.code yX4_tripleAt cX4_tripleAt 2 (some .int), Cond.fieldLink RX4 9 "TripleWays$State" "triples" "[I", Cond.methodLink RX4 66 yX4_fits, Cond.static yX4_fits, Cond.code yX4_fits cX4_fits 5 (some .boolean), Cond.methodLink RX4 105 yX4_countBefore, Cond.instanceMethod yX4_countBefore, Cond.selects RX4 yX4_countBefore yX4_countBefore, Cond.code yX4_countBefore cX4_countBefore 7 (some .int), Cond.methodLink RX4 108 yX4_rankAt, Cond.instanceMethod yX4_rankAt, Cond.selects RX4 yX4_rankAt yX4_rankAt, Cond.code yX4_rankAt cX4_rankAt 3 (some .int), Cond.methodLink RX4 111 yX2_rankOf, Cond.static yX2_rankOf, Cond.initialized RX2, Cond.code yX2_rankOf cX2_rankOf 4 (some .int), Cond.methodLink RX2 15 yX2_componentAt, Cond.static yX2_componentAt, Cond.code yX2_componentAt cX2_componentAt 3 (some .int), Cond.fieldLink RX2 9 "TripleWays$Numbers" "BY" "[I", Cond.methodLink RX2 19 yX2_tripleDigit, Cond.static yX2_tripleDigit, Cond.code yX2_tripleDigit cX2_tripleDigit 2 (some .int)]
def wsX6_triple : List Cond := .code yX6_triple cX6_triple 3 (some .int) :: ((wsX6_triple_r1 ++ wsX6_triple_r2) ++ wsX60 ++ wsX40 ++ (vx_atS RX6 314 "java/lang/IndexOutOfBoundsException" ["java/lang/RuntimeException", "java/lang/Exception"]).filter goodWord ++ (vx_atS RX6 54 "java/lang/IllegalArgumentException" ["java/lang/RuntimeException", "java/lang/Exception"]).filter goodWord)
def wsX6_remembered : List Cond := .code yX6_remembered cX6_remembered 2 (some .int) :: ([.fieldLink RX6 19 "TripleWays" "now" "LTripleWays$State;", .methodLink RX6 116 yX6_needPlace, .static yX6_needPlace, .initialized RX6, .code yX6_needPlace cX6_needPlace 1 none, .classLink RX6 50 "java/lang/IllegalArgumentException", .initialized "java/lang/IllegalArgumentException", .methodLink RX6 123 yX4_questionAt, .instanceMethod yX4_questionAt, .selects RX4 yX4_questionAt yX4_questionAt, .initialized RX4, .code yX4_questionAt cX4_questionAt 2 (some .int), .fieldLink RX4 44 "TripleWays$State" "questionCount" "I", .fieldLink RX4 19 "TripleWays$State" "questions" "[I"] ++ wsX60 ++ wsX40 ++ (vx_atS RX6 54 "java/lang/IllegalArgumentException" ["java/lang/RuntimeException", "java/lang/Exception"]).filter goodWord)
def wsX6_weight : List Cond := .code yX6_weight cX6_weight 1 (some .int) :: ([.fieldLink RX6 19 "TripleWays" "now" "LTripleWays$State;"] ++ wsX60 ++ wsX40)
def wsX6_needQuestion : List Cond := .code yX6_needQuestion cX6_needQuestion 1 none :: ([.classLink RX6 50 "java/lang/IllegalArgumentException", .initialized "java/lang/IllegalArgumentException"] ++ (vx_atS RX6 54 "java/lang/IllegalArgumentException" ["java/lang/RuntimeException", "java/lang/Exception"]).filter goodWord)
def wsX6_count : List Cond := .code yX6_count cX6_count 2 (some .int) :: ([.fieldLink RX6 19 "TripleWays" "now" "LTripleWays$State;", .methodLink RX6 129 yX6_needQuestion, .static yX6_needQuestion, .initialized RX6, .code yX6_needQuestion cX6_needQuestion 1 none, .classLink RX6 50 "java/lang/IllegalArgumentException", .initialized "java/lang/IllegalArgumentException", .methodLink RX6 132 yX4_countAnswers, .instanceMethod yX4_countAnswers, .selects RX4 yX4_countAnswers yX4_countAnswers, .initialized RX4, .code yX4_countAnswers cX4_countAnswers 4 (some .int), .fieldLink RX4 25 "TripleWays$State" "size" "I", .methodLink RX4 54 yX4_tripleAt, .instanceMethod yX4_tripleAt, .selects RX4 yX4_tripleAt yX4_tripleAt, .code yX4_tripleAt cX4_tripleAt 2 (some .int), .fieldLink RX4 9 "TripleWays$State" "triples" "[I", .methodLink RX4 66 yX4_fits, .static yX4_fits, .code yX4_fits cX4_fits 5 (some .boolean)] ++ wsX60 ++ wsX40 ++ (vx_atS RX6 54 "java/lang/IllegalArgumentException" ["java/lang/RuntimeException", "java/lang/Exception"]).filter goodWord)
def wsX6_cost_r1 : List Cond := [Cond.fieldLink RX6 19 "TripleWays" "now" "LTripleWays$State;", Cond.methodLink RX6 129 yX6_needQuestion, Cond.static yX6_needQuestion, Cond.initialized RX6, Cond.code yX6_needQuestion cX6_needQuestion 1 none, Cond.classLink RX6 50 "java/lang/IllegalArgumentException", Cond.initialized "java/lang/IllegalArgumentException", Cond.methodLink RX6 112 yX6_needOrderOrNone, Cond.static yX6_needOrderOrNone, Cond.code yX6_needOrderOrNone cX6_needOrderOrNone 1 none, Cond.methodLink RX6 145 yX6_needOrder, Cond.static yX6_needOrder, Cond.code yX6_needOrder cX6_needOrder 1 none, Cond.classLink RX6 310 "java/lang/IndexOutOfBoundsException", Cond.initialized "java/lang/IndexOutOfBoundsException", Cond.methodLink RX6 135 yX4_costNow, Cond.instanceMethod yX4_costNow, Cond.selects RX4 yX4_costNow yX4_costNow, Cond.initialized RX4, Cond.code yX4_costNow cX4_costNow 4 (some .int), Cond.fieldLink RX4 25 "TripleWays$State" "size" "I", Cond.methodLink RX4 90 Lib.Math.min.name, Cond.static Lib.Math.min.name, Cond.initialized "java/lang/Math"]
def wsX6_cost_r2 : List Cond := [Cond.code Lib.Math.min.name Lib.Math.min.code 2 (some .int), Cond.methodLink RX4 83 yX4_keeps, Cond.instanceMethod yX4_keeps, Cond.selects RX4 yX4_keeps yX4_keeps, Cond.code yX4_keeps cX4_keeps 2 (some .boolean), Cond.fieldLink RX4 15 "TripleWays$State" "kept" "I", Cond.methodLink RX4 87 yX4_costBy, Cond.instanceMethod yX4_costBy, Cond.selects RX4 yX4_costBy yX4_costBy, Cond.code yX4_costBy cX4_costBy 4 (some .int), Cond.methodLink RX4 70 yX2_reachOf, Cond.static yX2_reachOf, Cond.initialized RX2, Cond.code yX2_reachOf cX2_reachOf 3 (some .int), Cond.methodLink RX2 15 yX2_componentAt, Cond.static yX2_componentAt, Cond.code yX2_componentAt cX2_componentAt 3 (some .int), Cond.fieldLink RX2 9 "TripleWays$Numbers" "BY" "[I", Cond.methodLink RX2 22 yX2_questionDigit, Cond.static yX2_questionDigit, Cond.code yX2_questionDigit cX2_questionDigit 2 (some .int), Cond.methodLink RX4 62 yX4_look, Cond.instanceMethod yX4_look, Cond.selects RX4 yX4_look yX4_look]
def wsX6_cost_r3 : List Cond := [Cond.code yX4_look cX4_look 2 (some .int), Cond.methodLink RX4 76 yX2_reachedPart, Cond.static yX2_reachedPart, Cond.code yX2_reachedPart cX2_reachedPart 6 (some .int), Cond.methodLink RX2 32 yX2_unitOf, Cond.static yX2_unitOf, Cond.code yX2_unitOf cX2_unitOf 1 (some .int), Cond.methodLink RX4 80 yX4_countAnswers, Cond.instanceMethod yX4_countAnswers, Cond.selects RX4 yX4_countAnswers yX4_countAnswers, Cond.code yX4_countAnswers cX4_countAnswers 4 (some .int), Cond.methodLink RX4 54 yX4_tripleAt, Cond.instanceMethod yX4_tripleAt, Cond.selects RX4 yX4_tripleAt yX4_tripleAt, Cond.code yX4_tripleAt cX4_tripleAt 2 (some .int), Cond.fieldLink RX4 9 "TripleWays$State" "triples" "[I", Cond.methodLink RX4 66 yX4_fits, Cond.static yX4_fits, Cond.code yX4_fits cX4_fits 5 (some .boolean), Cond.methodLink RX6 138 yX4_costBy]
def wsX6_cost : List Cond := .code yX6_cost cX6_cost 3 (some .int) :: ((wsX6_cost_r1 ++ (wsX6_cost_r2 ++ wsX6_cost_r3)) ++ wsX60 ++ wsX40 ++ (vx_atS RX6 54 "java/lang/IllegalArgumentException" ["java/lang/RuntimeException", "java/lang/Exception"]).filter goodWord ++ (vx_atS RX6 314 "java/lang/IndexOutOfBoundsException" ["java/lang/RuntimeException", "java/lang/Exception"]).filter goodWord)
def wsX6_by_r1 : List Cond := [Cond.fieldLink RX6 19 "TripleWays" "now" "LTripleWays$State;", Cond.methodLink RX6 129 yX6_needQuestion, Cond.static yX6_needQuestion, Cond.initialized RX6, Cond.code yX6_needQuestion cX6_needQuestion 1 none, Cond.classLink RX6 50 "java/lang/IllegalArgumentException", Cond.initialized "java/lang/IllegalArgumentException", Cond.methodLink RX6 142 yX4_answeringOrder, Cond.instanceMethod yX4_answeringOrder, Cond.selects RX4 yX4_answeringOrder yX4_answeringOrder, Cond.initialized RX4, Cond.code yX4_answeringOrder cX4_answeringOrder 6 (some .int), Cond.fieldLink RX4 25 "TripleWays$State" "size" "I", Cond.methodLink RX4 83 yX4_keeps, Cond.instanceMethod yX4_keeps, Cond.selects RX4 yX4_keeps yX4_keeps, Cond.code yX4_keeps cX4_keeps 2 (some .boolean), Cond.fieldLink RX4 15 "TripleWays$State" "kept" "I", Cond.methodLink RX4 87 yX4_costBy, Cond.instanceMethod yX4_costBy, Cond.selects RX4 yX4_costBy yX4_costBy, Cond.code yX4_costBy cX4_costBy 4 (some .int), Cond.methodLink RX4 70 yX2_reachOf, Cond.static yX2_reachOf]
def wsX6_by_r2 : List Cond := [Cond.initialized RX2, Cond.code yX2_reachOf cX2_reachOf 3 (some .int), Cond.methodLink RX2 15 yX2_componentAt, Cond.static yX2_componentAt, Cond.code yX2_componentAt cX2_componentAt 3 (some .int), Cond.fieldLink RX2 9 "TripleWays$Numbers" "BY" "[I", Cond.methodLink RX2 22 yX2_questionDigit, Cond.static yX2_questionDigit, Cond.code yX2_questionDigit cX2_questionDigit 2 (some .int), Cond.methodLink RX4 62 yX4_look, Cond.instanceMethod yX4_look, Cond.selects RX4 yX4_look yX4_look, Cond.code yX4_look cX4_look 2 (some .int), Cond.methodLink RX4 76 yX2_reachedPart, Cond.static yX2_reachedPart, Cond.code yX2_reachedPart cX2_reachedPart 6 (some .int), Cond.methodLink RX2 32 yX2_unitOf, Cond.static yX2_unitOf, Cond.code yX2_unitOf cX2_unitOf 1 (some .int), Cond.methodLink RX4 80 yX4_countAnswers, Cond.instanceMethod yX4_countAnswers, Cond.selects RX4 yX4_countAnswers yX4_countAnswers, Cond.code yX4_countAnswers cX4_countAnswers 4 (some .int), Cond.methodLink RX4 54 yX4_tripleAt]
def wsX6_by_r3 : List Cond := [Cond.instanceMethod yX4_tripleAt, Cond.selects RX4 yX4_tripleAt yX4_tripleAt, Cond.code yX4_tripleAt cX4_tripleAt 2 (some .int), Cond.fieldLink RX4 9 "TripleWays$State" "triples" "[I", Cond.methodLink RX4 66 yX4_fits, Cond.static yX4_fits, Cond.code yX4_fits cX4_fits 5 (some .boolean)]
def wsX6_by : List Cond := .code yX6_by cX6_by 2 (some .int) :: ((wsX6_by_r1 ++ (wsX6_by_r2 ++ wsX6_by_r3)) ++ wsX60 ++ wsX40 ++ (vx_atS RX6 54 "java/lang/IllegalArgumentException" ["java/lang/RuntimeException", "java/lang/Exception"]).filter goodWord)
def wsX6_reach : List Cond := .code yX6_reach cX6_reach 3 (some .int) :: ([.methodLink RX6 129 yX6_needQuestion, .static yX6_needQuestion, .initialized RX6, .code yX6_needQuestion cX6_needQuestion 1 none, .classLink RX6 50 "java/lang/IllegalArgumentException", .initialized "java/lang/IllegalArgumentException", .methodLink RX6 145 yX6_needOrder, .static yX6_needOrder, .code yX6_needOrder cX6_needOrder 1 none, .classLink RX6 310 "java/lang/IndexOutOfBoundsException", .initialized "java/lang/IndexOutOfBoundsException", .methodLink RX6 148 yX2_reachOf, .static yX2_reachOf, .initialized RX2, .code yX2_reachOf cX2_reachOf 3 (some .int), .methodLink RX2 15 yX2_componentAt, .static yX2_componentAt, .code yX2_componentAt cX2_componentAt 3 (some .int), .fieldLink RX2 9 "TripleWays$Numbers" "BY" "[I", .methodLink RX2 22 yX2_questionDigit, .static yX2_questionDigit, .code yX2_questionDigit cX2_questionDigit 2 (some .int)] ++ (vx_atS RX6 54 "java/lang/IllegalArgumentException" ["java/lang/RuntimeException", "java/lang/Exception"]).filter goodWord ++ (vx_atS RX6 314 "java/lang/IndexOutOfBoundsException" ["java/lang/RuntimeException", "java/lang/Exception"]).filter goodWord)
def wsX6_answer_r1 : List Cond := [Cond.fieldLink RX6 19 "TripleWays" "now" "LTripleWays$State;", Cond.methodLink RX6 129 yX6_needQuestion, Cond.static yX6_needQuestion, Cond.initialized RX6, Cond.code yX6_needQuestion cX6_needQuestion 1 none, Cond.classLink RX6 50 "java/lang/IllegalArgumentException", Cond.initialized "java/lang/IllegalArgumentException", Cond.methodLink RX6 116 yX6_needPlace, Cond.static yX6_needPlace, Cond.code yX6_needPlace cX6_needPlace 1 none, Cond.methodLink RX6 142 yX4_answeringOrder, Cond.instanceMethod yX4_answeringOrder, Cond.selects RX4 yX4_answeringOrder yX4_answeringOrder, Cond.initialized RX4, Cond.code yX4_answeringOrder cX4_answeringOrder 6 (some .int), Cond.fieldLink RX4 25 "TripleWays$State" "size" "I", Cond.methodLink RX4 83 yX4_keeps, Cond.instanceMethod yX4_keeps, Cond.selects RX4 yX4_keeps yX4_keeps, Cond.code yX4_keeps cX4_keeps 2 (some .boolean), Cond.fieldLink RX4 15 "TripleWays$State" "kept" "I", Cond.methodLink RX4 87 yX4_costBy, Cond.instanceMethod yX4_costBy, Cond.selects RX4 yX4_costBy yX4_costBy]
def wsX6_answer_r2 : List Cond := [Cond.code yX4_costBy cX4_costBy 4 (some .int), Cond.methodLink RX4 70 yX2_reachOf, Cond.static yX2_reachOf, Cond.initialized RX2, Cond.code yX2_reachOf cX2_reachOf 3 (some .int), Cond.methodLink RX2 15 yX2_componentAt, Cond.static yX2_componentAt, Cond.code yX2_componentAt cX2_componentAt 3 (some .int), Cond.fieldLink RX2 9 "TripleWays$Numbers" "BY" "[I", Cond.methodLink RX2 22 yX2_questionDigit, Cond.static yX2_questionDigit, Cond.code yX2_questionDigit cX2_questionDigit 2 (some .int), Cond.methodLink RX4 62 yX4_look, Cond.instanceMethod yX4_look, Cond.selects RX4 yX4_look yX4_look, Cond.code yX4_look cX4_look 2 (some .int), Cond.methodLink RX4 76 yX2_reachedPart, Cond.static yX2_reachedPart, Cond.code yX2_reachedPart cX2_reachedPart 6 (some .int), Cond.methodLink RX2 32 yX2_unitOf, Cond.static yX2_unitOf, Cond.code yX2_unitOf cX2_unitOf 1 (some .int), Cond.methodLink RX4 80 yX4_countAnswers, Cond.instanceMethod yX4_countAnswers]
def wsX6_answer_r3 : List Cond := [Cond.selects RX4 yX4_countAnswers yX4_countAnswers, Cond.code yX4_countAnswers cX4_countAnswers 4 (some .int), Cond.methodLink RX4 54 yX4_tripleAt, Cond.instanceMethod yX4_tripleAt, Cond.selects RX4 yX4_tripleAt yX4_tripleAt, Cond.code yX4_tripleAt cX4_tripleAt 2 (some .int), Cond.fieldLink RX4 9 "TripleWays$State" "triples" "[I", Cond.methodLink RX4 66 yX4_fits, Cond.static yX4_fits, Cond.code yX4_fits cX4_fits 5 (some .boolean), Cond.methodLink RX6 119 yX4_answerAt, Cond.instanceMethod yX4_answerAt, Cond.selects RX4 yX4_answerAt yX4_answerAt, Cond.code yX4_answerAt cX4_answerAt 5 (some .int), Cond.methodLink RX4 105 yX4_countBefore, Cond.instanceMethod yX4_countBefore, Cond.selects RX4 yX4_countBefore yX4_countBefore, Cond.code yX4_countBefore cX4_countBefore 7 (some .int), Cond.methodLink RX4 108 yX4_rankAt, Cond.instanceMethod yX4_rankAt, Cond.selects RX4 yX4_rankAt yX4_rankAt, Cond.code yX4_rankAt cX4_rankAt 3 (some .int), Cond.methodLink RX4 111 yX2_rankOf, Cond.static yX2_rankOf]
def wsX6_answer_r4 : List Cond := [Cond.code yX2_rankOf cX2_rankOf 4 (some .int), Cond.methodLink RX2 19 yX2_tripleDigit, Cond.static yX2_tripleDigit, Cond.code yX2_tripleDigit cX2_tripleDigit 2 (some .int)]
def wsX6_answer : List Cond := .code yX6_answer cX6_answer 3 (some .int) :: ((wsX6_answer_r1 ++ (wsX6_answer_r2 ++ (wsX6_answer_r3 ++ wsX6_answer_r4))) ++ wsX60 ++ wsX40 ++ (vx_atS RX6 54 "java/lang/IllegalArgumentException" ["java/lang/RuntimeException", "java/lang/Exception"]).filter goodWord)
def wsX6_needTriple : List Cond := .code yX6_needTriple cX6_needTriple 1 none :: ([.classLink RX6 50 "java/lang/IllegalArgumentException", .initialized "java/lang/IllegalArgumentException"] ++ (vx_atS RX6 54 "java/lang/IllegalArgumentException" ["java/lang/RuntimeException", "java/lang/Exception"]).filter goodWord)
def wsX6_add_r1 : List Cond := [Cond.classLink RX6 61 "java/lang/IllegalStateException", Cond.initialized "java/lang/IllegalStateException", Cond.fieldLink RX6 19 "TripleWays" "now" "LTripleWays$State;", Cond.fieldLink RX6 29 "TripleWays" "history" "LTripleWays$History;", Cond.methodLink RX6 167 yX6_needTriple, Cond.static yX6_needTriple, Cond.initialized RX6, Cond.code yX6_needTriple cX6_needTriple 1 none, Cond.classLink RX6 50 "java/lang/IllegalArgumentException", Cond.initialized "java/lang/IllegalArgumentException", Cond.methodLink RX6 170 yX4_canPut, Cond.instanceMethod yX4_canPut, Cond.selects RX4 yX4_canPut yX4_canPut, Cond.initialized RX4, Cond.code yX4_canPut cX4_canPut 2 (some .boolean), Cond.fieldLink RX4 25 "TripleWays$State" "size" "I", Cond.fieldLink RX4 9 "TripleWays$State" "triples" "[I", Cond.methodLink RX4 47 yX4_indexOf, Cond.instanceMethod yX4_indexOf, Cond.selects RX4 yX4_indexOf yX4_indexOf, Cond.code yX4_indexOf cX4_indexOf 3 (some .int), Cond.methodLink RX4 54 yX4_tripleAt, Cond.instanceMethod yX4_tripleAt, Cond.selects RX4 yX4_tripleAt yX4_tripleAt]
def wsX6_add_r2 : List Cond := [Cond.code yX4_tripleAt cX4_tripleAt 2 (some .int), Cond.methodLink RX6 176 yX1_push, Cond.instanceMethod yX1_push, Cond.selects RX1 yX1_push yX1_push, Cond.initialized RX1, Cond.code yX1_push cX1_push 3 none, Cond.fieldLink RX1 18 "TripleWays$History" "size" "I", Cond.fieldLink RX1 22 "TripleWays$History" "oldest" "I", Cond.methodLink RX1 25 yX1_stateAt, Cond.instanceMethod yX1_stateAt, Cond.selects RX1 yX1_stateAt yX1_stateAt, Cond.code yX1_stateAt cX1_stateAt 3 (some (.object "TripleWays$State")), Cond.fieldLink RX1 11 "TripleWays$History" "states" "[LTripleWays$State;", Cond.methodLink RX1 29 yX4_become, Cond.instanceMethod yX4_become, Cond.selects RX4 yX4_become yX4_become, Cond.code yX4_become cX4_become 2 none, Cond.fieldLink RX4 15 "TripleWays$State" "kept" "I", Cond.fieldLink RX4 32 "TripleWays$State" "upkeepCosts" "I", Cond.fieldLink RX4 35 "TripleWays$State" "buildingCosts" "I", Cond.fieldLink RX4 38 "TripleWays$State" "answerCosts" "I", Cond.fieldLink RX4 41 "TripleWays$State" "asked" "I", Cond.fieldLink RX4 44 "TripleWays$State" "questionCount" "I", Cond.fieldLink RX4 19 "TripleWays$State" "questions" "[I"]
def wsX6_add_r3 : List Cond := [Cond.fieldLink RX4 22 "TripleWays$State" "weight" "I", Cond.methodLink RX4 28 yX4_copyRow, Cond.static yX4_copyRow, Cond.code yX4_copyRow cX4_copyRow 4 none, Cond.methodLink RX6 180 yX4_put, Cond.instanceMethod yX4_put, Cond.selects RX4 yX4_put yX4_put, Cond.code yX4_put cX4_put 2 (some .int), Cond.methodLink RX4 51 yX4_payUpkeep, Cond.instanceMethod yX4_payUpkeep, Cond.selects RX4 yX4_payUpkeep yX4_payUpkeep, Cond.code yX4_payUpkeep cX4_payUpkeep 1 none, Cond.methodLink RX4 57 yJ6_bitCount_0f7a4, Cond.static yJ6_bitCount_0f7a4, Cond.initialized RJ6, Cond.code yJ6_bitCount_0f7a4 cJ6_bitCount_0f7a4 1 (some .int), Cond.constant RJ6 265 (1431655765), Cond.constant RJ6 266 (858993459), Cond.constant RJ6 267 (252645135), Cond.methodLink RX4 62 yX4_look, Cond.instanceMethod yX4_look, Cond.selects RX4 yX4_look yX4_look, Cond.code yX4_look cX4_look 2 (some .int)]
def wsX6_add : List Cond := .code yX6_add cX6_add 2 (some .int) :: ((wsX6_add_r1 ++ (wsX6_add_r2 ++ wsX6_add_r3)) ++ wsX60 ++ wsX40 ++ wsX10 ++ (vx_atS RX6 65 "java/lang/IllegalStateException" ["java/lang/RuntimeException", "java/lang/Exception"]).filter goodWord ++ (vx_atS RX6 54 "java/lang/IllegalArgumentException" ["java/lang/RuntimeException", "java/lang/Exception"]).filter goodWord)
def wsX6_remove_r1 : List Cond := [Cond.fieldLink RX6 29 "TripleWays" "history" "LTripleWays$History;", Cond.fieldLink RX6 19 "TripleWays" "now" "LTripleWays$State;", Cond.methodLink RX6 167 yX6_needTriple, Cond.static yX6_needTriple, Cond.initialized RX6, Cond.code yX6_needTriple cX6_needTriple 1 none, Cond.classLink RX6 50 "java/lang/IllegalArgumentException", Cond.initialized "java/lang/IllegalArgumentException", Cond.methodLink RX6 176 yX1_push, Cond.instanceMethod yX1_push, Cond.selects RX1 yX1_push yX1_push, Cond.initialized RX1, Cond.code yX1_push cX1_push 3 none, Cond.fieldLink RX1 18 "TripleWays$History" "size" "I", Cond.fieldLink RX1 22 "TripleWays$History" "oldest" "I", Cond.methodLink RX1 25 yX1_stateAt, Cond.instanceMethod yX1_stateAt, Cond.selects RX1 yX1_stateAt yX1_stateAt, Cond.code yX1_stateAt cX1_stateAt 3 (some (.object "TripleWays$State")), Cond.fieldLink RX1 11 "TripleWays$History" "states" "[LTripleWays$State;", Cond.methodLink RX1 29 yX4_become, Cond.instanceMethod yX4_become, Cond.selects RX4 yX4_become yX4_become, Cond.initialized RX4]
def wsX6_remove_r2 : List Cond := [Cond.code yX4_become cX4_become 2 none, Cond.fieldLink RX4 25 "TripleWays$State" "size" "I", Cond.fieldLink RX4 9 "TripleWays$State" "triples" "[I", Cond.fieldLink RX4 15 "TripleWays$State" "kept" "I", Cond.fieldLink RX4 32 "TripleWays$State" "upkeepCosts" "I", Cond.fieldLink RX4 35 "TripleWays$State" "buildingCosts" "I", Cond.fieldLink RX4 38 "TripleWays$State" "answerCosts" "I", Cond.fieldLink RX4 41 "TripleWays$State" "asked" "I", Cond.fieldLink RX4 44 "TripleWays$State" "questionCount" "I", Cond.fieldLink RX4 19 "TripleWays$State" "questions" "[I", Cond.fieldLink RX4 22 "TripleWays$State" "weight" "I", Cond.methodLink RX4 28 yX4_copyRow, Cond.static yX4_copyRow, Cond.code yX4_copyRow cX4_copyRow 4 none, Cond.methodLink RX6 189 yX4_take, Cond.instanceMethod yX4_take, Cond.selects RX4 yX4_take yX4_take, Cond.code yX4_take cX4_take 4 (some .int), Cond.methodLink RX4 47 yX4_indexOf, Cond.instanceMethod yX4_indexOf, Cond.selects RX4 yX4_indexOf yX4_indexOf, Cond.code yX4_indexOf cX4_indexOf 3 (some .int), Cond.methodLink RX4 54 yX4_tripleAt, Cond.instanceMethod yX4_tripleAt]
def wsX6_remove_r3 : List Cond := [Cond.selects RX4 yX4_tripleAt yX4_tripleAt, Cond.code yX4_tripleAt cX4_tripleAt 2 (some .int), Cond.methodLink RX4 51 yX4_payUpkeep, Cond.instanceMethod yX4_payUpkeep, Cond.selects RX4 yX4_payUpkeep yX4_payUpkeep, Cond.code yX4_payUpkeep cX4_payUpkeep 1 none, Cond.methodLink RX4 57 yJ6_bitCount_0f7a4, Cond.static yJ6_bitCount_0f7a4, Cond.initialized RJ6, Cond.code yJ6_bitCount_0f7a4 cJ6_bitCount_0f7a4 1 (some .int), Cond.constant RJ6 265 (1431655765), Cond.constant RJ6 266 (858993459), Cond.constant RJ6 267 (252645135), Cond.methodLink RX4 62 yX4_look, Cond.instanceMethod yX4_look, Cond.selects RX4 yX4_look yX4_look, Cond.code yX4_look cX4_look 2 (some .int)]
def wsX6_remove : List Cond := .code yX6_remove cX6_remove 2 (some .int) :: ((wsX6_remove_r1 ++ (wsX6_remove_r2 ++ wsX6_remove_r3)) ++ wsX60 ++ wsX10 ++ wsX40 ++ (vx_atS RX6 54 "java/lang/IllegalArgumentException" ["java/lang/RuntimeException", "java/lang/Exception"]).filter goodWord)
def wsX6_ask_r1 : List Cond := [Cond.fieldLink RX6 29 "TripleWays" "history" "LTripleWays$History;", Cond.fieldLink RX6 19 "TripleWays" "now" "LTripleWays$State;", Cond.methodLink RX6 129 yX6_needQuestion, Cond.static yX6_needQuestion, Cond.initialized RX6, Cond.code yX6_needQuestion cX6_needQuestion 1 none, Cond.classLink RX6 50 "java/lang/IllegalArgumentException", Cond.initialized "java/lang/IllegalArgumentException", Cond.methodLink RX6 176 yX1_push, Cond.instanceMethod yX1_push, Cond.selects RX1 yX1_push yX1_push, Cond.initialized RX1, Cond.code yX1_push cX1_push 3 none, Cond.fieldLink RX1 18 "TripleWays$History" "size" "I", Cond.fieldLink RX1 22 "TripleWays$History" "oldest" "I", Cond.methodLink RX1 25 yX1_stateAt, Cond.instanceMethod yX1_stateAt, Cond.selects RX1 yX1_stateAt yX1_stateAt, Cond.code yX1_stateAt cX1_stateAt 3 (some (.object "TripleWays$State")), Cond.fieldLink RX1 11 "TripleWays$History" "states" "[LTripleWays$State;", Cond.methodLink RX1 29 yX4_become, Cond.instanceMethod yX4_become, Cond.selects RX4 yX4_become yX4_become, Cond.initialized RX4]
def wsX6_ask_r2 : List Cond := [Cond.code yX4_become cX4_become 2 none, Cond.fieldLink RX4 25 "TripleWays$State" "size" "I", Cond.fieldLink RX4 9 "TripleWays$State" "triples" "[I", Cond.fieldLink RX4 15 "TripleWays$State" "kept" "I", Cond.fieldLink RX4 32 "TripleWays$State" "upkeepCosts" "I", Cond.fieldLink RX4 35 "TripleWays$State" "buildingCosts" "I", Cond.fieldLink RX4 38 "TripleWays$State" "answerCosts" "I", Cond.fieldLink RX4 41 "TripleWays$State" "asked" "I", Cond.fieldLink RX4 44 "TripleWays$State" "questionCount" "I", Cond.fieldLink RX4 19 "TripleWays$State" "questions" "[I", Cond.fieldLink RX4 22 "TripleWays$State" "weight" "I", Cond.methodLink RX4 28 yX4_copyRow, Cond.static yX4_copyRow, Cond.code yX4_copyRow cX4_copyRow 4 none, Cond.methodLink RX6 192 yX4_noteQuestion, Cond.instanceMethod yX4_noteQuestion, Cond.selects RX4 yX4_noteQuestion yX4_noteQuestion, Cond.code yX4_noteQuestion cX4_noteQuestion 2 (some .int), Cond.methodLink RX4 114 yX4_costNow, Cond.instanceMethod yX4_costNow, Cond.selects RX4 yX4_costNow yX4_costNow, Cond.code yX4_costNow cX4_costNow 4 (some .int), Cond.methodLink RX4 90 Lib.Math.min.name, Cond.static Lib.Math.min.name]
def wsX6_ask_r3 : List Cond := [Cond.initialized "java/lang/Math", Cond.code Lib.Math.min.name Lib.Math.min.code 2 (some .int), Cond.methodLink RX4 83 yX4_keeps, Cond.instanceMethod yX4_keeps, Cond.selects RX4 yX4_keeps yX4_keeps, Cond.code yX4_keeps cX4_keeps 2 (some .boolean), Cond.methodLink RX4 87 yX4_costBy, Cond.instanceMethod yX4_costBy, Cond.selects RX4 yX4_costBy yX4_costBy, Cond.code yX4_costBy cX4_costBy 4 (some .int), Cond.methodLink RX4 70 yX2_reachOf, Cond.static yX2_reachOf, Cond.initialized RX2, Cond.code yX2_reachOf cX2_reachOf 3 (some .int), Cond.methodLink RX2 15 yX2_componentAt, Cond.static yX2_componentAt, Cond.code yX2_componentAt cX2_componentAt 3 (some .int), Cond.fieldLink RX2 9 "TripleWays$Numbers" "BY" "[I", Cond.methodLink RX2 22 yX2_questionDigit, Cond.static yX2_questionDigit, Cond.code yX2_questionDigit cX2_questionDigit 2 (some .int), Cond.methodLink RX4 62 yX4_look, Cond.instanceMethod yX4_look, Cond.selects RX4 yX4_look yX4_look]
def wsX6_ask_r4 : List Cond := [Cond.code yX4_look cX4_look 2 (some .int), Cond.methodLink RX4 76 yX2_reachedPart, Cond.static yX2_reachedPart, Cond.code yX2_reachedPart cX2_reachedPart 6 (some .int), Cond.methodLink RX2 32 yX2_unitOf, Cond.static yX2_unitOf, Cond.code yX2_unitOf cX2_unitOf 1 (some .int), Cond.methodLink RX4 80 yX4_countAnswers, Cond.instanceMethod yX4_countAnswers, Cond.selects RX4 yX4_countAnswers yX4_countAnswers, Cond.code yX4_countAnswers cX4_countAnswers 4 (some .int), Cond.methodLink RX4 54 yX4_tripleAt, Cond.instanceMethod yX4_tripleAt, Cond.selects RX4 yX4_tripleAt yX4_tripleAt, Cond.code yX4_tripleAt cX4_tripleAt 2 (some .int), Cond.methodLink RX4 66 yX4_fits, Cond.static yX4_fits, Cond.code yX4_fits cX4_fits 5 (some .boolean), Cond.methodLink RX4 117 yX4_forgetOldest, Cond.instanceMethod yX4_forgetOldest, Cond.selects RX4 yX4_forgetOldest yX4_forgetOldest, Cond.code yX4_forgetOldest cX4_forgetOldest 2 none]
def wsX6_ask : List Cond := .code yX6_ask cX6_ask 2 (some .int) :: ((wsX6_ask_r1 ++ (wsX6_ask_r2 ++ (wsX6_ask_r3 ++ wsX6_ask_r4))) ++ wsX60 ++ wsX10 ++ wsX40 ++ (vx_atS RX6 54 "java/lang/IllegalArgumentException" ["java/lang/RuntimeException", "java/lang/Exception"]).filter goodWord)
def wsX6_build_r1 : List Cond := [Cond.classLink RX6 61 "java/lang/IllegalStateException", Cond.initialized "java/lang/IllegalStateException", Cond.fieldLink RX6 19 "TripleWays" "now" "LTripleWays$State;", Cond.fieldLink RX6 29 "TripleWays" "history" "LTripleWays$History;", Cond.methodLink RX6 145 yX6_needOrder, Cond.static yX6_needOrder, Cond.initialized RX6, Cond.code yX6_needOrder cX6_needOrder 1 none, Cond.classLink RX6 310 "java/lang/IndexOutOfBoundsException", Cond.initialized "java/lang/IndexOutOfBoundsException", Cond.methodLink RX6 195 yX4_keeps, Cond.instanceMethod yX4_keeps, Cond.selects RX4 yX4_keeps yX4_keeps, Cond.initialized RX4, Cond.code yX4_keeps cX4_keeps 2 (some .boolean), Cond.fieldLink RX4 15 "TripleWays$State" "kept" "I", Cond.methodLink RX6 176 yX1_push, Cond.instanceMethod yX1_push, Cond.selects RX1 yX1_push yX1_push, Cond.initialized RX1, Cond.code yX1_push cX1_push 3 none, Cond.fieldLink RX1 18 "TripleWays$History" "size" "I", Cond.fieldLink RX1 22 "TripleWays$History" "oldest" "I", Cond.methodLink RX1 25 yX1_stateAt]
def wsX6_build_r2 : List Cond := [Cond.instanceMethod yX1_stateAt, Cond.selects RX1 yX1_stateAt yX1_stateAt, Cond.code yX1_stateAt cX1_stateAt 3 (some (.object "TripleWays$State")), Cond.fieldLink RX1 11 "TripleWays$History" "states" "[LTripleWays$State;", Cond.methodLink RX1 29 yX4_become, Cond.instanceMethod yX4_become, Cond.selects RX4 yX4_become yX4_become, Cond.code yX4_become cX4_become 2 none, Cond.fieldLink RX4 25 "TripleWays$State" "size" "I", Cond.fieldLink RX4 9 "TripleWays$State" "triples" "[I", Cond.fieldLink RX4 32 "TripleWays$State" "upkeepCosts" "I", Cond.fieldLink RX4 35 "TripleWays$State" "buildingCosts" "I", Cond.fieldLink RX4 38 "TripleWays$State" "answerCosts" "I", Cond.fieldLink RX4 41 "TripleWays$State" "asked" "I", Cond.fieldLink RX4 44 "TripleWays$State" "questionCount" "I", Cond.fieldLink RX4 19 "TripleWays$State" "questions" "[I", Cond.fieldLink RX4 22 "TripleWays$State" "weight" "I", Cond.methodLink RX4 28 yX4_copyRow, Cond.static yX4_copyRow, Cond.code yX4_copyRow cX4_copyRow 4 none, Cond.methodLink RX6 200 yX4_keep, Cond.instanceMethod yX4_keep, Cond.selects RX4 yX4_keep yX4_keep, Cond.code yX4_keep cX4_keep 3 (some .int)]
def wsX6_build_r3 : List Cond := [Cond.methodLink RX4 62 yX4_look, Cond.instanceMethod yX4_look, Cond.selects RX4 yX4_look yX4_look, Cond.code yX4_look cX4_look 2 (some .int)]
def wsX6_build : List Cond := .code yX6_build cX6_build 2 (some .int) :: ((wsX6_build_r1 ++ (wsX6_build_r2 ++ wsX6_build_r3)) ++ wsX60 ++ wsX40 ++ wsX10 ++ (vx_atS RX6 65 "java/lang/IllegalStateException" ["java/lang/RuntimeException", "java/lang/Exception"]).filter goodWord ++ (vx_atS RX6 314 "java/lang/IndexOutOfBoundsException" ["java/lang/RuntimeException", "java/lang/Exception"]).filter goodWord)
def wsX6_drop_r1 : List Cond := [Cond.classLink RX6 61 "java/lang/IllegalStateException", Cond.initialized "java/lang/IllegalStateException", Cond.fieldLink RX6 19 "TripleWays" "now" "LTripleWays$State;", Cond.fieldLink RX6 29 "TripleWays" "history" "LTripleWays$History;", Cond.methodLink RX6 145 yX6_needOrder, Cond.static yX6_needOrder, Cond.initialized RX6, Cond.code yX6_needOrder cX6_needOrder 1 none, Cond.classLink RX6 310 "java/lang/IndexOutOfBoundsException", Cond.initialized "java/lang/IndexOutOfBoundsException", Cond.methodLink RX6 195 yX4_keeps, Cond.instanceMethod yX4_keeps, Cond.selects RX4 yX4_keeps yX4_keeps, Cond.initialized RX4, Cond.code yX4_keeps cX4_keeps 2 (some .boolean), Cond.fieldLink RX4 15 "TripleWays$State" "kept" "I", Cond.methodLink RX6 176 yX1_push, Cond.instanceMethod yX1_push, Cond.selects RX1 yX1_push yX1_push, Cond.initialized RX1, Cond.code yX1_push cX1_push 3 none, Cond.fieldLink RX1 18 "TripleWays$History" "size" "I", Cond.fieldLink RX1 22 "TripleWays$History" "oldest" "I", Cond.methodLink RX1 25 yX1_stateAt]
def wsX6_drop_r2 : List Cond := [Cond.instanceMethod yX1_stateAt, Cond.selects RX1 yX1_stateAt yX1_stateAt, Cond.code yX1_stateAt cX1_stateAt 3 (some (.object "TripleWays$State")), Cond.fieldLink RX1 11 "TripleWays$History" "states" "[LTripleWays$State;", Cond.methodLink RX1 29 yX4_become, Cond.instanceMethod yX4_become, Cond.selects RX4 yX4_become yX4_become, Cond.code yX4_become cX4_become 2 none, Cond.fieldLink RX4 25 "TripleWays$State" "size" "I", Cond.fieldLink RX4 9 "TripleWays$State" "triples" "[I", Cond.fieldLink RX4 32 "TripleWays$State" "upkeepCosts" "I", Cond.fieldLink RX4 35 "TripleWays$State" "buildingCosts" "I", Cond.fieldLink RX4 38 "TripleWays$State" "answerCosts" "I", Cond.fieldLink RX4 41 "TripleWays$State" "asked" "I", Cond.fieldLink RX4 44 "TripleWays$State" "questionCount" "I", Cond.fieldLink RX4 19 "TripleWays$State" "questions" "[I", Cond.fieldLink RX4 22 "TripleWays$State" "weight" "I", Cond.methodLink RX4 28 yX4_copyRow, Cond.static yX4_copyRow, Cond.code yX4_copyRow cX4_copyRow 4 none, Cond.methodLink RX6 205 yX4_discard, Cond.instanceMethod yX4_discard, Cond.selects RX4 yX4_discard yX4_discard, Cond.code yX4_discard cX4_discard 2 (some .int)]
def wsX6_drop_r3 : List Cond := [Cond.methodLink RX4 57 yJ6_bitCount_0f7a4, Cond.static yJ6_bitCount_0f7a4, Cond.initialized RJ6, Cond.code yJ6_bitCount_0f7a4 cJ6_bitCount_0f7a4 1 (some .int), Cond.constant RJ6 265 (1431655765), Cond.constant RJ6 266 (858993459), Cond.constant RJ6 267 (252645135)]
def wsX6_drop : List Cond := .code yX6_drop cX6_drop 2 (some .int) :: ((wsX6_drop_r1 ++ (wsX6_drop_r2 ++ wsX6_drop_r3)) ++ wsX60 ++ wsX40 ++ wsX10 ++ (vx_atS RX6 65 "java/lang/IllegalStateException" ["java/lang/RuntimeException", "java/lang/Exception"]).filter goodWord ++ (vx_atS RX6 314 "java/lang/IndexOutOfBoundsException" ["java/lang/RuntimeException", "java/lang/Exception"]).filter goodWord)
def wsX6_tidy_r1 : List Cond := [Cond.fieldLink RX6 29 "TripleWays" "history" "LTripleWays$History;", Cond.fieldLink RX6 19 "TripleWays" "now" "LTripleWays$State;", Cond.fieldLink RX6 36 "TripleWays" "advice" "LTripleWays$Advice;", Cond.methodLink RX6 176 yX1_push, Cond.instanceMethod yX1_push, Cond.selects RX1 yX1_push yX1_push, Cond.initialized RX1, Cond.code yX1_push cX1_push 3 none, Cond.fieldLink RX1 18 "TripleWays$History" "size" "I", Cond.fieldLink RX1 22 "TripleWays$History" "oldest" "I", Cond.methodLink RX1 25 yX1_stateAt, Cond.instanceMethod yX1_stateAt, Cond.selects RX1 yX1_stateAt yX1_stateAt, Cond.code yX1_stateAt cX1_stateAt 3 (some (.object "TripleWays$State")), Cond.fieldLink RX1 11 "TripleWays$History" "states" "[LTripleWays$State;", Cond.methodLink RX1 29 yX4_become, Cond.instanceMethod yX4_become, Cond.selects RX4 yX4_become yX4_become, Cond.initialized RX4, Cond.code yX4_become cX4_become 2 none, Cond.fieldLink RX4 25 "TripleWays$State" "size" "I", Cond.fieldLink RX4 9 "TripleWays$State" "triples" "[I", Cond.fieldLink RX4 15 "TripleWays$State" "kept" "I", Cond.fieldLink RX4 32 "TripleWays$State" "upkeepCosts" "I"]
def wsX6_tidy_r2 : List Cond := [Cond.fieldLink RX4 35 "TripleWays$State" "buildingCosts" "I", Cond.fieldLink RX4 38 "TripleWays$State" "answerCosts" "I", Cond.fieldLink RX4 41 "TripleWays$State" "asked" "I", Cond.fieldLink RX4 44 "TripleWays$State" "questionCount" "I", Cond.fieldLink RX4 19 "TripleWays$State" "questions" "[I", Cond.fieldLink RX4 22 "TripleWays$State" "weight" "I", Cond.methodLink RX4 28 yX4_copyRow, Cond.static yX4_copyRow, Cond.code yX4_copyRow cX4_copyRow 4 none, Cond.methodLink RX6 208 yX0_follow, Cond.instanceMethod yX0_follow, Cond.selects RX0 yX0_follow yX0_follow, Cond.initialized RX0, Cond.code yX0_follow cX0_follow 4 (some .int), Cond.methodLink RX0 73 yX0_learn, Cond.instanceMethod yX0_learn, Cond.selects RX0 yX0_learn yX0_learn, Cond.code yX0_learn cX0_learn 7 none, Cond.fieldLink RX0 24 "TripleWays$Advice" "questionCount" "I", Cond.fieldLink RX0 28 "TripleWays$Advice" "fullWalk" "I", Cond.fieldLink RX0 34 "TripleWays$Advice" "kept" "I", Cond.fieldLink RX0 42 "TripleWays$Advice" "upkeep" "I", Cond.fieldLink RX0 15 "TripleWays$Advice" "covers" "[I", Cond.fieldLink RX0 9 "TripleWays$Advice" "costs" "[I"]
def wsX6_tidy_r3 : List Cond := [Cond.methodLink RX0 38 yX4_look, Cond.instanceMethod yX4_look, Cond.selects RX4 yX4_look yX4_look, Cond.code yX4_look cX4_look 2 (some .int), Cond.methodLink RX0 45 yX4_questionAt, Cond.instanceMethod yX4_questionAt, Cond.selects RX4 yX4_questionAt yX4_questionAt, Cond.code yX4_questionAt cX4_questionAt 2 (some .int), Cond.methodLink RX0 49 yX4_costBy, Cond.instanceMethod yX4_costBy, Cond.selects RX4 yX4_costBy yX4_costBy, Cond.code yX4_costBy cX4_costBy 4 (some .int), Cond.methodLink RX4 70 yX2_reachOf, Cond.static yX2_reachOf, Cond.initialized RX2, Cond.code yX2_reachOf cX2_reachOf 3 (some .int), Cond.methodLink RX2 15 yX2_componentAt, Cond.static yX2_componentAt, Cond.code yX2_componentAt cX2_componentAt 3 (some .int), Cond.fieldLink RX2 9 "TripleWays$Numbers" "BY" "[I", Cond.methodLink RX2 22 yX2_questionDigit, Cond.static yX2_questionDigit, Cond.code yX2_questionDigit cX2_questionDigit 2 (some .int), Cond.methodLink RX4 62 yX4_look]
def wsX6_tidy_r4 : List Cond := [Cond.methodLink RX4 76 yX2_reachedPart, Cond.static yX2_reachedPart, Cond.code yX2_reachedPart cX2_reachedPart 6 (some .int), Cond.methodLink RX2 32 yX2_unitOf, Cond.static yX2_unitOf, Cond.code yX2_unitOf cX2_unitOf 1 (some .int), Cond.methodLink RX4 80 yX4_countAnswers, Cond.instanceMethod yX4_countAnswers, Cond.selects RX4 yX4_countAnswers yX4_countAnswers, Cond.code yX4_countAnswers cX4_countAnswers 4 (some .int), Cond.methodLink RX4 54 yX4_tripleAt, Cond.instanceMethod yX4_tripleAt, Cond.selects RX4 yX4_tripleAt yX4_tripleAt, Cond.code yX4_tripleAt cX4_tripleAt 2 (some .int), Cond.methodLink RX4 66 yX4_fits, Cond.static yX4_fits, Cond.code yX4_fits cX4_fits 5 (some .boolean), Cond.methodLink RX0 53 yX2_reachesAll, Cond.static yX2_reachesAll, Cond.code yX2_reachesAll cX2_reachesAll 2 (some .boolean), Cond.methodLink RX2 25 yX2_reachOf, Cond.methodLink RX2 28 yX2_countBound, Cond.static yX2_countBound, Cond.code yX2_countBound cX2_countBound 3 (some .int)]
def wsX6_tidy_r5 : List Cond := [Cond.methodLink RX0 77 yX0_orderToBuild, Cond.instanceMethod yX0_orderToBuild, Cond.selects RX0 yX0_orderToBuild yX0_orderToBuild, Cond.code yX0_orderToBuild cX0_orderToBuild 5 (some .int), Cond.methodLink RX0 70 yX0_worth, Cond.instanceMethod yX0_worth, Cond.selects RX0 yX0_worth yX0_worth, Cond.code yX0_worth cX0_worth 3 (some .int), Cond.methodLink RX0 67 yX0_costWith, Cond.instanceMethod yX0_costWith, Cond.selects RX0 yX0_costWith yX0_costWith, Cond.code yX0_costWith cX0_costWith 6 (some .int), Cond.methodLink RX0 62 Lib.Math.min.name, Cond.static Lib.Math.min.name, Cond.initialized "java/lang/Math", Cond.code Lib.Math.min.name Lib.Math.min.code 2 (some .int), Cond.methodLink RX0 59 yX0_costAt, Cond.instanceMethod yX0_costAt, Cond.selects RX0 yX0_costAt yX0_costAt, Cond.code yX0_costAt cX0_costAt 4 (some .int), Cond.methodLink RX0 80 yX4_keep, Cond.instanceMethod yX4_keep, Cond.selects RX4 yX4_keep yX4_keep, Cond.code yX4_keep cX4_keep 3 (some .int)]
def wsX6_tidy_r6 : List Cond := [Cond.methodLink RX0 83 yX0_orderToDrop, Cond.instanceMethod yX0_orderToDrop, Cond.selects RX0 yX0_orderToDrop yX0_orderToDrop, Cond.code yX0_orderToDrop cX0_orderToDrop 5 (some .int), Cond.methodLink RX0 86 yX4_discard, Cond.instanceMethod yX4_discard, Cond.selects RX4 yX4_discard yX4_discard, Cond.code yX4_discard cX4_discard 2 (some .int), Cond.methodLink RX4 57 yJ6_bitCount_0f7a4, Cond.static yJ6_bitCount_0f7a4, Cond.initialized RJ6, Cond.code yJ6_bitCount_0f7a4 cJ6_bitCount_0f7a4 1 (some .int), Cond.constant RJ6 265 (1431655765), Cond.constant RJ6 266 (858993459), Cond.constant RJ6 267 (252645135)]
def wsX6_tidy : List Cond := .code yX6_tidy cX6_tidy 1 (some .int) :: ((wsX6_tidy_r1 ++ (wsX6_tidy_r2 ++ (wsX6_tidy_r3 ++ (wsX6_tidy_r4 ++ (wsX6_tidy_r5 ++ wsX6_tidy_r6))))) ++ wsX60 ++ wsX10 ++ wsX40 ++ wsX00)
def wsX6_setWeight_r1 : List Cond := [Cond.classLink RX6 50 "java/lang/IllegalArgumentException", Cond.initialized "java/lang/IllegalArgumentException", Cond.fieldLink RX6 29 "TripleWays" "history" "LTripleWays$History;", Cond.fieldLink RX6 19 "TripleWays" "now" "LTripleWays$State;", Cond.methodLink RX6 176 yX1_push, Cond.instanceMethod yX1_push, Cond.selects RX1 yX1_push yX1_push, Cond.initialized RX1, Cond.code yX1_push cX1_push 3 none, Cond.fieldLink RX1 18 "TripleWays$History" "size" "I", Cond.fieldLink RX1 22 "TripleWays$History" "oldest" "I", Cond.methodLink RX1 25 yX1_stateAt, Cond.instanceMethod yX1_stateAt, Cond.selects RX1 yX1_stateAt yX1_stateAt, Cond.code yX1_stateAt cX1_stateAt 3 (some (.object "TripleWays$State")), Cond.fieldLink RX1 11 "TripleWays$History" "states" "[LTripleWays$State;", Cond.methodLink RX1 29 yX4_become, Cond.instanceMethod yX4_become, Cond.selects RX4 yX4_become yX4_become, Cond.initialized RX4, Cond.code yX4_become cX4_become 2 none, Cond.fieldLink RX4 25 "TripleWays$State" "size" "I", Cond.fieldLink RX4 9 "TripleWays$State" "triples" "[I", Cond.fieldLink RX4 15 "TripleWays$State" "kept" "I"]
def wsX6_setWeight_r2 : List Cond := [Cond.fieldLink RX4 32 "TripleWays$State" "upkeepCosts" "I", Cond.fieldLink RX4 35 "TripleWays$State" "buildingCosts" "I", Cond.fieldLink RX4 38 "TripleWays$State" "answerCosts" "I", Cond.fieldLink RX4 41 "TripleWays$State" "asked" "I", Cond.fieldLink RX4 44 "TripleWays$State" "questionCount" "I", Cond.fieldLink RX4 19 "TripleWays$State" "questions" "[I", Cond.fieldLink RX4 22 "TripleWays$State" "weight" "I", Cond.methodLink RX4 28 yX4_copyRow, Cond.static yX4_copyRow, Cond.code yX4_copyRow cX4_copyRow 4 none]
def wsX6_setWeight : List Cond := .code yX6_setWeight cX6_setWeight 3 (some .int) :: ((wsX6_setWeight_r1 ++ wsX6_setWeight_r2) ++ wsX60 ++ wsX40 ++ wsX10 ++ (vx_atS RX6 54 "java/lang/IllegalArgumentException" ["java/lang/RuntimeException", "java/lang/Exception"]).filter goodWord)
def wsX6_undo_r1 : List Cond := [Cond.classLink RX6 61 "java/lang/IllegalStateException", Cond.initialized "java/lang/IllegalStateException", Cond.fieldLink RX6 29 "TripleWays" "history" "LTripleWays$History;", Cond.fieldLink RX6 19 "TripleWays" "now" "LTripleWays$State;", Cond.methodLink RX6 217 yX1_pop, Cond.instanceMethod yX1_pop, Cond.selects RX1 yX1_pop yX1_pop, Cond.initialized RX1, Cond.code yX1_pop cX1_pop 2 (some .int), Cond.fieldLink RX1 18 "TripleWays$History" "size" "I", Cond.methodLink RX1 25 yX1_stateAt, Cond.instanceMethod yX1_stateAt, Cond.selects RX1 yX1_stateAt yX1_stateAt, Cond.code yX1_stateAt cX1_stateAt 3 (some (.object "TripleWays$State")), Cond.fieldLink RX1 22 "TripleWays$History" "oldest" "I", Cond.fieldLink RX1 11 "TripleWays$History" "states" "[LTripleWays$State;", Cond.methodLink RX1 29 yX4_become, Cond.instanceMethod yX4_become, Cond.selects RX4 yX4_become yX4_become, Cond.initialized RX4, Cond.code yX4_become cX4_become 2 none, Cond.fieldLink RX4 25 "TripleWays$State" "size" "I", Cond.fieldLink RX4 9 "TripleWays$State" "triples" "[I", Cond.fieldLink RX4 15 "TripleWays$State" "kept" "I"]
def wsX6_undo_r2 : List Cond := [Cond.fieldLink RX4 32 "TripleWays$State" "upkeepCosts" "I", Cond.fieldLink RX4 35 "TripleWays$State" "buildingCosts" "I", Cond.fieldLink RX4 38 "TripleWays$State" "answerCosts" "I", Cond.fieldLink RX4 41 "TripleWays$State" "asked" "I", Cond.fieldLink RX4 44 "TripleWays$State" "questionCount" "I", Cond.fieldLink RX4 19 "TripleWays$State" "questions" "[I", Cond.fieldLink RX4 22 "TripleWays$State" "weight" "I", Cond.methodLink RX4 28 yX4_copyRow, Cond.static yX4_copyRow, Cond.code yX4_copyRow cX4_copyRow 4 none]
def wsX6_undo : List Cond := .code yX6_undo cX6_undo 1 (some .int) :: ((wsX6_undo_r1 ++ wsX6_undo_r2) ++ wsX60 ++ wsX10 ++ wsX40 ++ (vx_atS RX6 65 "java/lang/IllegalStateException" ["java/lang/RuntimeException", "java/lang/Exception"]).filter goodWord)
def wsX6_value_r1 : List Cond := [Cond.fieldLink RX6 36 "TripleWays" "advice" "LTripleWays$Advice;", Cond.fieldLink RX6 19 "TripleWays" "now" "LTripleWays$State;", Cond.methodLink RX6 145 yX6_needOrder, Cond.static yX6_needOrder, Cond.initialized RX6, Cond.code yX6_needOrder cX6_needOrder 1 none, Cond.classLink RX6 310 "java/lang/IndexOutOfBoundsException", Cond.initialized "java/lang/IndexOutOfBoundsException", Cond.methodLink RX6 220 yX0_learn, Cond.instanceMethod yX0_learn, Cond.selects RX0 yX0_learn yX0_learn, Cond.initialized RX0, Cond.code yX0_learn cX0_learn 7 none, Cond.fieldLink RX0 24 "TripleWays$Advice" "questionCount" "I", Cond.fieldLink RX0 28 "TripleWays$Advice" "fullWalk" "I", Cond.fieldLink RX0 34 "TripleWays$Advice" "kept" "I", Cond.fieldLink RX0 42 "TripleWays$Advice" "upkeep" "I", Cond.fieldLink RX0 15 "TripleWays$Advice" "covers" "[I", Cond.fieldLink RX0 9 "TripleWays$Advice" "costs" "[I", Cond.methodLink RX0 38 yX4_look, Cond.instanceMethod yX4_look, Cond.selects RX4 yX4_look yX4_look, Cond.initialized RX4, Cond.code yX4_look cX4_look 2 (some .int)]
def wsX6_value_r2 : List Cond := [Cond.fieldLink RX4 25 "TripleWays$State" "size" "I", Cond.methodLink RX0 45 yX4_questionAt, Cond.instanceMethod yX4_questionAt, Cond.selects RX4 yX4_questionAt yX4_questionAt, Cond.code yX4_questionAt cX4_questionAt 2 (some .int), Cond.fieldLink RX4 44 "TripleWays$State" "questionCount" "I", Cond.fieldLink RX4 19 "TripleWays$State" "questions" "[I", Cond.methodLink RX0 49 yX4_costBy, Cond.instanceMethod yX4_costBy, Cond.selects RX4 yX4_costBy yX4_costBy, Cond.code yX4_costBy cX4_costBy 4 (some .int), Cond.methodLink RX4 70 yX2_reachOf, Cond.static yX2_reachOf, Cond.initialized RX2, Cond.code yX2_reachOf cX2_reachOf 3 (some .int), Cond.methodLink RX2 15 yX2_componentAt, Cond.static yX2_componentAt, Cond.code yX2_componentAt cX2_componentAt 3 (some .int), Cond.fieldLink RX2 9 "TripleWays$Numbers" "BY" "[I", Cond.methodLink RX2 22 yX2_questionDigit, Cond.static yX2_questionDigit, Cond.code yX2_questionDigit cX2_questionDigit 2 (some .int), Cond.methodLink RX4 62 yX4_look, Cond.methodLink RX4 76 yX2_reachedPart]
def wsX6_value_r3 : List Cond := [Cond.static yX2_reachedPart, Cond.code yX2_reachedPart cX2_reachedPart 6 (some .int), Cond.methodLink RX2 32 yX2_unitOf, Cond.static yX2_unitOf, Cond.code yX2_unitOf cX2_unitOf 1 (some .int), Cond.methodLink RX4 80 yX4_countAnswers, Cond.instanceMethod yX4_countAnswers, Cond.selects RX4 yX4_countAnswers yX4_countAnswers, Cond.code yX4_countAnswers cX4_countAnswers 4 (some .int), Cond.methodLink RX4 54 yX4_tripleAt, Cond.instanceMethod yX4_tripleAt, Cond.selects RX4 yX4_tripleAt yX4_tripleAt, Cond.code yX4_tripleAt cX4_tripleAt 2 (some .int), Cond.fieldLink RX4 9 "TripleWays$State" "triples" "[I", Cond.methodLink RX4 66 yX4_fits, Cond.static yX4_fits, Cond.code yX4_fits cX4_fits 5 (some .boolean), Cond.methodLink RX0 53 yX2_reachesAll, Cond.static yX2_reachesAll, Cond.code yX2_reachesAll cX2_reachesAll 2 (some .boolean), Cond.methodLink RX2 25 yX2_reachOf, Cond.methodLink RX2 28 yX2_countBound, Cond.static yX2_countBound, Cond.code yX2_countBound cX2_countBound 3 (some .int)]
def wsX6_value_r4 : List Cond := [Cond.methodLink RX6 223 yX0_worth, Cond.instanceMethod yX0_worth, Cond.selects RX0 yX0_worth yX0_worth, Cond.code yX0_worth cX0_worth 3 (some .int), Cond.methodLink RX0 67 yX0_costWith, Cond.instanceMethod yX0_costWith, Cond.selects RX0 yX0_costWith yX0_costWith, Cond.code yX0_costWith cX0_costWith 6 (some .int), Cond.methodLink RX0 62 Lib.Math.min.name, Cond.static Lib.Math.min.name, Cond.initialized "java/lang/Math", Cond.code Lib.Math.min.name Lib.Math.min.code 2 (some .int), Cond.methodLink RX0 59 yX0_costAt, Cond.instanceMethod yX0_costAt, Cond.selects RX0 yX0_costAt yX0_costAt, Cond.code yX0_costAt cX0_costAt 4 (some .int)]
def wsX6_value : List Cond := .code yX6_value cX6_value 2 (some .int) :: ((wsX6_value_r1 ++ (wsX6_value_r2 ++ (wsX6_value_r3 ++ wsX6_value_r4))) ++ wsX60 ++ wsX40 ++ wsX00 ++ (vx_atS RX6 314 "java/lang/IndexOutOfBoundsException" ["java/lang/RuntimeException", "java/lang/Exception"]).filter goodWord)
def wsX6_advised_r1 : List Cond := [Cond.fieldLink RX6 36 "TripleWays" "advice" "LTripleWays$Advice;", Cond.fieldLink RX6 19 "TripleWays" "now" "LTripleWays$State;", Cond.methodLink RX6 220 yX0_learn, Cond.instanceMethod yX0_learn, Cond.selects RX0 yX0_learn yX0_learn, Cond.initialized RX0, Cond.code yX0_learn cX0_learn 7 none, Cond.fieldLink RX0 24 "TripleWays$Advice" "questionCount" "I", Cond.fieldLink RX0 28 "TripleWays$Advice" "fullWalk" "I", Cond.fieldLink RX0 34 "TripleWays$Advice" "kept" "I", Cond.fieldLink RX0 42 "TripleWays$Advice" "upkeep" "I", Cond.fieldLink RX0 15 "TripleWays$Advice" "covers" "[I", Cond.fieldLink RX0 9 "TripleWays$Advice" "costs" "[I", Cond.methodLink RX0 38 yX4_look, Cond.instanceMethod yX4_look, Cond.selects RX4 yX4_look yX4_look, Cond.initialized RX4, Cond.code yX4_look cX4_look 2 (some .int), Cond.fieldLink RX4 25 "TripleWays$State" "size" "I", Cond.methodLink RX0 45 yX4_questionAt, Cond.instanceMethod yX4_questionAt, Cond.selects RX4 yX4_questionAt yX4_questionAt, Cond.code yX4_questionAt cX4_questionAt 2 (some .int), Cond.fieldLink RX4 44 "TripleWays$State" "questionCount" "I"]
def wsX6_advised_r2 : List Cond := [Cond.fieldLink RX4 19 "TripleWays$State" "questions" "[I", Cond.methodLink RX0 49 yX4_costBy, Cond.instanceMethod yX4_costBy, Cond.selects RX4 yX4_costBy yX4_costBy, Cond.code yX4_costBy cX4_costBy 4 (some .int), Cond.methodLink RX4 70 yX2_reachOf, Cond.static yX2_reachOf, Cond.initialized RX2, Cond.code yX2_reachOf cX2_reachOf 3 (some .int), Cond.methodLink RX2 15 yX2_componentAt, Cond.static yX2_componentAt, Cond.code yX2_componentAt cX2_componentAt 3 (some .int), Cond.fieldLink RX2 9 "TripleWays$Numbers" "BY" "[I", Cond.methodLink RX2 22 yX2_questionDigit, Cond.static yX2_questionDigit, Cond.code yX2_questionDigit cX2_questionDigit 2 (some .int), Cond.methodLink RX4 62 yX4_look, Cond.methodLink RX4 76 yX2_reachedPart, Cond.static yX2_reachedPart, Cond.code yX2_reachedPart cX2_reachedPart 6 (some .int), Cond.methodLink RX2 32 yX2_unitOf, Cond.static yX2_unitOf, Cond.code yX2_unitOf cX2_unitOf 1 (some .int), Cond.methodLink RX4 80 yX4_countAnswers]
def wsX6_advised_r3 : List Cond := [Cond.instanceMethod yX4_countAnswers, Cond.selects RX4 yX4_countAnswers yX4_countAnswers, Cond.code yX4_countAnswers cX4_countAnswers 4 (some .int), Cond.methodLink RX4 54 yX4_tripleAt, Cond.instanceMethod yX4_tripleAt, Cond.selects RX4 yX4_tripleAt yX4_tripleAt, Cond.code yX4_tripleAt cX4_tripleAt 2 (some .int), Cond.fieldLink RX4 9 "TripleWays$State" "triples" "[I", Cond.methodLink RX4 66 yX4_fits, Cond.static yX4_fits, Cond.code yX4_fits cX4_fits 5 (some .boolean), Cond.methodLink RX0 53 yX2_reachesAll, Cond.static yX2_reachesAll, Cond.code yX2_reachesAll cX2_reachesAll 2 (some .boolean), Cond.methodLink RX2 25 yX2_reachOf, Cond.methodLink RX2 28 yX2_countBound, Cond.static yX2_countBound, Cond.code yX2_countBound cX2_countBound 3 (some .int), Cond.methodLink RX6 226 yX0_orderToBuild, Cond.instanceMethod yX0_orderToBuild, Cond.selects RX0 yX0_orderToBuild yX0_orderToBuild, Cond.code yX0_orderToBuild cX0_orderToBuild 5 (some .int), Cond.methodLink RX0 70 yX0_worth, Cond.instanceMethod yX0_worth]
def wsX6_advised_r4 : List Cond := [Cond.selects RX0 yX0_worth yX0_worth, Cond.code yX0_worth cX0_worth 3 (some .int), Cond.methodLink RX0 67 yX0_costWith, Cond.instanceMethod yX0_costWith, Cond.selects RX0 yX0_costWith yX0_costWith, Cond.code yX0_costWith cX0_costWith 6 (some .int), Cond.methodLink RX0 62 Lib.Math.min.name, Cond.static Lib.Math.min.name, Cond.initialized "java/lang/Math", Cond.code Lib.Math.min.name Lib.Math.min.code 2 (some .int), Cond.methodLink RX0 59 yX0_costAt, Cond.instanceMethod yX0_costAt, Cond.selects RX0 yX0_costAt yX0_costAt, Cond.code yX0_costAt cX0_costAt 4 (some .int)]
def wsX6_advised : List Cond := .code yX6_advised cX6_advised 1 (some .int) :: ((wsX6_advised_r1 ++ (wsX6_advised_r2 ++ (wsX6_advised_r3 ++ wsX6_advised_r4))) ++ wsX60 ++ wsX40 ++ wsX00)
def wsX6_spare_r1 : List Cond := [Cond.fieldLink RX6 36 "TripleWays" "advice" "LTripleWays$Advice;", Cond.fieldLink RX6 19 "TripleWays" "now" "LTripleWays$State;", Cond.methodLink RX6 220 yX0_learn, Cond.instanceMethod yX0_learn, Cond.selects RX0 yX0_learn yX0_learn, Cond.initialized RX0, Cond.code yX0_learn cX0_learn 7 none, Cond.fieldLink RX0 24 "TripleWays$Advice" "questionCount" "I", Cond.fieldLink RX0 28 "TripleWays$Advice" "fullWalk" "I", Cond.fieldLink RX0 34 "TripleWays$Advice" "kept" "I", Cond.fieldLink RX0 42 "TripleWays$Advice" "upkeep" "I", Cond.fieldLink RX0 15 "TripleWays$Advice" "covers" "[I", Cond.fieldLink RX0 9 "TripleWays$Advice" "costs" "[I", Cond.methodLink RX0 38 yX4_look, Cond.instanceMethod yX4_look, Cond.selects RX4 yX4_look yX4_look, Cond.initialized RX4, Cond.code yX4_look cX4_look 2 (some .int), Cond.fieldLink RX4 25 "TripleWays$State" "size" "I", Cond.methodLink RX0 45 yX4_questionAt, Cond.instanceMethod yX4_questionAt, Cond.selects RX4 yX4_questionAt yX4_questionAt, Cond.code yX4_questionAt cX4_questionAt 2 (some .int), Cond.fieldLink RX4 44 "TripleWays$State" "questionCount" "I"]
def wsX6_spare_r2 : List Cond := [Cond.fieldLink RX4 19 "TripleWays$State" "questions" "[I", Cond.methodLink RX0 49 yX4_costBy, Cond.instanceMethod yX4_costBy, Cond.selects RX4 yX4_costBy yX4_costBy, Cond.code yX4_costBy cX4_costBy 4 (some .int), Cond.methodLink RX4 70 yX2_reachOf, Cond.static yX2_reachOf, Cond.initialized RX2, Cond.code yX2_reachOf cX2_reachOf 3 (some .int), Cond.methodLink RX2 15 yX2_componentAt, Cond.static yX2_componentAt, Cond.code yX2_componentAt cX2_componentAt 3 (some .int), Cond.fieldLink RX2 9 "TripleWays$Numbers" "BY" "[I", Cond.methodLink RX2 22 yX2_questionDigit, Cond.static yX2_questionDigit, Cond.code yX2_questionDigit cX2_questionDigit 2 (some .int), Cond.methodLink RX4 62 yX4_look, Cond.methodLink RX4 76 yX2_reachedPart, Cond.static yX2_reachedPart, Cond.code yX2_reachedPart cX2_reachedPart 6 (some .int), Cond.methodLink RX2 32 yX2_unitOf, Cond.static yX2_unitOf, Cond.code yX2_unitOf cX2_unitOf 1 (some .int), Cond.methodLink RX4 80 yX4_countAnswers]
def wsX6_spare_r3 : List Cond := [Cond.instanceMethod yX4_countAnswers, Cond.selects RX4 yX4_countAnswers yX4_countAnswers, Cond.code yX4_countAnswers cX4_countAnswers 4 (some .int), Cond.methodLink RX4 54 yX4_tripleAt, Cond.instanceMethod yX4_tripleAt, Cond.selects RX4 yX4_tripleAt yX4_tripleAt, Cond.code yX4_tripleAt cX4_tripleAt 2 (some .int), Cond.fieldLink RX4 9 "TripleWays$State" "triples" "[I", Cond.methodLink RX4 66 yX4_fits, Cond.static yX4_fits, Cond.code yX4_fits cX4_fits 5 (some .boolean), Cond.methodLink RX0 53 yX2_reachesAll, Cond.static yX2_reachesAll, Cond.code yX2_reachesAll cX2_reachesAll 2 (some .boolean), Cond.methodLink RX2 25 yX2_reachOf, Cond.methodLink RX2 28 yX2_countBound, Cond.static yX2_countBound, Cond.code yX2_countBound cX2_countBound 3 (some .int), Cond.methodLink RX6 229 yX0_orderToDrop, Cond.instanceMethod yX0_orderToDrop, Cond.selects RX0 yX0_orderToDrop yX0_orderToDrop, Cond.code yX0_orderToDrop cX0_orderToDrop 5 (some .int), Cond.methodLink RX0 70 yX0_worth, Cond.instanceMethod yX0_worth]
def wsX6_spare_r4 : List Cond := [Cond.selects RX0 yX0_worth yX0_worth, Cond.code yX0_worth cX0_worth 3 (some .int), Cond.methodLink RX0 67 yX0_costWith, Cond.instanceMethod yX0_costWith, Cond.selects RX0 yX0_costWith yX0_costWith, Cond.code yX0_costWith cX0_costWith 6 (some .int), Cond.methodLink RX0 62 Lib.Math.min.name, Cond.static Lib.Math.min.name, Cond.initialized "java/lang/Math", Cond.code Lib.Math.min.name Lib.Math.min.code 2 (some .int), Cond.methodLink RX0 59 yX0_costAt, Cond.instanceMethod yX0_costAt, Cond.selects RX0 yX0_costAt yX0_costAt, Cond.code yX0_costAt cX0_costAt 4 (some .int)]
def wsX6_spare : List Cond := .code yX6_spare cX6_spare 1 (some .int) :: ((wsX6_spare_r1 ++ (wsX6_spare_r2 ++ (wsX6_spare_r3 ++ wsX6_spare_r4))) ++ wsX60 ++ wsX40 ++ wsX00)
def wsX6_needed_r1 : List Cond := [Cond.fieldLink RX6 36 "TripleWays" "advice" "LTripleWays$Advice;", Cond.fieldLink RX6 19 "TripleWays" "now" "LTripleWays$State;", Cond.methodLink RX6 220 yX0_learn, Cond.instanceMethod yX0_learn, Cond.selects RX0 yX0_learn yX0_learn, Cond.initialized RX0, Cond.code yX0_learn cX0_learn 7 none, Cond.fieldLink RX0 24 "TripleWays$Advice" "questionCount" "I", Cond.fieldLink RX0 28 "TripleWays$Advice" "fullWalk" "I", Cond.fieldLink RX0 34 "TripleWays$Advice" "kept" "I", Cond.fieldLink RX0 42 "TripleWays$Advice" "upkeep" "I", Cond.fieldLink RX0 15 "TripleWays$Advice" "covers" "[I", Cond.fieldLink RX0 9 "TripleWays$Advice" "costs" "[I", Cond.methodLink RX0 38 yX4_look, Cond.instanceMethod yX4_look, Cond.selects RX4 yX4_look yX4_look, Cond.initialized RX4, Cond.code yX4_look cX4_look 2 (some .int), Cond.fieldLink RX4 25 "TripleWays$State" "size" "I", Cond.methodLink RX0 45 yX4_questionAt, Cond.instanceMethod yX4_questionAt, Cond.selects RX4 yX4_questionAt yX4_questionAt, Cond.code yX4_questionAt cX4_questionAt 2 (some .int), Cond.fieldLink RX4 44 "TripleWays$State" "questionCount" "I"]
def wsX6_needed_r2 : List Cond := [Cond.fieldLink RX4 19 "TripleWays$State" "questions" "[I", Cond.methodLink RX0 49 yX4_costBy, Cond.instanceMethod yX4_costBy, Cond.selects RX4 yX4_costBy yX4_costBy, Cond.code yX4_costBy cX4_costBy 4 (some .int), Cond.methodLink RX4 70 yX2_reachOf, Cond.static yX2_reachOf, Cond.initialized RX2, Cond.code yX2_reachOf cX2_reachOf 3 (some .int), Cond.methodLink RX2 15 yX2_componentAt, Cond.static yX2_componentAt, Cond.code yX2_componentAt cX2_componentAt 3 (some .int), Cond.fieldLink RX2 9 "TripleWays$Numbers" "BY" "[I", Cond.methodLink RX2 22 yX2_questionDigit, Cond.static yX2_questionDigit, Cond.code yX2_questionDigit cX2_questionDigit 2 (some .int), Cond.methodLink RX4 62 yX4_look, Cond.methodLink RX4 76 yX2_reachedPart, Cond.static yX2_reachedPart, Cond.code yX2_reachedPart cX2_reachedPart 6 (some .int), Cond.methodLink RX2 32 yX2_unitOf, Cond.static yX2_unitOf, Cond.code yX2_unitOf cX2_unitOf 1 (some .int), Cond.methodLink RX4 80 yX4_countAnswers]
def wsX6_needed_r3 : List Cond := [Cond.instanceMethod yX4_countAnswers, Cond.selects RX4 yX4_countAnswers yX4_countAnswers, Cond.code yX4_countAnswers cX4_countAnswers 4 (some .int), Cond.methodLink RX4 54 yX4_tripleAt, Cond.instanceMethod yX4_tripleAt, Cond.selects RX4 yX4_tripleAt yX4_tripleAt, Cond.code yX4_tripleAt cX4_tripleAt 2 (some .int), Cond.fieldLink RX4 9 "TripleWays$State" "triples" "[I", Cond.methodLink RX4 66 yX4_fits, Cond.static yX4_fits, Cond.code yX4_fits cX4_fits 5 (some .boolean), Cond.methodLink RX0 53 yX2_reachesAll, Cond.static yX2_reachesAll, Cond.code yX2_reachesAll cX2_reachesAll 2 (some .boolean), Cond.methodLink RX2 25 yX2_reachOf, Cond.methodLink RX2 28 yX2_countBound, Cond.static yX2_countBound, Cond.code yX2_countBound cX2_countBound 3 (some .int), Cond.methodLink RX6 232 yX0_smallestCover, Cond.instanceMethod yX0_smallestCover, Cond.selects RX0 yX0_smallestCover yX0_smallestCover, Cond.code yX0_smallestCover cX0_smallestCover 3 (some .int), Cond.methodLink RX0 89 yJ6_bitCount_0f7a4, Cond.static yJ6_bitCount_0f7a4]
def wsX6_needed_r4 : List Cond := [Cond.initialized RJ6, Cond.code yJ6_bitCount_0f7a4 cJ6_bitCount_0f7a4 1 (some .int), Cond.constant RJ6 265 (1431655765), Cond.constant RJ6 266 (858993459), Cond.constant RJ6 267 (252645135), Cond.methodLink RX0 94 yX0_coversAll, Cond.instanceMethod yX0_coversAll, Cond.selects RX0 yX0_coversAll yX0_coversAll, Cond.code yX0_coversAll cX0_coversAll 3 (some .boolean)]
def wsX6_needed : List Cond := .code yX6_needed cX6_needed 1 (some .int) :: ((wsX6_needed_r1 ++ (wsX6_needed_r2 ++ (wsX6_needed_r3 ++ wsX6_needed_r4))) ++ wsX60 ++ wsX40 ++ wsX00)
def wsX6_ifKept_r1 : List Cond := [Cond.classLink RX6 50 "java/lang/IllegalArgumentException", Cond.initialized "java/lang/IllegalArgumentException", Cond.fieldLink RX6 36 "TripleWays" "advice" "LTripleWays$Advice;", Cond.fieldLink RX6 19 "TripleWays" "now" "LTripleWays$State;", Cond.methodLink RX6 220 yX0_learn, Cond.instanceMethod yX0_learn, Cond.selects RX0 yX0_learn yX0_learn, Cond.initialized RX0, Cond.code yX0_learn cX0_learn 7 none, Cond.fieldLink RX0 24 "TripleWays$Advice" "questionCount" "I", Cond.fieldLink RX0 28 "TripleWays$Advice" "fullWalk" "I", Cond.fieldLink RX0 34 "TripleWays$Advice" "kept" "I", Cond.fieldLink RX0 42 "TripleWays$Advice" "upkeep" "I", Cond.fieldLink RX0 15 "TripleWays$Advice" "covers" "[I", Cond.fieldLink RX0 9 "TripleWays$Advice" "costs" "[I", Cond.methodLink RX0 38 yX4_look, Cond.instanceMethod yX4_look, Cond.selects RX4 yX4_look yX4_look, Cond.initialized RX4, Cond.code yX4_look cX4_look 2 (some .int), Cond.fieldLink RX4 25 "TripleWays$State" "size" "I", Cond.methodLink RX0 45 yX4_questionAt, Cond.instanceMethod yX4_questionAt, Cond.selects RX4 yX4_questionAt yX4_questionAt]
def wsX6_ifKept_r2 : List Cond := [Cond.code yX4_questionAt cX4_questionAt 2 (some .int), Cond.fieldLink RX4 44 "TripleWays$State" "questionCount" "I", Cond.fieldLink RX4 19 "TripleWays$State" "questions" "[I", Cond.methodLink RX0 49 yX4_costBy, Cond.instanceMethod yX4_costBy, Cond.selects RX4 yX4_costBy yX4_costBy, Cond.code yX4_costBy cX4_costBy 4 (some .int), Cond.methodLink RX4 70 yX2_reachOf, Cond.static yX2_reachOf, Cond.initialized RX2, Cond.code yX2_reachOf cX2_reachOf 3 (some .int), Cond.methodLink RX2 15 yX2_componentAt, Cond.static yX2_componentAt, Cond.code yX2_componentAt cX2_componentAt 3 (some .int), Cond.fieldLink RX2 9 "TripleWays$Numbers" "BY" "[I", Cond.methodLink RX2 22 yX2_questionDigit, Cond.static yX2_questionDigit, Cond.code yX2_questionDigit cX2_questionDigit 2 (some .int), Cond.methodLink RX4 62 yX4_look, Cond.methodLink RX4 76 yX2_reachedPart, Cond.static yX2_reachedPart, Cond.code yX2_reachedPart cX2_reachedPart 6 (some .int), Cond.methodLink RX2 32 yX2_unitOf, Cond.static yX2_unitOf]
def wsX6_ifKept_r3 : List Cond := [Cond.code yX2_unitOf cX2_unitOf 1 (some .int), Cond.methodLink RX4 80 yX4_countAnswers, Cond.instanceMethod yX4_countAnswers, Cond.selects RX4 yX4_countAnswers yX4_countAnswers, Cond.code yX4_countAnswers cX4_countAnswers 4 (some .int), Cond.methodLink RX4 54 yX4_tripleAt, Cond.instanceMethod yX4_tripleAt, Cond.selects RX4 yX4_tripleAt yX4_tripleAt, Cond.code yX4_tripleAt cX4_tripleAt 2 (some .int), Cond.fieldLink RX4 9 "TripleWays$State" "triples" "[I", Cond.methodLink RX4 66 yX4_fits, Cond.static yX4_fits, Cond.code yX4_fits cX4_fits 5 (some .boolean), Cond.methodLink RX0 53 yX2_reachesAll, Cond.static yX2_reachesAll, Cond.code yX2_reachesAll cX2_reachesAll 2 (some .boolean), Cond.methodLink RX2 25 yX2_reachOf, Cond.methodLink RX2 28 yX2_countBound, Cond.static yX2_countBound, Cond.code yX2_countBound cX2_countBound 3 (some .int), Cond.methodLink RX6 237 yX0_costWith, Cond.instanceMethod yX0_costWith, Cond.selects RX0 yX0_costWith yX0_costWith, Cond.code yX0_costWith cX0_costWith 6 (some .int)]
def wsX6_ifKept_r4 : List Cond := [Cond.methodLink RX0 62 Lib.Math.min.name, Cond.static Lib.Math.min.name, Cond.initialized "java/lang/Math", Cond.code Lib.Math.min.name Lib.Math.min.code 2 (some .int), Cond.methodLink RX0 59 yX0_costAt, Cond.instanceMethod yX0_costAt, Cond.selects RX0 yX0_costAt yX0_costAt, Cond.code yX0_costAt cX0_costAt 4 (some .int)]
def wsX6_ifKept : List Cond := .code yX6_ifKept cX6_ifKept 2 (some .int) :: ((wsX6_ifKept_r1 ++ (wsX6_ifKept_r2 ++ (wsX6_ifKept_r3 ++ wsX6_ifKept_r4))) ++ wsX60 ++ wsX40 ++ wsX00 ++ (vx_atS RX6 54 "java/lang/IllegalArgumentException" ["java/lang/RuntimeException", "java/lang/Exception"]).filter goodWord)
def wsX6_bestSet_r1 : List Cond := [Cond.fieldLink RX6 36 "TripleWays" "advice" "LTripleWays$Advice;", Cond.fieldLink RX6 19 "TripleWays" "now" "LTripleWays$State;", Cond.methodLink RX6 220 yX0_learn, Cond.instanceMethod yX0_learn, Cond.selects RX0 yX0_learn yX0_learn, Cond.initialized RX0, Cond.code yX0_learn cX0_learn 7 none, Cond.fieldLink RX0 24 "TripleWays$Advice" "questionCount" "I", Cond.fieldLink RX0 28 "TripleWays$Advice" "fullWalk" "I", Cond.fieldLink RX0 34 "TripleWays$Advice" "kept" "I", Cond.fieldLink RX0 42 "TripleWays$Advice" "upkeep" "I", Cond.fieldLink RX0 15 "TripleWays$Advice" "covers" "[I", Cond.fieldLink RX0 9 "TripleWays$Advice" "costs" "[I", Cond.methodLink RX0 38 yX4_look, Cond.instanceMethod yX4_look, Cond.selects RX4 yX4_look yX4_look, Cond.initialized RX4, Cond.code yX4_look cX4_look 2 (some .int), Cond.fieldLink RX4 25 "TripleWays$State" "size" "I", Cond.methodLink RX0 45 yX4_questionAt, Cond.instanceMethod yX4_questionAt, Cond.selects RX4 yX4_questionAt yX4_questionAt, Cond.code yX4_questionAt cX4_questionAt 2 (some .int), Cond.fieldLink RX4 44 "TripleWays$State" "questionCount" "I"]
def wsX6_bestSet_r2 : List Cond := [Cond.fieldLink RX4 19 "TripleWays$State" "questions" "[I", Cond.methodLink RX0 49 yX4_costBy, Cond.instanceMethod yX4_costBy, Cond.selects RX4 yX4_costBy yX4_costBy, Cond.code yX4_costBy cX4_costBy 4 (some .int), Cond.methodLink RX4 70 yX2_reachOf, Cond.static yX2_reachOf, Cond.initialized RX2, Cond.code yX2_reachOf cX2_reachOf 3 (some .int), Cond.methodLink RX2 15 yX2_componentAt, Cond.static yX2_componentAt, Cond.code yX2_componentAt cX2_componentAt 3 (some .int), Cond.fieldLink RX2 9 "TripleWays$Numbers" "BY" "[I", Cond.methodLink RX2 22 yX2_questionDigit, Cond.static yX2_questionDigit, Cond.code yX2_questionDigit cX2_questionDigit 2 (some .int), Cond.methodLink RX4 62 yX4_look, Cond.methodLink RX4 76 yX2_reachedPart, Cond.static yX2_reachedPart, Cond.code yX2_reachedPart cX2_reachedPart 6 (some .int), Cond.methodLink RX2 32 yX2_unitOf, Cond.static yX2_unitOf, Cond.code yX2_unitOf cX2_unitOf 1 (some .int), Cond.methodLink RX4 80 yX4_countAnswers]
def wsX6_bestSet_r3 : List Cond := [Cond.instanceMethod yX4_countAnswers, Cond.selects RX4 yX4_countAnswers yX4_countAnswers, Cond.code yX4_countAnswers cX4_countAnswers 4 (some .int), Cond.methodLink RX4 54 yX4_tripleAt, Cond.instanceMethod yX4_tripleAt, Cond.selects RX4 yX4_tripleAt yX4_tripleAt, Cond.code yX4_tripleAt cX4_tripleAt 2 (some .int), Cond.fieldLink RX4 9 "TripleWays$State" "triples" "[I", Cond.methodLink RX4 66 yX4_fits, Cond.static yX4_fits, Cond.code yX4_fits cX4_fits 5 (some .boolean), Cond.methodLink RX0 53 yX2_reachesAll, Cond.static yX2_reachesAll, Cond.code yX2_reachesAll cX2_reachesAll 2 (some .boolean), Cond.methodLink RX2 25 yX2_reachOf, Cond.methodLink RX2 28 yX2_countBound, Cond.static yX2_countBound, Cond.code yX2_countBound cX2_countBound 3 (some .int), Cond.methodLink RX6 240 yX0_cheapestSet, Cond.instanceMethod yX0_cheapestSet, Cond.selects RX0 yX0_cheapestSet yX0_cheapestSet, Cond.code yX0_cheapestSet cX0_cheapestSet 5 (some .int), Cond.methodLink RX0 67 yX0_costWith, Cond.instanceMethod yX0_costWith]
def wsX6_bestSet_r4 : List Cond := [Cond.selects RX0 yX0_costWith yX0_costWith, Cond.code yX0_costWith cX0_costWith 6 (some .int), Cond.methodLink RX0 62 Lib.Math.min.name, Cond.static Lib.Math.min.name, Cond.initialized "java/lang/Math", Cond.code Lib.Math.min.name Lib.Math.min.code 2 (some .int), Cond.methodLink RX0 59 yX0_costAt, Cond.instanceMethod yX0_costAt, Cond.selects RX0 yX0_costAt yX0_costAt, Cond.code yX0_costAt cX0_costAt 4 (some .int), Cond.methodLink RX0 89 yJ6_bitCount_0f7a4, Cond.static yJ6_bitCount_0f7a4, Cond.initialized RJ6, Cond.code yJ6_bitCount_0f7a4 cJ6_bitCount_0f7a4 1 (some .int), Cond.constant RJ6 265 (1431655765), Cond.constant RJ6 266 (858993459), Cond.constant RJ6 267 (252645135)]
def wsX6_bestSet : List Cond := .code yX6_bestSet cX6_bestSet 1 (some .int) :: ((wsX6_bestSet_r1 ++ (wsX6_bestSet_r2 ++ (wsX6_bestSet_r3 ++ wsX6_bestSet_r4))) ++ wsX60 ++ wsX40 ++ wsX00)
def wsJ9_min_7cf53 : List Cond := .code yJ9_min_7cf53 cJ9_min_7cf53 2 (some .int) :: ([])
def wsL_cell : List Cond := .code yL_cell cL_cell 2 (some .int) :: ([])
def wsL_low : List Cond := .code yL_low cL_low 2 (some .int) :: ([.constant RL 7 (2147483647)])
def wsL_digits : List Cond := .code yL_digits cL_digits 1 (some .int) :: ([])
def wsL_question : List Cond := .code yL_question cL_question 4 (some .int) :: ([])
def wsL_does_r1 : List Cond := [Cond.methodLink RL 8 yL_low, Cond.static yL_low, Cond.initialized RL, Cond.code yL_low cL_low 2 (some .int), Cond.constant RL 7 (2147483647), Cond.methodLink RL 14 yX6_about, Cond.instanceMethod yX6_about, Cond.selects RX6 yX6_about yX6_about, Cond.initialized RX6, Cond.code yX6_about cX6_about 2 (some .int), Cond.classLink RX6 50 "java/lang/IllegalArgumentException", Cond.initialized "java/lang/IllegalArgumentException", Cond.fieldLink RX6 19 "TripleWays" "now" "LTripleWays$State;", Cond.methodLink RX6 107 yX4_look, Cond.instanceMethod yX4_look, Cond.selects RX4 yX4_look yX4_look, Cond.initialized RX4, Cond.code yX4_look cX4_look 2 (some .int), Cond.fieldLink RX4 25 "TripleWays$State" "size" "I", Cond.methodLink RL 20 yL_digits, Cond.static yL_digits, Cond.code yL_digits cL_digits 1 (some .int), Cond.methodLink RL 23 yX6_add, Cond.instanceMethod yX6_add]
def wsL_does_r2 : List Cond := [Cond.selects RX6 yX6_add yX6_add, Cond.code yX6_add cX6_add 2 (some .int), Cond.classLink RX6 61 "java/lang/IllegalStateException", Cond.initialized "java/lang/IllegalStateException", Cond.fieldLink RX6 29 "TripleWays" "history" "LTripleWays$History;", Cond.methodLink RX6 167 yX6_needTriple, Cond.static yX6_needTriple, Cond.code yX6_needTriple cX6_needTriple 1 none, Cond.methodLink RX6 170 yX4_canPut, Cond.instanceMethod yX4_canPut, Cond.selects RX4 yX4_canPut yX4_canPut, Cond.code yX4_canPut cX4_canPut 2 (some .boolean), Cond.fieldLink RX4 9 "TripleWays$State" "triples" "[I", Cond.methodLink RX4 47 yX4_indexOf, Cond.instanceMethod yX4_indexOf, Cond.selects RX4 yX4_indexOf yX4_indexOf, Cond.code yX4_indexOf cX4_indexOf 3 (some .int), Cond.methodLink RX4 54 yX4_tripleAt, Cond.instanceMethod yX4_tripleAt, Cond.selects RX4 yX4_tripleAt yX4_tripleAt, Cond.code yX4_tripleAt cX4_tripleAt 2 (some .int), Cond.methodLink RX6 176 yX1_push, Cond.instanceMethod yX1_push, Cond.selects RX1 yX1_push yX1_push]
def wsL_does_r3 : List Cond := [Cond.initialized RX1, Cond.code yX1_push cX1_push 3 none, Cond.fieldLink RX1 18 "TripleWays$History" "size" "I", Cond.fieldLink RX1 22 "TripleWays$History" "oldest" "I", Cond.methodLink RX1 25 yX1_stateAt, Cond.instanceMethod yX1_stateAt, Cond.selects RX1 yX1_stateAt yX1_stateAt, Cond.code yX1_stateAt cX1_stateAt 3 (some (.object "TripleWays$State")), Cond.fieldLink RX1 11 "TripleWays$History" "states" "[LTripleWays$State;", Cond.methodLink RX1 29 yX4_become, Cond.instanceMethod yX4_become, Cond.selects RX4 yX4_become yX4_become, Cond.code yX4_become cX4_become 2 none, Cond.fieldLink RX4 15 "TripleWays$State" "kept" "I", Cond.fieldLink RX4 32 "TripleWays$State" "upkeepCosts" "I", Cond.fieldLink RX4 35 "TripleWays$State" "buildingCosts" "I", Cond.fieldLink RX4 38 "TripleWays$State" "answerCosts" "I", Cond.fieldLink RX4 41 "TripleWays$State" "asked" "I", Cond.fieldLink RX4 44 "TripleWays$State" "questionCount" "I", Cond.fieldLink RX4 19 "TripleWays$State" "questions" "[I", Cond.fieldLink RX4 22 "TripleWays$State" "weight" "I", Cond.methodLink RX4 28 yX4_copyRow, Cond.static yX4_copyRow, Cond.code yX4_copyRow cX4_copyRow 4 none]
def wsL_does_r4 : List Cond := [Cond.methodLink RX6 180 yX4_put, Cond.instanceMethod yX4_put, Cond.selects RX4 yX4_put yX4_put, Cond.code yX4_put cX4_put 2 (some .int), Cond.methodLink RX4 51 yX4_payUpkeep, Cond.instanceMethod yX4_payUpkeep, Cond.selects RX4 yX4_payUpkeep yX4_payUpkeep, Cond.code yX4_payUpkeep cX4_payUpkeep 1 none, Cond.methodLink RX4 57 yJ6_bitCount_0f7a4, Cond.static yJ6_bitCount_0f7a4, Cond.initialized RJ6, Cond.code yJ6_bitCount_0f7a4 cJ6_bitCount_0f7a4 1 (some .int), Cond.constant RJ6 265 (1431655765), Cond.constant RJ6 266 (858993459), Cond.constant RJ6 267 (252645135), Cond.methodLink RX4 62 yX4_look, Cond.methodLink RL 26 yX6_remove, Cond.instanceMethod yX6_remove, Cond.selects RX6 yX6_remove yX6_remove, Cond.code yX6_remove cX6_remove 2 (some .int), Cond.methodLink RX6 189 yX4_take, Cond.instanceMethod yX4_take, Cond.selects RX4 yX4_take yX4_take, Cond.code yX4_take cX4_take 4 (some .int)]
def wsL_does_r5 : List Cond := [Cond.methodLink RL 29 yX6_build, Cond.instanceMethod yX6_build, Cond.selects RX6 yX6_build yX6_build, Cond.code yX6_build cX6_build 2 (some .int), Cond.methodLink RX6 145 yX6_needOrder, Cond.static yX6_needOrder, Cond.code yX6_needOrder cX6_needOrder 1 none, Cond.classLink RX6 310 "java/lang/IndexOutOfBoundsException", Cond.initialized "java/lang/IndexOutOfBoundsException", Cond.methodLink RX6 195 yX4_keeps, Cond.instanceMethod yX4_keeps, Cond.selects RX4 yX4_keeps yX4_keeps, Cond.code yX4_keeps cX4_keeps 2 (some .boolean), Cond.methodLink RX6 200 yX4_keep, Cond.instanceMethod yX4_keep, Cond.selects RX4 yX4_keep yX4_keep, Cond.code yX4_keep cX4_keep 3 (some .int), Cond.methodLink RL 32 yX6_drop, Cond.instanceMethod yX6_drop, Cond.selects RX6 yX6_drop yX6_drop, Cond.code yX6_drop cX6_drop 2 (some .int), Cond.methodLink RX6 205 yX4_discard, Cond.instanceMethod yX4_discard, Cond.selects RX4 yX4_discard yX4_discard]
def wsL_does_r6 : List Cond := [Cond.code yX4_discard cX4_discard 2 (some .int), Cond.methodLink RL 35 yX6_setWeight, Cond.instanceMethod yX6_setWeight, Cond.selects RX6 yX6_setWeight yX6_setWeight, Cond.code yX6_setWeight cX6_setWeight 3 (some .int), Cond.methodLink RL 38 yX6_tidy, Cond.instanceMethod yX6_tidy, Cond.selects RX6 yX6_tidy yX6_tidy, Cond.code yX6_tidy cX6_tidy 1 (some .int), Cond.fieldLink RX6 36 "TripleWays" "advice" "LTripleWays$Advice;", Cond.methodLink RX6 208 yX0_follow, Cond.instanceMethod yX0_follow, Cond.selects RX0 yX0_follow yX0_follow, Cond.initialized RX0, Cond.code yX0_follow cX0_follow 4 (some .int), Cond.methodLink RX0 73 yX0_learn, Cond.instanceMethod yX0_learn, Cond.selects RX0 yX0_learn yX0_learn, Cond.code yX0_learn cX0_learn 7 none, Cond.fieldLink RX0 24 "TripleWays$Advice" "questionCount" "I", Cond.fieldLink RX0 28 "TripleWays$Advice" "fullWalk" "I", Cond.fieldLink RX0 34 "TripleWays$Advice" "kept" "I", Cond.fieldLink RX0 42 "TripleWays$Advice" "upkeep" "I", Cond.fieldLink RX0 15 "TripleWays$Advice" "covers" "[I"]
def wsL_does_r7 : List Cond := [Cond.fieldLink RX0 9 "TripleWays$Advice" "costs" "[I", Cond.methodLink RX0 38 yX4_look, Cond.methodLink RX0 45 yX4_questionAt, Cond.instanceMethod yX4_questionAt, Cond.selects RX4 yX4_questionAt yX4_questionAt, Cond.code yX4_questionAt cX4_questionAt 2 (some .int), Cond.methodLink RX0 49 yX4_costBy, Cond.instanceMethod yX4_costBy, Cond.selects RX4 yX4_costBy yX4_costBy, Cond.code yX4_costBy cX4_costBy 4 (some .int), Cond.methodLink RX4 70 yX2_reachOf, Cond.static yX2_reachOf, Cond.initialized RX2, Cond.code yX2_reachOf cX2_reachOf 3 (some .int), Cond.methodLink RX2 15 yX2_componentAt, Cond.static yX2_componentAt, Cond.code yX2_componentAt cX2_componentAt 3 (some .int), Cond.fieldLink RX2 9 "TripleWays$Numbers" "BY" "[I", Cond.methodLink RX2 22 yX2_questionDigit, Cond.static yX2_questionDigit, Cond.code yX2_questionDigit cX2_questionDigit 2 (some .int), Cond.methodLink RX4 76 yX2_reachedPart, Cond.static yX2_reachedPart, Cond.code yX2_reachedPart cX2_reachedPart 6 (some .int)]
def wsL_does_r8 : List Cond := [Cond.methodLink RX2 32 yX2_unitOf, Cond.static yX2_unitOf, Cond.code yX2_unitOf cX2_unitOf 1 (some .int), Cond.methodLink RX4 80 yX4_countAnswers, Cond.instanceMethod yX4_countAnswers, Cond.selects RX4 yX4_countAnswers yX4_countAnswers, Cond.code yX4_countAnswers cX4_countAnswers 4 (some .int), Cond.methodLink RX4 66 yX4_fits, Cond.static yX4_fits, Cond.code yX4_fits cX4_fits 5 (some .boolean), Cond.methodLink RX0 53 yX2_reachesAll, Cond.static yX2_reachesAll, Cond.code yX2_reachesAll cX2_reachesAll 2 (some .boolean), Cond.methodLink RX2 25 yX2_reachOf, Cond.methodLink RX2 28 yX2_countBound, Cond.static yX2_countBound, Cond.code yX2_countBound cX2_countBound 3 (some .int), Cond.methodLink RX0 77 yX0_orderToBuild, Cond.instanceMethod yX0_orderToBuild, Cond.selects RX0 yX0_orderToBuild yX0_orderToBuild, Cond.code yX0_orderToBuild cX0_orderToBuild 5 (some .int), Cond.methodLink RX0 70 yX0_worth, Cond.instanceMethod yX0_worth, Cond.selects RX0 yX0_worth yX0_worth]
def wsL_does_r9 : List Cond := [Cond.code yX0_worth cX0_worth 3 (some .int), Cond.methodLink RX0 67 yX0_costWith, Cond.instanceMethod yX0_costWith, Cond.selects RX0 yX0_costWith yX0_costWith, Cond.code yX0_costWith cX0_costWith 6 (some .int), Cond.methodLink RX0 62 Lib.Math.min.name, Cond.static Lib.Math.min.name, Cond.initialized "java/lang/Math", Cond.code Lib.Math.min.name Lib.Math.min.code 2 (some .int), Cond.methodLink RX0 59 yX0_costAt, Cond.instanceMethod yX0_costAt, Cond.selects RX0 yX0_costAt yX0_costAt, Cond.code yX0_costAt cX0_costAt 4 (some .int), Cond.methodLink RX0 80 yX4_keep, Cond.methodLink RX0 83 yX0_orderToDrop, Cond.instanceMethod yX0_orderToDrop, Cond.selects RX0 yX0_orderToDrop yX0_orderToDrop, Cond.code yX0_orderToDrop cX0_orderToDrop 5 (some .int), Cond.methodLink RX0 86 yX4_discard, Cond.methodLink RL 42 yL_question, Cond.static yL_question, Cond.code yL_question cL_question 4 (some .int), Cond.methodLink RL 45 yX6_ask, Cond.instanceMethod yX6_ask]
def wsL_does_r10 : List Cond := [Cond.selects RX6 yX6_ask yX6_ask, Cond.code yX6_ask cX6_ask 2 (some .int), Cond.methodLink RX6 129 yX6_needQuestion, Cond.static yX6_needQuestion, Cond.code yX6_needQuestion cX6_needQuestion 1 none, Cond.methodLink RX6 192 yX4_noteQuestion, Cond.instanceMethod yX4_noteQuestion, Cond.selects RX4 yX4_noteQuestion yX4_noteQuestion, Cond.code yX4_noteQuestion cX4_noteQuestion 2 (some .int), Cond.methodLink RX4 114 yX4_costNow, Cond.instanceMethod yX4_costNow, Cond.selects RX4 yX4_costNow yX4_costNow, Cond.code yX4_costNow cX4_costNow 4 (some .int), Cond.methodLink RX4 90 Lib.Math.min.name, Cond.methodLink RX4 83 yX4_keeps, Cond.methodLink RX4 87 yX4_costBy, Cond.methodLink RX4 117 yX4_forgetOldest, Cond.instanceMethod yX4_forgetOldest, Cond.selects RX4 yX4_forgetOldest yX4_forgetOldest, Cond.code yX4_forgetOldest cX4_forgetOldest 2 none]
def wsL_does : List Cond := .code yL_does cL_does 3 (some .int) :: ((wsL_does_r1 ++ (wsL_does_r2 ++ (wsL_does_r3 ++ (wsL_does_r4 ++ (wsL_does_r5 ++ (wsL_does_r6 ++ (wsL_does_r7 ++ (wsL_does_r8 ++ (wsL_does_r9 ++ wsL_does_r10))))))))) ++ wsX60 ++ wsX40 ++ wsX10 ++ wsX00 ++ (vx_atS RX6 54 "java/lang/IllegalArgumentException" ["java/lang/RuntimeException", "java/lang/Exception"]).filter goodWord ++ (vx_atS RX6 65 "java/lang/IllegalStateException" ["java/lang/RuntimeException", "java/lang/Exception"]).filter goodWord ++ (vx_atS RX6 314 "java/lang/IndexOutOfBoundsException" ["java/lang/RuntimeException", "java/lang/Exception"]).filter goodWord)
def wsL_bits : List Cond := .code yL_bits cL_bits 3 (some .int) :: ([])
def wsL_isAnsweredSo_r1 : List Cond := [Cond.methodLink RL 14 yX6_about, Cond.instanceMethod yX6_about, Cond.selects RX6 yX6_about yX6_about, Cond.initialized RX6, Cond.code yX6_about cX6_about 2 (some .int), Cond.classLink RX6 50 "java/lang/IllegalArgumentException", Cond.initialized "java/lang/IllegalArgumentException", Cond.fieldLink RX6 19 "TripleWays" "now" "LTripleWays$State;", Cond.methodLink RX6 107 yX4_look, Cond.instanceMethod yX4_look, Cond.selects RX4 yX4_look yX4_look, Cond.initialized RX4, Cond.code yX4_look cX4_look 2 (some .int), Cond.fieldLink RX4 25 "TripleWays$State" "size" "I", Cond.methodLink RL 48 yX6_cost, Cond.instanceMethod yX6_cost, Cond.selects RX6 yX6_cost yX6_cost, Cond.code yX6_cost cX6_cost 3 (some .int), Cond.methodLink RX6 129 yX6_needQuestion, Cond.static yX6_needQuestion, Cond.code yX6_needQuestion cX6_needQuestion 1 none, Cond.methodLink RX6 112 yX6_needOrderOrNone, Cond.static yX6_needOrderOrNone, Cond.code yX6_needOrderOrNone cX6_needOrderOrNone 1 none]
def wsL_isAnsweredSo_r2 : List Cond := [Cond.methodLink RX6 145 yX6_needOrder, Cond.static yX6_needOrder, Cond.code yX6_needOrder cX6_needOrder 1 none, Cond.classLink RX6 310 "java/lang/IndexOutOfBoundsException", Cond.initialized "java/lang/IndexOutOfBoundsException", Cond.methodLink RX6 135 yX4_costNow, Cond.instanceMethod yX4_costNow, Cond.selects RX4 yX4_costNow yX4_costNow, Cond.code yX4_costNow cX4_costNow 4 (some .int), Cond.methodLink RX4 90 Lib.Math.min.name, Cond.static Lib.Math.min.name, Cond.initialized "java/lang/Math", Cond.code Lib.Math.min.name Lib.Math.min.code 2 (some .int), Cond.methodLink RX4 83 yX4_keeps, Cond.instanceMethod yX4_keeps, Cond.selects RX4 yX4_keeps yX4_keeps, Cond.code yX4_keeps cX4_keeps 2 (some .boolean), Cond.fieldLink RX4 15 "TripleWays$State" "kept" "I", Cond.methodLink RX4 87 yX4_costBy, Cond.instanceMethod yX4_costBy, Cond.selects RX4 yX4_costBy yX4_costBy, Cond.code yX4_costBy cX4_costBy 4 (some .int), Cond.methodLink RX4 70 yX2_reachOf, Cond.static yX2_reachOf]
def wsL_isAnsweredSo_r3 : List Cond := [Cond.initialized RX2, Cond.code yX2_reachOf cX2_reachOf 3 (some .int), Cond.methodLink RX2 15 yX2_componentAt, Cond.static yX2_componentAt, Cond.code yX2_componentAt cX2_componentAt 3 (some .int), Cond.fieldLink RX2 9 "TripleWays$Numbers" "BY" "[I", Cond.methodLink RX2 22 yX2_questionDigit, Cond.static yX2_questionDigit, Cond.code yX2_questionDigit cX2_questionDigit 2 (some .int), Cond.methodLink RX4 62 yX4_look, Cond.methodLink RX4 76 yX2_reachedPart, Cond.static yX2_reachedPart, Cond.code yX2_reachedPart cX2_reachedPart 6 (some .int), Cond.methodLink RX2 32 yX2_unitOf, Cond.static yX2_unitOf, Cond.code yX2_unitOf cX2_unitOf 1 (some .int), Cond.methodLink RX4 80 yX4_countAnswers, Cond.instanceMethod yX4_countAnswers, Cond.selects RX4 yX4_countAnswers yX4_countAnswers, Cond.code yX4_countAnswers cX4_countAnswers 4 (some .int), Cond.methodLink RX4 54 yX4_tripleAt, Cond.instanceMethod yX4_tripleAt, Cond.selects RX4 yX4_tripleAt yX4_tripleAt, Cond.code yX4_tripleAt cX4_tripleAt 2 (some .int)]
def wsL_isAnsweredSo_r4 : List Cond := [Cond.fieldLink RX4 9 "TripleWays$State" "triples" "[I", Cond.methodLink RX4 66 yX4_fits, Cond.static yX4_fits, Cond.code yX4_fits cX4_fits 5 (some .boolean), Cond.methodLink RX6 138 yX4_costBy, Cond.methodLink RL 51 yX6_count, Cond.instanceMethod yX6_count, Cond.selects RX6 yX6_count yX6_count, Cond.code yX6_count cX6_count 2 (some .int), Cond.methodLink RX6 132 yX4_countAnswers, Cond.methodLink RL 54 yX6_by, Cond.instanceMethod yX6_by, Cond.selects RX6 yX6_by yX6_by, Cond.code yX6_by cX6_by 2 (some .int), Cond.methodLink RX6 142 yX4_answeringOrder, Cond.instanceMethod yX4_answeringOrder, Cond.selects RX4 yX4_answeringOrder yX4_answeringOrder, Cond.code yX4_answeringOrder cX4_answeringOrder 6 (some .int), Cond.methodLink RL 57 yX6_answer, Cond.instanceMethod yX6_answer, Cond.selects RX6 yX6_answer yX6_answer, Cond.code yX6_answer cX6_answer 3 (some .int), Cond.methodLink RX6 116 yX6_needPlace, Cond.static yX6_needPlace]
def wsL_isAnsweredSo_r5 : List Cond := [Cond.code yX6_needPlace cX6_needPlace 1 none, Cond.methodLink RX6 119 yX4_answerAt, Cond.instanceMethod yX4_answerAt, Cond.selects RX4 yX4_answerAt yX4_answerAt, Cond.code yX4_answerAt cX4_answerAt 5 (some .int), Cond.methodLink RX4 105 yX4_countBefore, Cond.instanceMethod yX4_countBefore, Cond.selects RX4 yX4_countBefore yX4_countBefore, Cond.code yX4_countBefore cX4_countBefore 7 (some .int), Cond.methodLink RX4 108 yX4_rankAt, Cond.instanceMethod yX4_rankAt, Cond.selects RX4 yX4_rankAt yX4_rankAt, Cond.code yX4_rankAt cX4_rankAt 3 (some .int), Cond.methodLink RX4 111 yX2_rankOf, Cond.static yX2_rankOf, Cond.code yX2_rankOf cX2_rankOf 4 (some .int), Cond.methodLink RX2 19 yX2_tripleDigit, Cond.static yX2_tripleDigit, Cond.code yX2_tripleDigit cX2_tripleDigit 2 (some .int), Cond.methodLink RL 60 yX6_triple, Cond.instanceMethod yX6_triple, Cond.selects RX6 yX6_triple yX6_triple, Cond.code yX6_triple cX6_triple 3 (some .int)]
def wsL_isAnsweredSo : List Cond := .code yL_isAnsweredSo cL_isAnsweredSo 9 (some .boolean) :: ((wsL_isAnsweredSo_r1 ++ (wsL_isAnsweredSo_r2 ++ (wsL_isAnsweredSo_r3 ++ (wsL_isAnsweredSo_r4 ++ wsL_isAnsweredSo_r5)))) ++ wsX60 ++ wsX40 ++ (vx_atS RX6 54 "java/lang/IllegalArgumentException" ["java/lang/RuntimeException", "java/lang/Exception"]).filter goodWord ++ (vx_atS RX6 314 "java/lang/IndexOutOfBoundsException" ["java/lang/RuntimeException", "java/lang/Exception"]).filter goodWord)
def wsL_isEnough_r1 : List Cond := [Cond.methodLink RL 14 yX6_about, Cond.instanceMethod yX6_about, Cond.selects RX6 yX6_about yX6_about, Cond.initialized RX6, Cond.code yX6_about cX6_about 2 (some .int), Cond.classLink RX6 50 "java/lang/IllegalArgumentException", Cond.initialized "java/lang/IllegalArgumentException", Cond.fieldLink RX6 19 "TripleWays" "now" "LTripleWays$State;", Cond.methodLink RX6 107 yX4_look, Cond.instanceMethod yX4_look, Cond.selects RX4 yX4_look yX4_look, Cond.initialized RX4, Cond.code yX4_look cX4_look 2 (some .int), Cond.fieldLink RX4 25 "TripleWays$State" "size" "I", Cond.methodLink RL 63 yX6_remembered, Cond.instanceMethod yX6_remembered, Cond.selects RX6 yX6_remembered yX6_remembered, Cond.code yX6_remembered cX6_remembered 2 (some .int), Cond.methodLink RX6 116 yX6_needPlace, Cond.static yX6_needPlace, Cond.code yX6_needPlace cX6_needPlace 1 none, Cond.methodLink RX6 123 yX4_questionAt, Cond.instanceMethod yX4_questionAt, Cond.selects RX4 yX4_questionAt yX4_questionAt]
def wsL_isEnough_r2 : List Cond := [Cond.code yX4_questionAt cX4_questionAt 2 (some .int), Cond.fieldLink RX4 44 "TripleWays$State" "questionCount" "I", Cond.fieldLink RX4 19 "TripleWays$State" "questions" "[I", Cond.methodLink RL 66 yX6_reach, Cond.instanceMethod yX6_reach, Cond.selects RX6 yX6_reach yX6_reach, Cond.code yX6_reach cX6_reach 3 (some .int), Cond.methodLink RX6 129 yX6_needQuestion, Cond.static yX6_needQuestion, Cond.code yX6_needQuestion cX6_needQuestion 1 none, Cond.methodLink RX6 145 yX6_needOrder, Cond.static yX6_needOrder, Cond.code yX6_needOrder cX6_needOrder 1 none, Cond.classLink RX6 310 "java/lang/IndexOutOfBoundsException", Cond.initialized "java/lang/IndexOutOfBoundsException", Cond.methodLink RX6 148 yX2_reachOf, Cond.static yX2_reachOf, Cond.initialized RX2, Cond.code yX2_reachOf cX2_reachOf 3 (some .int), Cond.methodLink RX2 15 yX2_componentAt, Cond.static yX2_componentAt, Cond.code yX2_componentAt cX2_componentAt 3 (some .int), Cond.fieldLink RX2 9 "TripleWays$Numbers" "BY" "[I", Cond.methodLink RX2 22 yX2_questionDigit]
def wsL_isEnough_r3 : List Cond := [Cond.static yX2_questionDigit, Cond.code yX2_questionDigit cX2_questionDigit 2 (some .int)]
def wsL_isEnough : List Cond := .code yL_isEnough cL_isEnough 8 (some .boolean) :: ((wsL_isEnough_r1 ++ (wsL_isEnough_r2 ++ wsL_isEnough_r3)) ++ wsX60 ++ wsX40 ++ (vx_atS RX6 54 "java/lang/IllegalArgumentException" ["java/lang/RuntimeException", "java/lang/Exception"]).filter goodWord ++ (vx_atS RX6 314 "java/lang/IndexOutOfBoundsException" ["java/lang/RuntimeException", "java/lang/Exception"]).filter goodWord)
def wsL_isAdviceSo_r1 : List Cond := [Cond.methodLink RL 14 yX6_about, Cond.instanceMethod yX6_about, Cond.selects RX6 yX6_about yX6_about, Cond.initialized RX6, Cond.code yX6_about cX6_about 2 (some .int), Cond.classLink RX6 50 "java/lang/IllegalArgumentException", Cond.initialized "java/lang/IllegalArgumentException", Cond.fieldLink RX6 19 "TripleWays" "now" "LTripleWays$State;", Cond.methodLink RX6 107 yX4_look, Cond.instanceMethod yX4_look, Cond.selects RX4 yX4_look yX4_look, Cond.initialized RX4, Cond.code yX4_look cX4_look 2 (some .int), Cond.fieldLink RX4 25 "TripleWays$State" "size" "I", Cond.methodLink RL 69 yX6_weight, Cond.instanceMethod yX6_weight, Cond.selects RX6 yX6_weight yX6_weight, Cond.code yX6_weight cX6_weight 1 (some .int), Cond.methodLink RL 72 yX6_advised, Cond.instanceMethod yX6_advised, Cond.selects RX6 yX6_advised yX6_advised, Cond.code yX6_advised cX6_advised 1 (some .int), Cond.fieldLink RX6 36 "TripleWays" "advice" "LTripleWays$Advice;", Cond.methodLink RX6 220 yX0_learn]
def wsL_isAdviceSo_r2 : List Cond := [Cond.instanceMethod yX0_learn, Cond.selects RX0 yX0_learn yX0_learn, Cond.initialized RX0, Cond.code yX0_learn cX0_learn 7 none, Cond.fieldLink RX0 24 "TripleWays$Advice" "questionCount" "I", Cond.fieldLink RX0 28 "TripleWays$Advice" "fullWalk" "I", Cond.fieldLink RX0 34 "TripleWays$Advice" "kept" "I", Cond.fieldLink RX0 42 "TripleWays$Advice" "upkeep" "I", Cond.fieldLink RX0 15 "TripleWays$Advice" "covers" "[I", Cond.fieldLink RX0 9 "TripleWays$Advice" "costs" "[I", Cond.methodLink RX0 38 yX4_look, Cond.methodLink RX0 45 yX4_questionAt, Cond.instanceMethod yX4_questionAt, Cond.selects RX4 yX4_questionAt yX4_questionAt, Cond.code yX4_questionAt cX4_questionAt 2 (some .int), Cond.fieldLink RX4 44 "TripleWays$State" "questionCount" "I", Cond.fieldLink RX4 19 "TripleWays$State" "questions" "[I", Cond.methodLink RX0 49 yX4_costBy, Cond.instanceMethod yX4_costBy, Cond.selects RX4 yX4_costBy yX4_costBy, Cond.code yX4_costBy cX4_costBy 4 (some .int), Cond.methodLink RX4 70 yX2_reachOf, Cond.static yX2_reachOf, Cond.initialized RX2]
def wsL_isAdviceSo_r3 : List Cond := [Cond.code yX2_reachOf cX2_reachOf 3 (some .int), Cond.methodLink RX2 15 yX2_componentAt, Cond.static yX2_componentAt, Cond.code yX2_componentAt cX2_componentAt 3 (some .int), Cond.fieldLink RX2 9 "TripleWays$Numbers" "BY" "[I", Cond.methodLink RX2 22 yX2_questionDigit, Cond.static yX2_questionDigit, Cond.code yX2_questionDigit cX2_questionDigit 2 (some .int), Cond.methodLink RX4 62 yX4_look, Cond.methodLink RX4 76 yX2_reachedPart, Cond.static yX2_reachedPart, Cond.code yX2_reachedPart cX2_reachedPart 6 (some .int), Cond.methodLink RX2 32 yX2_unitOf, Cond.static yX2_unitOf, Cond.code yX2_unitOf cX2_unitOf 1 (some .int), Cond.methodLink RX4 80 yX4_countAnswers, Cond.instanceMethod yX4_countAnswers, Cond.selects RX4 yX4_countAnswers yX4_countAnswers, Cond.code yX4_countAnswers cX4_countAnswers 4 (some .int), Cond.methodLink RX4 54 yX4_tripleAt, Cond.instanceMethod yX4_tripleAt, Cond.selects RX4 yX4_tripleAt yX4_tripleAt, Cond.code yX4_tripleAt cX4_tripleAt 2 (some .int), Cond.fieldLink RX4 9 "TripleWays$State" "triples" "[I"]
def wsL_isAdviceSo_r4 : List Cond := [Cond.methodLink RX4 66 yX4_fits, Cond.static yX4_fits, Cond.code yX4_fits cX4_fits 5 (some .boolean), Cond.methodLink RX0 53 yX2_reachesAll, Cond.static yX2_reachesAll, Cond.code yX2_reachesAll cX2_reachesAll 2 (some .boolean), Cond.methodLink RX2 25 yX2_reachOf, Cond.methodLink RX2 28 yX2_countBound, Cond.static yX2_countBound, Cond.code yX2_countBound cX2_countBound 3 (some .int), Cond.methodLink RX6 226 yX0_orderToBuild, Cond.instanceMethod yX0_orderToBuild, Cond.selects RX0 yX0_orderToBuild yX0_orderToBuild, Cond.code yX0_orderToBuild cX0_orderToBuild 5 (some .int), Cond.methodLink RX0 70 yX0_worth, Cond.instanceMethod yX0_worth, Cond.selects RX0 yX0_worth yX0_worth, Cond.code yX0_worth cX0_worth 3 (some .int), Cond.methodLink RX0 67 yX0_costWith, Cond.instanceMethod yX0_costWith, Cond.selects RX0 yX0_costWith yX0_costWith, Cond.code yX0_costWith cX0_costWith 6 (some .int), Cond.methodLink RX0 62 Lib.Math.min.name, Cond.static Lib.Math.min.name]
def wsL_isAdviceSo_r5 : List Cond := [Cond.initialized "java/lang/Math", Cond.code Lib.Math.min.name Lib.Math.min.code 2 (some .int), Cond.methodLink RX0 59 yX0_costAt, Cond.instanceMethod yX0_costAt, Cond.selects RX0 yX0_costAt yX0_costAt, Cond.code yX0_costAt cX0_costAt 4 (some .int), Cond.methodLink RL 75 yX6_spare, Cond.instanceMethod yX6_spare, Cond.selects RX6 yX6_spare yX6_spare, Cond.code yX6_spare cX6_spare 1 (some .int), Cond.methodLink RX6 229 yX0_orderToDrop, Cond.instanceMethod yX0_orderToDrop, Cond.selects RX0 yX0_orderToDrop yX0_orderToDrop, Cond.code yX0_orderToDrop cX0_orderToDrop 5 (some .int), Cond.methodLink RL 78 yX6_ifKept, Cond.instanceMethod yX6_ifKept, Cond.selects RX6 yX6_ifKept yX6_ifKept, Cond.code yX6_ifKept cX6_ifKept 2 (some .int), Cond.methodLink RX6 237 yX0_costWith, Cond.methodLink RL 81 yX6_value, Cond.instanceMethod yX6_value, Cond.selects RX6 yX6_value yX6_value, Cond.code yX6_value cX6_value 2 (some .int), Cond.methodLink RX6 145 yX6_needOrder]
def wsL_isAdviceSo_r6 : List Cond := [Cond.static yX6_needOrder, Cond.code yX6_needOrder cX6_needOrder 1 none, Cond.classLink RX6 310 "java/lang/IndexOutOfBoundsException", Cond.initialized "java/lang/IndexOutOfBoundsException", Cond.methodLink RX6 223 yX0_worth, Cond.methodLink RL 84 yX6_bestSet, Cond.instanceMethod yX6_bestSet, Cond.selects RX6 yX6_bestSet yX6_bestSet, Cond.code yX6_bestSet cX6_bestSet 1 (some .int), Cond.methodLink RX6 240 yX0_cheapestSet, Cond.instanceMethod yX0_cheapestSet, Cond.selects RX0 yX0_cheapestSet yX0_cheapestSet, Cond.code yX0_cheapestSet cX0_cheapestSet 5 (some .int), Cond.methodLink RX0 89 yJ6_bitCount_0f7a4, Cond.static yJ6_bitCount_0f7a4, Cond.initialized RJ6, Cond.code yJ6_bitCount_0f7a4 cJ6_bitCount_0f7a4 1 (some .int), Cond.constant RJ6 265 (1431655765), Cond.constant RJ6 266 (858993459), Cond.constant RJ6 267 (252645135), Cond.methodLink RL 87 yL_bits, Cond.static yL_bits, Cond.initialized RL, Cond.code yL_bits cL_bits 3 (some .int)]
def wsL_isAdviceSo_r7 : List Cond := [Cond.methodLink RL 90 yX6_needed, Cond.instanceMethod yX6_needed, Cond.selects RX6 yX6_needed yX6_needed, Cond.code yX6_needed cX6_needed 1 (some .int), Cond.methodLink RX6 232 yX0_smallestCover, Cond.instanceMethod yX0_smallestCover, Cond.selects RX0 yX0_smallestCover yX0_smallestCover, Cond.code yX0_smallestCover cX0_smallestCover 3 (some .int), Cond.methodLink RX0 94 yX0_coversAll, Cond.instanceMethod yX0_coversAll, Cond.selects RX0 yX0_coversAll yX0_coversAll, Cond.code yX0_coversAll cX0_coversAll 3 (some .boolean), Cond.methodLink RL 93 yL_isEnough, Cond.static yL_isEnough, Cond.code yL_isEnough cL_isEnough 8 (some .boolean), Cond.methodLink RL 63 yX6_remembered, Cond.instanceMethod yX6_remembered, Cond.selects RX6 yX6_remembered yX6_remembered, Cond.code yX6_remembered cX6_remembered 2 (some .int), Cond.methodLink RX6 116 yX6_needPlace, Cond.static yX6_needPlace, Cond.code yX6_needPlace cX6_needPlace 1 none, Cond.methodLink RX6 123 yX4_questionAt, Cond.methodLink RL 66 yX6_reach]
def wsL_isAdviceSo_r8 : List Cond := [Cond.instanceMethod yX6_reach, Cond.selects RX6 yX6_reach yX6_reach, Cond.code yX6_reach cX6_reach 3 (some .int), Cond.methodLink RX6 129 yX6_needQuestion, Cond.static yX6_needQuestion, Cond.code yX6_needQuestion cX6_needQuestion 1 none, Cond.methodLink RX6 148 yX2_reachOf]
def wsL_isAdviceSo : List Cond := .code yL_isAdviceSo cL_isAdviceSo 12 (some .boolean) :: ((wsL_isAdviceSo_r1 ++ (wsL_isAdviceSo_r2 ++ (wsL_isAdviceSo_r3 ++ (wsL_isAdviceSo_r4 ++ (wsL_isAdviceSo_r5 ++ (wsL_isAdviceSo_r6 ++ (wsL_isAdviceSo_r7 ++ wsL_isAdviceSo_r8))))))) ++ wsX60 ++ wsX40 ++ wsX00 ++ (vx_atS RX6 54 "java/lang/IllegalArgumentException" ["java/lang/RuntimeException", "java/lang/Exception"]).filter goodWord ++ (vx_atS RX6 314 "java/lang/IndexOutOfBoundsException" ["java/lang/RuntimeException", "java/lang/Exception"]).filter goodWord)
def wsL_law0_r1 : List Cond := [Cond.classLink RL 15 RX6, Cond.instantiable RX6 7, Cond.initialized RX6, Cond.methodLink RL 97 yX6_init, Cond.instanceMethod yX6_init, Cond.code yX6_init cX6_init 1 none, Cond.methodLink RX6 1 objectInit, Cond.instanceMethod objectInit, Cond.code objectInit ⟨#[0xb1]⟩ 1 none, Cond.classLink RX6 7 RX5, Cond.instantiable RX5 2, Cond.initialized RX5, Cond.fieldLink RX6 10 "TripleWays" "text" "LTripleWays$Text;", Cond.classLink RX6 16 RX4, Cond.instantiable RX4 10, Cond.initialized RX4, Cond.fieldLink RX6 19 "TripleWays" "now" "LTripleWays$State;", Cond.fieldLink RX6 23 "TripleWays" "copy" "LTripleWays$State;", Cond.classLink RX6 26 RX1, Cond.instantiable RX1 3, Cond.initialized RX1, Cond.fieldLink RX6 29 "TripleWays" "history" "LTripleWays$History;", Cond.classLink RX6 33 RX0, Cond.instantiable RX0 6]
def wsL_law0_r2 : List Cond := [Cond.initialized RX0, Cond.fieldLink RX6 36 "TripleWays" "advice" "LTripleWays$Advice;", Cond.classLink RX6 40 RX3, Cond.instantiable RX3 2, Cond.initialized RX3, Cond.fieldLink RX6 43 "TripleWays" "firstSlot" "LTripleWays$Slot;", Cond.fieldLink RX6 47 "TripleWays" "secondSlot" "LTripleWays$Slot;", Cond.instanceMethod yX5_init, Cond.code yX5_init cX5_init 1 none, Cond.methodLink RX5 3 objectInit, Cond.arrayClass .char, Cond.fieldLink RX5 9 "TripleWays$Text" "signs" "[C", Cond.instanceMethod yX4_init, Cond.code yX4_init cX4_init 1 none, Cond.methodLink RX4 3 objectInit, Cond.arrayClass .int, Cond.fieldLink RX4 9 "TripleWays$State" "triples" "[I", Cond.fieldLink RX4 15 "TripleWays$State" "kept" "I", Cond.fieldLink RX4 19 "TripleWays$State" "questions" "[I", Cond.fieldLink RX4 22 "TripleWays$State" "weight" "I", Cond.methodLink RX6 28 yX1_init, Cond.instanceMethod yX1_init, Cond.code yX1_init cX1_init 2 none, Cond.methodLink RX1 3 objectInit]
def wsL_law0_r3 : List Cond := [Cond.classLink RX1 9 RX4, Cond.fieldLink RX1 11 "TripleWays$History" "states" "[LTripleWays$State;", Cond.instanceMethod yX0_init, Cond.code yX0_init cX0_init 1 none, Cond.methodLink RX0 3 objectInit, Cond.fieldLink RX0 9 "TripleWays$Advice" "costs" "[I", Cond.fieldLink RX0 15 "TripleWays$Advice" "covers" "[I", Cond.instanceMethod yX3_init, Cond.code yX3_init cX3_init 1 none, Cond.methodLink RX3 1 objectInit, Cond.classLink RX3 7 RX4, Cond.fieldLink RX3 10 "TripleWays$Slot" "state" "LTripleWays$State;", Cond.methodLink RL 98 yL_cell, Cond.static yL_cell, Cond.initialized RL, Cond.code yL_cell cL_cell 2 (some .int), Cond.methodLink RL 102 yL_does, Cond.static yL_does, Cond.code yL_does cL_does 3 (some .int), Cond.methodLink RL 8 yL_low, Cond.static yL_low, Cond.code yL_low cL_low 2 (some .int), Cond.constant RL 7 (2147483647), Cond.methodLink RL 14 yX6_about]
def wsL_law0_r4 : List Cond := [Cond.instanceMethod yX6_about, Cond.selects RX6 yX6_about yX6_about, Cond.code yX6_about cX6_about 2 (some .int), Cond.classLink RX6 50 "java/lang/IllegalArgumentException", Cond.initialized "java/lang/IllegalArgumentException", Cond.methodLink RX6 107 yX4_look, Cond.instanceMethod yX4_look, Cond.selects RX4 yX4_look yX4_look, Cond.code yX4_look cX4_look 2 (some .int), Cond.fieldLink RX4 25 "TripleWays$State" "size" "I", Cond.methodLink RL 20 yL_digits, Cond.static yL_digits, Cond.code yL_digits cL_digits 1 (some .int), Cond.methodLink RL 23 yX6_add, Cond.instanceMethod yX6_add, Cond.selects RX6 yX6_add yX6_add, Cond.code yX6_add cX6_add 2 (some .int), Cond.classLink RX6 61 "java/lang/IllegalStateException", Cond.initialized "java/lang/IllegalStateException", Cond.methodLink RX6 167 yX6_needTriple, Cond.static yX6_needTriple, Cond.code yX6_needTriple cX6_needTriple 1 none, Cond.methodLink RX6 170 yX4_canPut, Cond.instanceMethod yX4_canPut]
def wsL_law0_r5 : List Cond := [Cond.selects RX4 yX4_canPut yX4_canPut, Cond.code yX4_canPut cX4_canPut 2 (some .boolean), Cond.methodLink RX4 47 yX4_indexOf, Cond.instanceMethod yX4_indexOf, Cond.selects RX4 yX4_indexOf yX4_indexOf, Cond.code yX4_indexOf cX4_indexOf 3 (some .int), Cond.methodLink RX4 54 yX4_tripleAt, Cond.instanceMethod yX4_tripleAt, Cond.selects RX4 yX4_tripleAt yX4_tripleAt, Cond.code yX4_tripleAt cX4_tripleAt 2 (some .int), Cond.methodLink RX6 176 yX1_push, Cond.instanceMethod yX1_push, Cond.selects RX1 yX1_push yX1_push, Cond.code yX1_push cX1_push 3 none, Cond.fieldLink RX1 18 "TripleWays$History" "size" "I", Cond.fieldLink RX1 22 "TripleWays$History" "oldest" "I", Cond.methodLink RX1 25 yX1_stateAt, Cond.instanceMethod yX1_stateAt, Cond.selects RX1 yX1_stateAt yX1_stateAt, Cond.code yX1_stateAt cX1_stateAt 3 (some (.object "TripleWays$State")), Cond.methodLink RX1 29 yX4_become, Cond.instanceMethod yX4_become, Cond.selects RX4 yX4_become yX4_become, Cond.code yX4_become cX4_become 2 none]
def wsL_law0_r6 : List Cond := [Cond.fieldLink RX4 32 "TripleWays$State" "upkeepCosts" "I", Cond.fieldLink RX4 35 "TripleWays$State" "buildingCosts" "I", Cond.fieldLink RX4 38 "TripleWays$State" "answerCosts" "I", Cond.fieldLink RX4 41 "TripleWays$State" "asked" "I", Cond.fieldLink RX4 44 "TripleWays$State" "questionCount" "I", Cond.methodLink RX4 28 yX4_copyRow, Cond.static yX4_copyRow, Cond.code yX4_copyRow cX4_copyRow 4 none, Cond.methodLink RX6 180 yX4_put, Cond.instanceMethod yX4_put, Cond.selects RX4 yX4_put yX4_put, Cond.code yX4_put cX4_put 2 (some .int), Cond.methodLink RX4 51 yX4_payUpkeep, Cond.instanceMethod yX4_payUpkeep, Cond.selects RX4 yX4_payUpkeep yX4_payUpkeep, Cond.code yX4_payUpkeep cX4_payUpkeep 1 none, Cond.methodLink RX4 57 yJ6_bitCount_0f7a4, Cond.static yJ6_bitCount_0f7a4, Cond.initialized RJ6, Cond.code yJ6_bitCount_0f7a4 cJ6_bitCount_0f7a4 1 (some .int), Cond.constant RJ6 265 (1431655765), Cond.constant RJ6 266 (858993459), Cond.constant RJ6 267 (252645135), Cond.methodLink RX4 62 yX4_look]
def wsL_law0_r7 : List Cond := [Cond.methodLink RL 26 yX6_remove, Cond.instanceMethod yX6_remove, Cond.selects RX6 yX6_remove yX6_remove, Cond.code yX6_remove cX6_remove 2 (some .int), Cond.methodLink RX6 189 yX4_take, Cond.instanceMethod yX4_take, Cond.selects RX4 yX4_take yX4_take, Cond.code yX4_take cX4_take 4 (some .int), Cond.methodLink RL 29 yX6_build, Cond.instanceMethod yX6_build, Cond.selects RX6 yX6_build yX6_build, Cond.code yX6_build cX6_build 2 (some .int), Cond.methodLink RX6 145 yX6_needOrder, Cond.static yX6_needOrder, Cond.code yX6_needOrder cX6_needOrder 1 none, Cond.classLink RX6 310 "java/lang/IndexOutOfBoundsException", Cond.initialized "java/lang/IndexOutOfBoundsException", Cond.methodLink RX6 195 yX4_keeps, Cond.instanceMethod yX4_keeps, Cond.selects RX4 yX4_keeps yX4_keeps, Cond.code yX4_keeps cX4_keeps 2 (some .boolean), Cond.methodLink RX6 200 yX4_keep, Cond.instanceMethod yX4_keep, Cond.selects RX4 yX4_keep yX4_keep]
def wsL_law0_r8 : List Cond := [Cond.code yX4_keep cX4_keep 3 (some .int), Cond.methodLink RL 32 yX6_drop, Cond.instanceMethod yX6_drop, Cond.selects RX6 yX6_drop yX6_drop, Cond.code yX6_drop cX6_drop 2 (some .int), Cond.methodLink RX6 205 yX4_discard, Cond.instanceMethod yX4_discard, Cond.selects RX4 yX4_discard yX4_discard, Cond.code yX4_discard cX4_discard 2 (some .int), Cond.methodLink RL 35 yX6_setWeight, Cond.instanceMethod yX6_setWeight, Cond.selects RX6 yX6_setWeight yX6_setWeight, Cond.code yX6_setWeight cX6_setWeight 3 (some .int), Cond.methodLink RL 38 yX6_tidy, Cond.instanceMethod yX6_tidy, Cond.selects RX6 yX6_tidy yX6_tidy, Cond.code yX6_tidy cX6_tidy 1 (some .int), Cond.methodLink RX6 208 yX0_follow, Cond.instanceMethod yX0_follow, Cond.selects RX0 yX0_follow yX0_follow, Cond.code yX0_follow cX0_follow 4 (some .int), Cond.methodLink RX0 73 yX0_learn, Cond.instanceMethod yX0_learn, Cond.selects RX0 yX0_learn yX0_learn]
def wsL_law0_r9 : List Cond := [Cond.code yX0_learn cX0_learn 7 none, Cond.fieldLink RX0 24 "TripleWays$Advice" "questionCount" "I", Cond.fieldLink RX0 28 "TripleWays$Advice" "fullWalk" "I", Cond.fieldLink RX0 34 "TripleWays$Advice" "kept" "I", Cond.fieldLink RX0 42 "TripleWays$Advice" "upkeep" "I", Cond.methodLink RX0 38 yX4_look, Cond.methodLink RX0 45 yX4_questionAt, Cond.instanceMethod yX4_questionAt, Cond.selects RX4 yX4_questionAt yX4_questionAt, Cond.code yX4_questionAt cX4_questionAt 2 (some .int), Cond.methodLink RX0 49 yX4_costBy, Cond.instanceMethod yX4_costBy, Cond.selects RX4 yX4_costBy yX4_costBy, Cond.code yX4_costBy cX4_costBy 4 (some .int), Cond.methodLink RX4 70 yX2_reachOf, Cond.static yX2_reachOf, Cond.initialized RX2, Cond.code yX2_reachOf cX2_reachOf 3 (some .int), Cond.methodLink RX2 15 yX2_componentAt, Cond.static yX2_componentAt, Cond.code yX2_componentAt cX2_componentAt 3 (some .int), Cond.fieldLink RX2 9 "TripleWays$Numbers" "BY" "[I", Cond.methodLink RX2 22 yX2_questionDigit, Cond.static yX2_questionDigit]
def wsL_law0_r10 : List Cond := [Cond.code yX2_questionDigit cX2_questionDigit 2 (some .int), Cond.methodLink RX4 76 yX2_reachedPart, Cond.static yX2_reachedPart, Cond.code yX2_reachedPart cX2_reachedPart 6 (some .int), Cond.methodLink RX2 32 yX2_unitOf, Cond.static yX2_unitOf, Cond.code yX2_unitOf cX2_unitOf 1 (some .int), Cond.methodLink RX4 80 yX4_countAnswers, Cond.instanceMethod yX4_countAnswers, Cond.selects RX4 yX4_countAnswers yX4_countAnswers, Cond.code yX4_countAnswers cX4_countAnswers 4 (some .int), Cond.methodLink RX4 66 yX4_fits, Cond.static yX4_fits, Cond.code yX4_fits cX4_fits 5 (some .boolean), Cond.methodLink RX0 53 yX2_reachesAll, Cond.static yX2_reachesAll, Cond.code yX2_reachesAll cX2_reachesAll 2 (some .boolean), Cond.methodLink RX2 25 yX2_reachOf, Cond.methodLink RX2 28 yX2_countBound, Cond.static yX2_countBound, Cond.code yX2_countBound cX2_countBound 3 (some .int), Cond.methodLink RX0 77 yX0_orderToBuild, Cond.instanceMethod yX0_orderToBuild, Cond.selects RX0 yX0_orderToBuild yX0_orderToBuild]
def wsL_law0_r11 : List Cond := [Cond.code yX0_orderToBuild cX0_orderToBuild 5 (some .int), Cond.methodLink RX0 70 yX0_worth, Cond.instanceMethod yX0_worth, Cond.selects RX0 yX0_worth yX0_worth, Cond.code yX0_worth cX0_worth 3 (some .int), Cond.methodLink RX0 67 yX0_costWith, Cond.instanceMethod yX0_costWith, Cond.selects RX0 yX0_costWith yX0_costWith, Cond.code yX0_costWith cX0_costWith 6 (some .int), Cond.methodLink RX0 62 Lib.Math.min.name, Cond.static Lib.Math.min.name, Cond.initialized "java/lang/Math", Cond.code Lib.Math.min.name Lib.Math.min.code 2 (some .int), Cond.methodLink RX0 59 yX0_costAt, Cond.instanceMethod yX0_costAt, Cond.selects RX0 yX0_costAt yX0_costAt, Cond.code yX0_costAt cX0_costAt 4 (some .int), Cond.methodLink RX0 80 yX4_keep, Cond.methodLink RX0 83 yX0_orderToDrop, Cond.instanceMethod yX0_orderToDrop, Cond.selects RX0 yX0_orderToDrop yX0_orderToDrop, Cond.code yX0_orderToDrop cX0_orderToDrop 5 (some .int), Cond.methodLink RX0 86 yX4_discard, Cond.methodLink RL 42 yL_question]
def wsL_law0_r12 : List Cond := [Cond.static yL_question, Cond.code yL_question cL_question 4 (some .int), Cond.methodLink RL 45 yX6_ask, Cond.instanceMethod yX6_ask, Cond.selects RX6 yX6_ask yX6_ask, Cond.code yX6_ask cX6_ask 2 (some .int), Cond.methodLink RX6 129 yX6_needQuestion, Cond.static yX6_needQuestion, Cond.code yX6_needQuestion cX6_needQuestion 1 none, Cond.methodLink RX6 192 yX4_noteQuestion, Cond.instanceMethod yX4_noteQuestion, Cond.selects RX4 yX4_noteQuestion yX4_noteQuestion, Cond.code yX4_noteQuestion cX4_noteQuestion 2 (some .int), Cond.methodLink RX4 114 yX4_costNow, Cond.instanceMethod yX4_costNow, Cond.selects RX4 yX4_costNow yX4_costNow, Cond.code yX4_costNow cX4_costNow 4 (some .int), Cond.methodLink RX4 90 Lib.Math.min.name, Cond.methodLink RX4 83 yX4_keeps, Cond.methodLink RX4 87 yX4_costBy, Cond.methodLink RX4 117 yX4_forgetOldest, Cond.instanceMethod yX4_forgetOldest, Cond.selects RX4 yX4_forgetOldest yX4_forgetOldest, Cond.code yX4_forgetOldest cX4_forgetOldest 2 none]
def wsL_law0_r13 : List Cond := [Cond.methodLink RL 48 yX6_cost, Cond.instanceMethod yX6_cost, Cond.selects RX6 yX6_cost yX6_cost, Cond.code yX6_cost cX6_cost 3 (some .int), Cond.methodLink RX6 112 yX6_needOrderOrNone, Cond.static yX6_needOrderOrNone, Cond.code yX6_needOrderOrNone cX6_needOrderOrNone 1 none, Cond.methodLink RX6 135 yX4_costNow, Cond.methodLink RX6 138 yX4_costBy, Cond.methodLink RL 63 yX6_remembered, Cond.instanceMethod yX6_remembered, Cond.selects RX6 yX6_remembered yX6_remembered, Cond.code yX6_remembered cX6_remembered 2 (some .int), Cond.methodLink RX6 116 yX6_needPlace, Cond.static yX6_needPlace, Cond.code yX6_needPlace cX6_needPlace 1 none, Cond.methodLink RX6 123 yX4_questionAt, Cond.methodLink RL 51 yX6_count, Cond.instanceMethod yX6_count, Cond.selects RX6 yX6_count yX6_count, Cond.code yX6_count cX6_count 2 (some .int), Cond.methodLink RX6 132 yX4_countAnswers, Cond.methodLink RL 106 yX6_undo, Cond.instanceMethod yX6_undo]
def wsL_law0_r14 : List Cond := [Cond.selects RX6 yX6_undo yX6_undo, Cond.code yX6_undo cX6_undo 1 (some .int), Cond.methodLink RX6 217 yX1_pop, Cond.instanceMethod yX1_pop, Cond.selects RX1 yX1_pop yX1_pop, Cond.code yX1_pop cX1_pop 2 (some .int), Cond.methodLink RL 109 yL_isAnsweredSo, Cond.static yL_isAnsweredSo, Cond.code yL_isAnsweredSo cL_isAnsweredSo 9 (some .boolean), Cond.methodLink RL 54 yX6_by, Cond.instanceMethod yX6_by, Cond.selects RX6 yX6_by yX6_by, Cond.code yX6_by cX6_by 2 (some .int), Cond.methodLink RX6 142 yX4_answeringOrder, Cond.instanceMethod yX4_answeringOrder, Cond.selects RX4 yX4_answeringOrder yX4_answeringOrder, Cond.code yX4_answeringOrder cX4_answeringOrder 6 (some .int), Cond.methodLink RL 57 yX6_answer, Cond.instanceMethod yX6_answer, Cond.selects RX6 yX6_answer yX6_answer, Cond.code yX6_answer cX6_answer 3 (some .int), Cond.methodLink RX6 119 yX4_answerAt, Cond.instanceMethod yX4_answerAt, Cond.selects RX4 yX4_answerAt yX4_answerAt]
def wsL_law0_r15 : List Cond := [Cond.code yX4_answerAt cX4_answerAt 5 (some .int), Cond.methodLink RX4 105 yX4_countBefore, Cond.instanceMethod yX4_countBefore, Cond.selects RX4 yX4_countBefore yX4_countBefore, Cond.code yX4_countBefore cX4_countBefore 7 (some .int), Cond.methodLink RX4 108 yX4_rankAt, Cond.instanceMethod yX4_rankAt, Cond.selects RX4 yX4_rankAt yX4_rankAt, Cond.code yX4_rankAt cX4_rankAt 3 (some .int), Cond.methodLink RX4 111 yX2_rankOf, Cond.static yX2_rankOf, Cond.code yX2_rankOf cX2_rankOf 4 (some .int), Cond.methodLink RX2 19 yX2_tripleDigit, Cond.static yX2_tripleDigit, Cond.code yX2_tripleDigit cX2_tripleDigit 2 (some .int), Cond.methodLink RL 60 yX6_triple, Cond.instanceMethod yX6_triple, Cond.selects RX6 yX6_triple yX6_triple, Cond.code yX6_triple cX6_triple 3 (some .int), Cond.methodLink RL 112 yL_isAdviceSo, Cond.static yL_isAdviceSo, Cond.code yL_isAdviceSo cL_isAdviceSo 12 (some .boolean), Cond.methodLink RL 69 yX6_weight, Cond.instanceMethod yX6_weight]
def wsL_law0_r16 : List Cond := [Cond.selects RX6 yX6_weight yX6_weight, Cond.code yX6_weight cX6_weight 1 (some .int), Cond.methodLink RL 72 yX6_advised, Cond.instanceMethod yX6_advised, Cond.selects RX6 yX6_advised yX6_advised, Cond.code yX6_advised cX6_advised 1 (some .int), Cond.methodLink RX6 220 yX0_learn, Cond.methodLink RX6 226 yX0_orderToBuild, Cond.methodLink RL 75 yX6_spare, Cond.instanceMethod yX6_spare, Cond.selects RX6 yX6_spare yX6_spare, Cond.code yX6_spare cX6_spare 1 (some .int), Cond.methodLink RX6 229 yX0_orderToDrop, Cond.methodLink RL 78 yX6_ifKept, Cond.instanceMethod yX6_ifKept, Cond.selects RX6 yX6_ifKept yX6_ifKept, Cond.code yX6_ifKept cX6_ifKept 2 (some .int), Cond.methodLink RX6 237 yX0_costWith, Cond.methodLink RL 81 yX6_value, Cond.instanceMethod yX6_value, Cond.selects RX6 yX6_value yX6_value, Cond.code yX6_value cX6_value 2 (some .int), Cond.methodLink RX6 223 yX0_worth, Cond.methodLink RL 84 yX6_bestSet]
def wsL_law0_r17 : List Cond := [Cond.instanceMethod yX6_bestSet, Cond.selects RX6 yX6_bestSet yX6_bestSet, Cond.code yX6_bestSet cX6_bestSet 1 (some .int), Cond.methodLink RX6 240 yX0_cheapestSet, Cond.instanceMethod yX0_cheapestSet, Cond.selects RX0 yX0_cheapestSet yX0_cheapestSet, Cond.code yX0_cheapestSet cX0_cheapestSet 5 (some .int), Cond.methodLink RX0 89 yJ6_bitCount_0f7a4, Cond.methodLink RL 87 yL_bits, Cond.static yL_bits, Cond.code yL_bits cL_bits 3 (some .int), Cond.methodLink RL 90 yX6_needed, Cond.instanceMethod yX6_needed, Cond.selects RX6 yX6_needed yX6_needed, Cond.code yX6_needed cX6_needed 1 (some .int), Cond.methodLink RX6 232 yX0_smallestCover, Cond.instanceMethod yX0_smallestCover, Cond.selects RX0 yX0_smallestCover yX0_smallestCover, Cond.code yX0_smallestCover cX0_smallestCover 3 (some .int), Cond.methodLink RX0 94 yX0_coversAll, Cond.instanceMethod yX0_coversAll, Cond.selects RX0 yX0_coversAll yX0_coversAll, Cond.code yX0_coversAll cX0_coversAll 3 (some .boolean), Cond.methodLink RL 93 yL_isEnough]
def wsL_law0_r18 : List Cond := [Cond.static yL_isEnough, Cond.code yL_isEnough cL_isEnough 8 (some .boolean), Cond.methodLink RL 66 yX6_reach, Cond.instanceMethod yX6_reach, Cond.selects RX6 yX6_reach yX6_reach, Cond.code yX6_reach cX6_reach 3 (some .int), Cond.methodLink RX6 148 yX2_reachOf]
def wsL_law0 : List Cond := (wsL_law0_r1 ++ (wsL_law0_r2 ++ (wsL_law0_r3 ++ (wsL_law0_r4 ++ (wsL_law0_r5 ++ (wsL_law0_r6 ++ (wsL_law0_r7 ++ (wsL_law0_r8 ++ (wsL_law0_r9 ++ (wsL_law0_r10 ++ (wsL_law0_r11 ++ (wsL_law0_r12 ++ (wsL_law0_r13 ++ (wsL_law0_r14 ++ (wsL_law0_r15 ++ (wsL_law0_r16 ++ (wsL_law0_r17 ++ wsL_law0_r18))))))))))))))))) ++ wsX60 ++ wsX50 ++ wsX40 ++ wsX10 ++ wsX00 ++ wsX30 ++ ([] : List Cond)
def wsL_law : List Cond := wsL_law0 ++ (vx_atS RX6 54 "java/lang/IllegalArgumentException" ["java/lang/RuntimeException", "java/lang/Exception"]).filter goodWord ++ (vx_atS RX6 65 "java/lang/IllegalStateException" ["java/lang/RuntimeException", "java/lang/Exception"]).filter goodWord ++ (vx_atS RX6 314 "java/lang/IndexOutOfBoundsException" ["java/lang/RuntimeException", "java/lang/Exception"]).filter goodWord
end
section
set_option maxRecDepth 20000 in
theorem in_wsL_law0_r1 : ∀ w ∈ wsL_law0_r1, w ∈ lw_tbl := fun w h => (goodIn_r (big := lw_tbl) wsL_law0_r1 [25, 26, 10, 27, 28, 29, 30, 31, 32, 33, 34, 11, 155, 46, 47, 12, 156, 157, 96, 97, 13, 158, 116, 117] (by decide +kernel) (by decide +kernel) w h).1
set_option maxRecDepth 20000 in
theorem in_wsL_law0_r2 : ∀ w ∈ wsL_law0_r2, w ∈ lw_tbl := fun w h => (goodIn_r (big := lw_tbl) wsL_law0_r2 [14, 159, 141, 142, 15, 160, 161, 36, 37, 38, 45, 39, 49, 50, 51, 95, 52, 56, 67, 71, 98, 99, 100, 101] (by decide +kernel) (by decide +kernel) w h).1
set_option maxRecDepth 20000 in
theorem in_wsL_law0_r3 : ∀ w ∈ wsL_law0_r3, w ∈ lw_tbl := fun w h => (goodIn_r (big := lw_tbl) wsL_law0_r3 [102, 105, 119, 120, 121, 122, 123, 144, 145, 146, 147, 149, 397, 398, 9, 399, 403, 404, 405, 406, 407, 408, 409, 177] (by decide +kernel) (by decide +kernel) w h).1
set_option maxRecDepth 20000 in
theorem in_wsL_law0_r4 : ∀ w ∈ wsL_law0_r4, w ∈ lw_tbl := fun w h => (goodIn_r (big := lw_tbl) wsL_law0_r4 [178, 179, 180, 185, 19, 181, 182, 183, 184, 53, 410, 411, 412, 413, 414, 415, 416, 377, 20, 417, 418, 419, 421, 422] (by decide +kernel) (by decide +kernel) w h).1
set_option maxRecDepth 20000 in
theorem in_wsL_law0_r5 : ∀ w ∈ wsL_law0_r5, w ∈ lw_tbl := fun w h => (goodIn_r (big := lw_tbl) wsL_law0_r5 [423, 424, 425, 427, 3, 428, 277, 278, 279, 280, 349, 350, 351, 352, 107, 106, 353, 355, 1, 356, 357, 358, 359, 360] (by decide +kernel) (by decide +kernel) w h).1
set_option maxRecDepth 20000 in
theorem in_wsL_law0_r6 : ∀ w ∈ wsL_law0_r6, w ∈ lw_tbl := fun w h => (goodIn_r (big := lw_tbl) wsL_law0_r6 [59, 61, 63, 65, 69, 361, 362, 363, 430, 431, 432, 433, 434, 436, 4, 437, 438, 439, 21, 440, 441, 442, 443, 333] (by decide +kernel) (by decide +kernel) w h).1
set_option maxRecDepth 20000 in
theorem in_wsL_law0_r7 : ∀ w ∈ wsL_law0_r7, w ∈ lw_tbl := fun w h => (goodIn_r (big := lw_tbl) wsL_law0_r7 [444, 445, 446, 447, 448, 449, 450, 451, 452, 453, 454, 455, 291, 292, 293, 294, 22, 456, 315, 316, 317, 458, 459, 460] (by decide +kernel) (by decide +kernel) w h).1
set_option maxRecDepth 20000 in
theorem in_wsL_law0_r8 : ∀ w ∈ wsL_law0_r8, w ∈ lw_tbl := fun w h => (goodIn_r (big := lw_tbl) wsL_law0_r8 [461, 462, 463, 464, 465, 467, 468, 469, 470, 471, 472, 473, 474, 476, 477, 478, 479, 480, 481, 482, 483, 484, 485, 486] (by decide +kernel) (by decide +kernel) w h).1
set_option maxRecDepth 20000 in
theorem in_wsL_law0_r9 : ∀ w ∈ wsL_law0_r9, w ∈ lw_tbl := fun w h => (goodIn_r (big := lw_tbl) wsL_law0_r9 [487, 124, 125, 126, 127, 488, 489, 262, 263, 264, 490, 319, 320, 321, 322, 323, 23, 324, 325, 326, 327, 328, 330, 331] (by decide +kernel) (by decide +kernel) w h).1
set_option maxRecDepth 20000 in
theorem in_wsL_law0_r10 : ∀ w ∈ wsL_law0_r10, w ∈ lw_tbl := fun w h => (goodIn_r (big := lw_tbl) wsL_law0_r10 [332, 334, 335, 336, 337, 338, 339, 340, 274, 275, 276, 281, 282, 283, 491, 492, 493, 494, 495, 496, 497, 498, 499, 500] (by decide +kernel) (by decide +kernel) w h).1
set_option maxRecDepth 20000 in
theorem in_wsL_law0_r11 : ∀ w ∈ wsL_law0_r11, w ∈ lw_tbl := fun w h => (goodIn_r (big := lw_tbl) wsL_law0_r11 [501, 502, 503, 504, 505, 506, 507, 508, 509, 514, 342, 24, 343, 510, 512, 5, 513, 515, 516, 517, 518, 519, 520, 400] (by decide +kernel) (by decide +kernel) w h).1
set_option maxRecDepth 20000 in
theorem in_wsL_law0_r12 : ∀ w ∈ wsL_law0_r12, w ∈ lw_tbl := fun w h => (goodIn_r (big := lw_tbl) wsL_law0_r12 [401, 402, 345, 346, 347, 348, 269, 270, 271, 364, 365, 366, 367, 368, 311, 312, 313, 341, 314, 318, 369, 371, 2, 372] (by decide +kernel) (by decide +kernel) w h).1
set_option maxRecDepth 20000 in
theorem in_wsL_law0_r13 : ∀ w ∈ wsL_law0_r13, w ∈ lw_tbl := fun w h => (goodIn_r (big := lw_tbl) wsL_law0_r13 [284, 285, 286, 287, 288, 289, 290, 310, 344, 253, 254, 255, 256, 257, 258, 259, 261, 265, 266, 267, 268, 273, 373, 374] (by decide +kernel) (by decide +kernel) w h).1
set_option maxRecDepth 20000 in
theorem in_wsL_law0_r14 : ∀ w ∈ wsL_law0_r14, w ∈ lw_tbl := fun w h => (goodIn_r (big := lw_tbl) wsL_law0_r14 [375, 376, 393, 394, 395, 396, 521, 522, 523, 524, 525, 526, 527, 528, 529, 530, 531, 532, 533, 534, 535, 536, 537, 538] (by decide +kernel) (by decide +kernel) w h).1
set_option maxRecDepth 20000 in
theorem in_wsL_law0_r15 : ∀ w ∈ wsL_law0_r15, w ∈ lw_tbl := fun w h => (goodIn_r (big := lw_tbl) wsL_law0_r15 [539, 540, 542, 6, 543, 544, 546, 7, 547, 548, 549, 550, 551, 552, 553, 554, 555, 556, 557, 558, 559, 560, 561, 562] (by decide +kernel) (by decide +kernel) w h).1
set_option maxRecDepth 20000 in
theorem in_wsL_law0_r16 : ∀ w ∈ wsL_law0_r16, w ∈ lw_tbl := fun w h => (goodIn_r (big := lw_tbl) wsL_law0_r16 [563, 564, 565, 566, 567, 568, 569, 570, 571, 572, 573, 574, 575, 576, 577, 578, 579, 581, 582, 583, 584, 585, 586, 587] (by decide +kernel) (by decide +kernel) w h).1
set_option maxRecDepth 20000 in
theorem in_wsL_law0_r17 : ∀ w ∈ wsL_law0_r17, w ∈ lw_tbl := fun w h => (goodIn_r (big := lw_tbl) wsL_law0_r17 [588, 589, 590, 591, 592, 593, 594, 595, 596, 597, 598, 599, 600, 601, 602, 603, 604, 605, 606, 607, 609, 8, 610, 611] (by decide +kernel) (by decide +kernel) w h).1
set_option maxRecDepth 20000 in
theorem in_wsL_law0_r18 : ∀ w ∈ wsL_law0_r18, w ∈ lw_tbl := fun w h => (goodIn_r (big := lw_tbl) wsL_law0_r18 [612, 613, 614, 615, 616, 617, 618] (by decide +kernel) (by decide +kernel) w h).1
theorem in_wsX60 : ∀ w ∈ wsX60, w ∈ lw_tbl := by decide +kernel
theorem in_wsX50 : ∀ w ∈ wsX50, w ∈ lw_tbl := by decide +kernel
theorem in_wsX40 : ∀ w ∈ wsX40, w ∈ lw_tbl := by decide +kernel
theorem in_wsX10 : ∀ w ∈ wsX10, w ∈ lw_tbl := by decide +kernel
theorem in_wsX00 : ∀ w ∈ wsX00, w ∈ lw_tbl := by decide +kernel
theorem in_wsX30 : ∀ w ∈ wsX30, w ∈ lw_tbl := by decide +kernel
theorem wsL_law_in0 : ∀ w ∈ wsL_law0, w ∈ lw_tbl := by
  show ∀ w ∈ (wsL_law0_r1 ++ (wsL_law0_r2 ++ (wsL_law0_r3 ++ (wsL_law0_r4 ++ (wsL_law0_r5 ++ (wsL_law0_r6 ++ (wsL_law0_r7 ++ (wsL_law0_r8 ++ (wsL_law0_r9 ++ (wsL_law0_r10 ++ (wsL_law0_r11 ++ (wsL_law0_r12 ++ (wsL_law0_r13 ++ (wsL_law0_r14 ++ (wsL_law0_r15 ++ (wsL_law0_r16 ++ (wsL_law0_r17 ++ wsL_law0_r18))))))))))))))))) ++ wsX60 ++ wsX50 ++ wsX40 ++ wsX10 ++ wsX00 ++ wsX30 ++ ([] : List Cond), w ∈ lw_tbl
  exact List.forall_mem_append.mpr ⟨List.forall_mem_append.mpr ⟨List.forall_mem_append.mpr ⟨List.forall_mem_append.mpr ⟨List.forall_mem_append.mpr ⟨List.forall_mem_append.mpr ⟨List.forall_mem_append.mpr ⟨List.forall_mem_append.mpr ⟨in_wsL_law0_r1, List.forall_mem_append.mpr ⟨in_wsL_law0_r2, List.forall_mem_append.mpr ⟨in_wsL_law0_r3, List.forall_mem_append.mpr ⟨in_wsL_law0_r4, List.forall_mem_append.mpr ⟨in_wsL_law0_r5, List.forall_mem_append.mpr ⟨in_wsL_law0_r6, List.forall_mem_append.mpr ⟨in_wsL_law0_r7, List.forall_mem_append.mpr ⟨in_wsL_law0_r8, List.forall_mem_append.mpr ⟨in_wsL_law0_r9, List.forall_mem_append.mpr ⟨in_wsL_law0_r10, List.forall_mem_append.mpr ⟨in_wsL_law0_r11, List.forall_mem_append.mpr ⟨in_wsL_law0_r12, List.forall_mem_append.mpr ⟨in_wsL_law0_r13, List.forall_mem_append.mpr ⟨in_wsL_law0_r14, List.forall_mem_append.mpr ⟨in_wsL_law0_r15, List.forall_mem_append.mpr ⟨in_wsL_law0_r16, List.forall_mem_append.mpr ⟨in_wsL_law0_r17, in_wsL_law0_r18⟩⟩⟩⟩⟩⟩⟩⟩⟩⟩⟩⟩⟩⟩⟩⟩⟩, in_wsX60⟩, in_wsX50⟩, in_wsX40⟩, in_wsX10⟩, in_wsX00⟩, in_wsX30⟩, fun _ h => absurd h List.not_mem_nil⟩
end
section
theorem wsL_law_x0 : ∀ w ∈ (vx_atS RX6 54 "java/lang/IllegalArgumentException" ["java/lang/RuntimeException", "java/lang/Exception"]).filter goodWord, w ∈ lw_tbl := by decide +kernel
theorem wsL_law_x1 : ∀ w ∈ (vx_atS RX6 65 "java/lang/IllegalStateException" ["java/lang/RuntimeException", "java/lang/Exception"]).filter goodWord, w ∈ lw_tbl := by decide +kernel
theorem wsL_law_x2 : ∀ w ∈ (vx_atS RX6 314 "java/lang/IndexOutOfBoundsException" ["java/lang/RuntimeException", "java/lang/Exception"]).filter goodWord, w ∈ lw_tbl := by decide +kernel
theorem wsL_law_in : ∀ w ∈ wsL_law, w ∈ lw_tbl := fun w h => (List.mem_append.mp h).elim (fun h => (List.mem_append.mp h).elim (fun h => (List.mem_append.mp h).elim (fun h => wsL_law_in0 w h) (fun h => wsL_law_x0 w h)) (fun h => wsL_law_x1 w h)) (fun h => wsL_law_x2 w h)
theorem inlX0 : ∀ w ∈ wsX00, w ∈ wsL_law := fun _ h => List.mem_append_left _ (List.mem_append_left _ (List.mem_append_left _ (List.mem_append_left _ (List.mem_append_left _ (List.mem_append_right _ h)))))
theorem inX0 : ∀ w ∈ wsX00, w ∈ lw_tbl := fun w h => wsL_law_in w (inlX0 w h)
theorem inlX1 : ∀ w ∈ wsX10, w ∈ wsL_law := fun _ h => List.mem_append_left _ (List.mem_append_left _ (List.mem_append_left _ (List.mem_append_left _ (List.mem_append_left _ (List.mem_append_left _ (List.mem_append_right _ h))))))
theorem inX1 : ∀ w ∈ wsX10, w ∈ lw_tbl := fun w h => wsL_law_in w (inlX1 w h)
theorem inX2 : ∀ w ∈ wsX20, w ∈ lw_tbl := by decide +kernel
theorem inlX3 : ∀ w ∈ wsX30, w ∈ wsL_law := fun _ h => List.mem_append_left _ (List.mem_append_left _ (List.mem_append_left _ (List.mem_append_left _ (List.mem_append_right _ h))))
theorem inX3 : ∀ w ∈ wsX30, w ∈ lw_tbl := fun w h => wsL_law_in w (inlX3 w h)
theorem inlX4 : ∀ w ∈ wsX40, w ∈ wsL_law := fun _ h => List.mem_append_left _ (List.mem_append_left _ (List.mem_append_left _ (List.mem_append_left _ (List.mem_append_left _ (List.mem_append_left _ (List.mem_append_left _ (List.mem_append_right _ h)))))))
theorem inX4 : ∀ w ∈ wsX40, w ∈ lw_tbl := fun w h => wsL_law_in w (inlX4 w h)
theorem inlX5 : ∀ w ∈ wsX50, w ∈ wsL_law := fun _ h => List.mem_append_left _ (List.mem_append_left _ (List.mem_append_left _ (List.mem_append_left _ (List.mem_append_left _ (List.mem_append_left _ (List.mem_append_left _ (List.mem_append_left _ (List.mem_append_right _ h))))))))
theorem inX5 : ∀ w ∈ wsX50, w ∈ lw_tbl := fun w h => wsL_law_in w (inlX5 w h)
theorem inlX6 : ∀ w ∈ wsX60, w ∈ wsL_law := fun _ h => List.mem_append_left _ (List.mem_append_left _ (List.mem_append_left _ (List.mem_append_left _ (List.mem_append_left _ (List.mem_append_left _ (List.mem_append_left _ (List.mem_append_left _ (List.mem_append_left _ (List.mem_append_right _ h)))))))))
theorem inX6 : ∀ w ∈ wsX60, w ∈ lw_tbl := fun w h => wsL_law_in w (inlX6 w h)
theorem inX7 : ∀ w ∈ wsX70, w ∈ lw_tbl := by decide +kernel
theorem inJ6 : ∀ w ∈ wsJ60, w ∈ lw_tbl := by decide +kernel
theorem inJ9 : ∀ w ∈ wsJ90, w ∈ lw_tbl := by decide +kernel
theorem inJ0 : ∀ w ∈ wsJ00, w ∈ lw_tbl := by decide +kernel
end
section
theorem dX0_init_0 : decode cX0_init 0 = .ok (.aload_n 0, 1) := by decide +kernel
theorem dX0_init_1 : decode cX0_init 1 = .ok (.invokespecial 3, 3) := by decide +kernel
theorem dX0_init_4 : decode cX0_init 4 = .ok (.aload_n 0, 1) := by decide +kernel
theorem dX0_init_5 : decode cX0_init 5 = .ok (.bipush 72, 2) := by decide +kernel
theorem dX0_init_7 : decode cX0_init 7 = .ok (.newarray .int, 2) := by decide +kernel
theorem dX0_init_9 : decode cX0_init 9 = .ok (.putfield 9, 3) := by decide +kernel
theorem dX0_init_12 : decode cX0_init 12 = .ok (.aload_n 0, 1) := by decide +kernel
theorem dX0_init_13 : decode cX0_init 13 = .ok (.bipush 12, 2) := by decide +kernel
theorem dX0_init_15 : decode cX0_init 15 = .ok (.newarray .int, 2) := by decide +kernel
theorem dX0_init_17 : decode cX0_init 17 = .ok (.putfield 15, 3) := by decide +kernel
theorem dX0_init_20 : decode cX0_init 20 = .ok (.return_, 1) := by decide +kernel
set_option maxRecDepth 20000 in
theorem ggX0_learn_X4_look : GoodIn wsX0_learn wsX4_look := goodIn_r _ [11, 12, 60, 61, 62, 63, 64, 65, 66, 67, 68, 69] (by decide +kernel) (by decide +kernel)
set_option maxRecDepth 20000 in
theorem gX0_learn_X4_look : GoodIn wsX0_learn (wsV RX0 38 RX4 yX4_look wsX4_look) := goodIn_app (goodIn_of _ (by decide +kernel)) ggX0_learn_X4_look
set_option maxRecDepth 20000 in
theorem ggX0_learn_X4_questionAt : GoodIn wsX0_learn wsX4_questionAt := goodIn_r _ [16, 17, 18, 60, 61, 62, 63, 64, 65, 66, 67, 68, 69] (by decide +kernel) (by decide +kernel)
set_option maxRecDepth 20000 in
theorem gX0_learn_X4_questionAt : GoodIn wsX0_learn (wsV RX0 45 RX4 yX4_questionAt wsX4_questionAt) := goodIn_app (goodIn_of _ (by decide +kernel)) ggX0_learn_X4_questionAt
set_option maxRecDepth 20000 in
theorem ggX0_learn_X4_costBy : GoodIn wsX0_learn wsX4_costBy := goodIn_r _ [22, 12, 23, 24, 25, 26, 27, 28, 29, 30, 31, 32, 33, 34, 8, 9, 10, 11, 35, 36, 37, 38, 39, 40, 41, 42, 43, 44, 45, 46, 47, 48, 49, 50, 51, 52, 60, 61, 62, 63, 64, 65, 66, 67, 68, 69] (by decide +kernel) (by decide +kernel)
set_option maxRecDepth 20000 in
theorem gX0_learn_X4_costBy : GoodIn wsX0_learn (wsV RX0 49 RX4 yX4_costBy wsX4_costBy) := goodIn_app (goodIn_of _ (by decide +kernel)) ggX0_learn_X4_costBy
set_option maxRecDepth 20000 in
theorem ggX0_learn_X2_reachesAll : GoodIn wsX0_learn wsX2_reachesAll := goodIn_r _ [55, 56, 24, 25, 26, 27, 28, 29, 30, 31, 32, 33, 57, 58, 59] (by decide +kernel) (by decide +kernel)
set_option maxRecDepth 20000 in
theorem gX0_learn_X2_reachesAll : GoodIn wsX0_learn (va_wsS RX0 53 yX2_reachesAll wsX2_reachesAll) := goodIn_app (goodIn_of _ (by decide +kernel)) ggX0_learn_X2_reachesAll
theorem dX0_learn_0 : decode cX0_learn 0 = .ok (.aload_n 0, 1) := by decide +kernel
theorem dX0_learn_1 : decode cX0_learn 1 = .ok (.aload_n 1, 1) := by decide +kernel
theorem dX0_learn_2 : decode cX0_learn 2 = .ok (.getfield 18, 3) := by decide +kernel
theorem dX0_learn_5 : decode cX0_learn 5 = .ok (.putfield 24, 3) := by decide +kernel
theorem dX0_learn_8 : decode cX0_learn 8 = .ok (.aload_n 0, 1) := by decide +kernel
theorem dX0_learn_9 : decode cX0_learn 9 = .ok (.aload_n 1, 1) := by decide +kernel
theorem dX0_learn_10 : decode cX0_learn 10 = .ok (.getfield 25, 3) := by decide +kernel
theorem dX0_learn_13 : decode cX0_learn 13 = .ok (.putfield 28, 3) := by decide +kernel
theorem dX0_learn_16 : decode cX0_learn 16 = .ok (.aload_n 0, 1) := by decide +kernel
theorem dX0_learn_17 : decode cX0_learn 17 = .ok (.aload_n 1, 1) := by decide +kernel
theorem dX0_learn_18 : decode cX0_learn 18 = .ok (.getfield 31, 3) := by decide +kernel
theorem dX0_learn_21 : decode cX0_learn 21 = .ok (.putfield 34, 3) := by decide +kernel
theorem dX0_learn_24 : decode cX0_learn 24 = .ok (.aload_n 0, 1) := by decide +kernel
theorem dX0_learn_25 : decode cX0_learn 25 = .ok (.aload_n 1, 1) := by decide +kernel
theorem dX0_learn_26 : decode cX0_learn 26 = .ok (.getfield 35, 3) := by decide +kernel
theorem dX0_learn_29 : decode cX0_learn 29 = .ok (.aload_n 1, 1) := by decide +kernel
theorem dX0_learn_30 : decode cX0_learn 30 = .ok (.invokevirtual 38, 3) := by decide +kernel
theorem dX0_learn_33 : decode cX0_learn 33 = .ok (.iconst 1, 1) := by decide +kernel
theorem dX0_learn_34 : decode cX0_learn 34 = .ok (.iadd, 1) := by decide +kernel
theorem dX0_learn_35 : decode cX0_learn 35 = .ok (.imul, 1) := by decide +kernel
theorem dX0_learn_36 : decode cX0_learn 36 = .ok (.putfield 42, 3) := by decide +kernel
theorem dX0_learn_39 : decode cX0_learn 39 = .ok (.iconst 0, 1) := by decide +kernel
theorem dX0_learn_40 : decode cX0_learn 40 = .ok (.istore_n 2, 1) := by decide +kernel
theorem dX0_learn_41 : decode cX0_learn 41 = .ok (.iconst 0, 1) := by decide +kernel
theorem dX0_learn_42 : decode cX0_learn 42 = .ok (.istore_n 3, 1) := by decide +kernel
theorem dX0_learn_43 : decode cX0_learn 43 = .ok (.iload_n 3, 1) := by decide +kernel
theorem dX0_learn_44 : decode cX0_learn 44 = .ok (.aload_n 0, 1) := by decide +kernel
theorem dX0_learn_45 : decode cX0_learn 45 = .ok (.getfield 24, 3) := by decide +kernel
theorem dX0_learn_48 : decode cX0_learn 48 = .ok (.if_icmp .ge 101, 3) := by decide +kernel
theorem dX0_learn_51 : decode cX0_learn 51 = .ok (.iload_n 3, 1) := by decide +kernel
theorem dX0_learn_52 : decode cX0_learn 52 = .ok (.aload_n 0, 1) := by decide +kernel
theorem dX0_learn_53 : decode cX0_learn 53 = .ok (.getfield 15, 3) := by decide +kernel
theorem dX0_learn_56 : decode cX0_learn 56 = .ok (.arraylength, 1) := by decide +kernel
theorem dX0_learn_57 : decode cX0_learn 57 = .ok (.if_icmp .ge 92, 3) := by decide +kernel
theorem dX0_learn_60 : decode cX0_learn 60 = .ok (.aload_n 1, 1) := by decide +kernel
theorem dX0_learn_61 : decode cX0_learn 61 = .ok (.iload_n 3, 1) := by decide +kernel
theorem dX0_learn_62 : decode cX0_learn 62 = .ok (.invokevirtual 45, 3) := by decide +kernel
theorem dX0_learn_65 : decode cX0_learn 65 = .ok (.istore 4, 2) := by decide +kernel
theorem dX0_learn_67 : decode cX0_learn 67 = .ok (.iconst 0, 1) := by decide +kernel
theorem dX0_learn_68 : decode cX0_learn 68 = .ok (.istore 5, 2) := by decide +kernel
theorem dX0_learn_70 : decode cX0_learn 70 = .ok (.iconst 0, 1) := by decide +kernel
theorem dX0_learn_71 : decode cX0_learn 71 = .ok (.istore 6, 2) := by decide +kernel
theorem dX0_learn_73 : decode cX0_learn 73 = .ok (.iload 6, 2) := by decide +kernel
theorem dX0_learn_75 : decode cX0_learn 75 = .ok (.bipush 6, 2) := by decide +kernel
theorem dX0_learn_77 : decode cX0_learn 77 = .ok (.if_icmp .ge 58, 3) := by decide +kernel
theorem dX0_learn_80 : decode cX0_learn 80 = .ok (.iload_n 2, 1) := by decide +kernel
theorem dX0_learn_81 : decode cX0_learn 81 = .ok (.aload_n 0, 1) := by decide +kernel
theorem dX0_learn_82 : decode cX0_learn 82 = .ok (.getfield 9, 3) := by decide +kernel
theorem dX0_learn_85 : decode cX0_learn 85 = .ok (.arraylength, 1) := by decide +kernel
theorem dX0_learn_86 : decode cX0_learn 86 = .ok (.if_icmp .ge 49, 3) := by decide +kernel
theorem dX0_learn_89 : decode cX0_learn 89 = .ok (.aload_n 0, 1) := by decide +kernel
theorem dX0_learn_90 : decode cX0_learn 90 = .ok (.getfield 9, 3) := by decide +kernel
theorem dX0_learn_93 : decode cX0_learn 93 = .ok (.iload_n 2, 1) := by decide +kernel
theorem dX0_learn_94 : decode cX0_learn 94 = .ok (.aload_n 1, 1) := by decide +kernel
theorem dX0_learn_95 : decode cX0_learn 95 = .ok (.iload 4, 2) := by decide +kernel
theorem dX0_learn_97 : decode cX0_learn 97 = .ok (.iload 6, 2) := by decide +kernel
theorem dX0_learn_99 : decode cX0_learn 99 = .ok (.invokevirtual 49, 3) := by decide +kernel
theorem dX0_learn_102 : decode cX0_learn 102 = .ok (.iastore, 1) := by decide +kernel
theorem dX0_learn_103 : decode cX0_learn 103 = .ok (.iinc 2 1, 3) := by decide +kernel
theorem dX0_learn_106 : decode cX0_learn 106 = .ok (.iload 5, 2) := by decide +kernel
theorem dX0_learn_108 : decode cX0_learn 108 = .ok (.iload 4, 2) := by decide +kernel
theorem dX0_learn_110 : decode cX0_learn 110 = .ok (.iload 6, 2) := by decide +kernel
theorem dX0_learn_112 : decode cX0_learn 112 = .ok (.invokestatic 53, 3) := by decide +kernel
theorem dX0_learn_115 : decode cX0_learn 115 = .ok (.ifCond .eq 10, 3) := by decide +kernel
theorem dX0_learn_118 : decode cX0_learn 118 = .ok (.iconst 1, 1) := by decide +kernel
theorem dX0_learn_119 : decode cX0_learn 119 = .ok (.iload 6, 2) := by decide +kernel
theorem dX0_learn_121 : decode cX0_learn 121 = .ok (.ishl, 1) := by decide +kernel
theorem dX0_learn_122 : decode cX0_learn 122 = .ok (.goto 4, 3) := by decide +kernel
theorem dX0_learn_125 : decode cX0_learn 125 = .ok (.iconst 0, 1) := by decide +kernel
theorem dX0_learn_126 : decode cX0_learn 126 = .ok (.ior, 1) := by decide +kernel
theorem dX0_learn_127 : decode cX0_learn 127 = .ok (.istore 5, 2) := by decide +kernel
theorem dX0_learn_129 : decode cX0_learn 129 = .ok (.iinc 6 1, 3) := by decide +kernel
theorem dX0_learn_132 : decode cX0_learn 132 = .ok (.goto (-59), 3) := by decide +kernel
theorem dX0_learn_135 : decode cX0_learn 135 = .ok (.aload_n 0, 1) := by decide +kernel
theorem dX0_learn_136 : decode cX0_learn 136 = .ok (.getfield 15, 3) := by decide +kernel
theorem dX0_learn_139 : decode cX0_learn 139 = .ok (.iload_n 3, 1) := by decide +kernel
theorem dX0_learn_140 : decode cX0_learn 140 = .ok (.iload 5, 2) := by decide +kernel
theorem dX0_learn_142 : decode cX0_learn 142 = .ok (.iastore, 1) := by decide +kernel
theorem dX0_learn_143 : decode cX0_learn 143 = .ok (.iinc 3 1, 3) := by decide +kernel
theorem dX0_learn_146 : decode cX0_learn 146 = .ok (.goto (-103), 3) := by decide +kernel
theorem dX0_learn_149 : decode cX0_learn 149 = .ok (.return_, 1) := by decide +kernel
set_option maxRecDepth 20000 in
theorem ggX0_costWith_X0_costAt : GoodIn wsX0_costWith wsX0_costAt := goodIn_r _ [11, 12, 2, 13, 14, 15, 16, 17, 18] (by decide +kernel) (by decide +kernel)
set_option maxRecDepth 20000 in
theorem gX0_costWith_X0_costAt : GoodIn wsX0_costWith (wsV RX0 59 RX0 yX0_costAt wsX0_costAt) := goodIn_app (goodIn_of _ (by decide +kernel)) ggX0_costWith_X0_costAt
theorem dX0_costWith_0 : decode cX0_costWith 0 = .ok (.iconst 0, 1) := by decide +kernel
theorem dX0_costWith_1 : decode cX0_costWith 1 = .ok (.istore_n 2, 1) := by decide +kernel
theorem dX0_costWith_2 : decode cX0_costWith 2 = .ok (.iconst 0, 1) := by decide +kernel
theorem dX0_costWith_3 : decode cX0_costWith 3 = .ok (.istore_n 3, 1) := by decide +kernel
theorem dX0_costWith_4 : decode cX0_costWith 4 = .ok (.iload_n 3, 1) := by decide +kernel
theorem dX0_costWith_5 : decode cX0_costWith 5 = .ok (.aload_n 0, 1) := by decide +kernel
theorem dX0_costWith_6 : decode cX0_costWith 6 = .ok (.getfield 24, 3) := by decide +kernel
theorem dX0_costWith_9 : decode cX0_costWith 9 = .ok (.if_icmp .ge 60, 3) := by decide +kernel
theorem dX0_costWith_12 : decode cX0_costWith 12 = .ok (.aload_n 0, 1) := by decide +kernel
theorem dX0_costWith_13 : decode cX0_costWith 13 = .ok (.getfield 28, 3) := by decide +kernel
theorem dX0_costWith_16 : decode cX0_costWith 16 = .ok (.istore 4, 2) := by decide +kernel
theorem dX0_costWith_18 : decode cX0_costWith 18 = .ok (.iconst 0, 1) := by decide +kernel
theorem dX0_costWith_19 : decode cX0_costWith 19 = .ok (.istore 5, 2) := by decide +kernel
theorem dX0_costWith_21 : decode cX0_costWith 21 = .ok (.iload 5, 2) := by decide +kernel
theorem dX0_costWith_23 : decode cX0_costWith 23 = .ok (.bipush 6, 2) := by decide +kernel
theorem dX0_costWith_25 : decode cX0_costWith 25 = .ok (.if_icmp .ge 33, 3) := by decide +kernel
theorem dX0_costWith_28 : decode cX0_costWith 28 = .ok (.iload_n 1, 1) := by decide +kernel
theorem dX0_costWith_29 : decode cX0_costWith 29 = .ok (.iload 5, 2) := by decide +kernel
theorem dX0_costWith_31 : decode cX0_costWith 31 = .ok (.ishr, 1) := by decide +kernel
theorem dX0_costWith_32 : decode cX0_costWith 32 = .ok (.iconst 1, 1) := by decide +kernel
theorem dX0_costWith_33 : decode cX0_costWith 33 = .ok (.iand, 1) := by decide +kernel
theorem dX0_costWith_34 : decode cX0_costWith 34 = .ok (.iconst 1, 1) := by decide +kernel
theorem dX0_costWith_35 : decode cX0_costWith 35 = .ok (.if_icmp .ne 17, 3) := by decide +kernel
theorem dX0_costWith_38 : decode cX0_costWith 38 = .ok (.iload 4, 2) := by decide +kernel
theorem dX0_costWith_40 : decode cX0_costWith 40 = .ok (.aload_n 0, 1) := by decide +kernel
theorem dX0_costWith_41 : decode cX0_costWith 41 = .ok (.iload_n 3, 1) := by decide +kernel
theorem dX0_costWith_42 : decode cX0_costWith 42 = .ok (.iload 5, 2) := by decide +kernel
theorem dX0_costWith_44 : decode cX0_costWith 44 = .ok (.invokevirtual 59, 3) := by decide +kernel
theorem dX0_costWith_47 : decode cX0_costWith 47 = .ok (.invokestatic 62, 3) := by decide +kernel
theorem dX0_costWith_50 : decode cX0_costWith 50 = .ok (.istore 4, 2) := by decide +kernel
theorem dX0_costWith_52 : decode cX0_costWith 52 = .ok (.iinc 5 1, 3) := by decide +kernel
theorem dX0_costWith_55 : decode cX0_costWith 55 = .ok (.goto (-34), 3) := by decide +kernel
theorem dX0_costWith_58 : decode cX0_costWith 58 = .ok (.iload_n 2, 1) := by decide +kernel
theorem dX0_costWith_59 : decode cX0_costWith 59 = .ok (.iload 4, 2) := by decide +kernel
theorem dX0_costWith_61 : decode cX0_costWith 61 = .ok (.iadd, 1) := by decide +kernel
theorem dX0_costWith_62 : decode cX0_costWith 62 = .ok (.istore_n 2, 1) := by decide +kernel
theorem dX0_costWith_63 : decode cX0_costWith 63 = .ok (.iinc 3 1, 3) := by decide +kernel
theorem dX0_costWith_66 : decode cX0_costWith 66 = .ok (.goto (-62), 3) := by decide +kernel
theorem dX0_costWith_69 : decode cX0_costWith 69 = .ok (.iload_n 2, 1) := by decide +kernel
theorem dX0_costWith_70 : decode cX0_costWith 70 = .ok (.ireturn, 1) := by decide +kernel
theorem dX0_costAt_0 : decode cX0_costAt 0 = .ok (.bipush 6, 2) := by decide +kernel
theorem dX0_costAt_2 : decode cX0_costAt 2 = .ok (.iload_n 1, 1) := by decide +kernel
theorem dX0_costAt_3 : decode cX0_costAt 3 = .ok (.imul, 1) := by decide +kernel
theorem dX0_costAt_4 : decode cX0_costAt 4 = .ok (.iload_n 2, 1) := by decide +kernel
theorem dX0_costAt_5 : decode cX0_costAt 5 = .ok (.iadd, 1) := by decide +kernel
theorem dX0_costAt_6 : decode cX0_costAt 6 = .ok (.istore_n 3, 1) := by decide +kernel
theorem dX0_costAt_7 : decode cX0_costAt 7 = .ok (.iload_n 3, 1) := by decide +kernel
theorem dX0_costAt_8 : decode cX0_costAt 8 = .ok (.ifCond .lt 21, 3) := by decide +kernel
theorem dX0_costAt_11 : decode cX0_costAt 11 = .ok (.iload_n 3, 1) := by decide +kernel
theorem dX0_costAt_12 : decode cX0_costAt 12 = .ok (.aload_n 0, 1) := by decide +kernel
theorem dX0_costAt_13 : decode cX0_costAt 13 = .ok (.getfield 9, 3) := by decide +kernel
theorem dX0_costAt_16 : decode cX0_costAt 16 = .ok (.arraylength, 1) := by decide +kernel
theorem dX0_costAt_17 : decode cX0_costAt 17 = .ok (.if_icmp .ge 12, 3) := by decide +kernel
theorem dX0_costAt_20 : decode cX0_costAt 20 = .ok (.aload_n 0, 1) := by decide +kernel
theorem dX0_costAt_21 : decode cX0_costAt 21 = .ok (.getfield 9, 3) := by decide +kernel
theorem dX0_costAt_24 : decode cX0_costAt 24 = .ok (.iload_n 3, 1) := by decide +kernel
theorem dX0_costAt_25 : decode cX0_costAt 25 = .ok (.iaload, 1) := by decide +kernel
theorem dX0_costAt_26 : decode cX0_costAt 26 = .ok (.goto 7, 3) := by decide +kernel
theorem dX0_costAt_29 : decode cX0_costAt 29 = .ok (.aload_n 0, 1) := by decide +kernel
theorem dX0_costAt_30 : decode cX0_costAt 30 = .ok (.getfield 28, 3) := by decide +kernel
theorem dX0_costAt_33 : decode cX0_costAt 33 = .ok (.ireturn, 1) := by decide +kernel
set_option maxRecDepth 20000 in
theorem ggX0_worth_X0_costWith : GoodIn wsX0_worth wsX0_costWith := goodIn_r _ [7, 8, 9, 10, 11, 12, 13, 14, 15, 16, 6, 17, 18, 19, 20, 21, 22, 23, 24] (by decide +kernel) (by decide +kernel)
set_option maxRecDepth 20000 in
theorem gX0_worth_X0_costWith : GoodIn wsX0_worth (wsV RX0 67 RX0 yX0_costWith wsX0_costWith) := goodIn_app (goodIn_of _ (by decide +kernel)) ggX0_worth_X0_costWith
theorem dX0_worth_0 : decode cX0_worth 0 = .ok (.iconst 1, 1) := by decide +kernel
theorem dX0_worth_1 : decode cX0_worth 1 = .ok (.iload_n 1, 1) := by decide +kernel
theorem dX0_worth_2 : decode cX0_worth 2 = .ok (.ishl, 1) := by decide +kernel
theorem dX0_worth_3 : decode cX0_worth 3 = .ok (.istore_n 2, 1) := by decide +kernel
theorem dX0_worth_4 : decode cX0_worth 4 = .ok (.aload_n 0, 1) := by decide +kernel
theorem dX0_worth_5 : decode cX0_worth 5 = .ok (.aload_n 0, 1) := by decide +kernel
theorem dX0_worth_6 : decode cX0_worth 6 = .ok (.getfield 34, 3) := by decide +kernel
theorem dX0_worth_9 : decode cX0_worth 9 = .ok (.iload_n 2, 1) := by decide +kernel
theorem dX0_worth_10 : decode cX0_worth 10 = .ok (.iconst (-1), 1) := by decide +kernel
theorem dX0_worth_11 : decode cX0_worth 11 = .ok (.ixor, 1) := by decide +kernel
theorem dX0_worth_12 : decode cX0_worth 12 = .ok (.iand, 1) := by decide +kernel
theorem dX0_worth_13 : decode cX0_worth 13 = .ok (.invokevirtual 67, 3) := by decide +kernel
theorem dX0_worth_16 : decode cX0_worth 16 = .ok (.aload_n 0, 1) := by decide +kernel
theorem dX0_worth_17 : decode cX0_worth 17 = .ok (.aload_n 0, 1) := by decide +kernel
theorem dX0_worth_18 : decode cX0_worth 18 = .ok (.getfield 34, 3) := by decide +kernel
theorem dX0_worth_21 : decode cX0_worth 21 = .ok (.iload_n 2, 1) := by decide +kernel
theorem dX0_worth_22 : decode cX0_worth 22 = .ok (.ior, 1) := by decide +kernel
theorem dX0_worth_23 : decode cX0_worth 23 = .ok (.invokevirtual 67, 3) := by decide +kernel
theorem dX0_worth_26 : decode cX0_worth 26 = .ok (.isub, 1) := by decide +kernel
theorem dX0_worth_27 : decode cX0_worth 27 = .ok (.aload_n 0, 1) := by decide +kernel
theorem dX0_worth_28 : decode cX0_worth 28 = .ok (.getfield 42, 3) := by decide +kernel
theorem dX0_worth_31 : decode cX0_worth 31 = .ok (.isub, 1) := by decide +kernel
theorem dX0_worth_32 : decode cX0_worth 32 = .ok (.ireturn, 1) := by decide +kernel
set_option maxRecDepth 20000 in
theorem ggX0_orderToBuild_X0_worth : GoodIn wsX0_orderToBuild wsX0_worth := goodIn_r _ [6, 1, 7, 8, 9, 10, 5, 11, 12, 13, 14, 15, 16, 17, 18, 19, 20, 21, 22, 23, 24, 25, 26, 27, 28] (by decide +kernel) (by decide +kernel)
set_option maxRecDepth 20000 in
theorem gX0_orderToBuild_X0_worth : GoodIn wsX0_orderToBuild (wsV RX0 70 RX0 yX0_worth wsX0_worth) := goodIn_app (goodIn_of _ (by decide +kernel)) ggX0_orderToBuild_X0_worth
theorem dX0_orderToBuild_0 : decode cX0_orderToBuild 0 = .ok (.iconst (-1), 1) := by decide +kernel
theorem dX0_orderToBuild_1 : decode cX0_orderToBuild 1 = .ok (.istore_n 1, 1) := by decide +kernel
theorem dX0_orderToBuild_2 : decode cX0_orderToBuild 2 = .ok (.iconst 0, 1) := by decide +kernel
theorem dX0_orderToBuild_3 : decode cX0_orderToBuild 3 = .ok (.istore_n 2, 1) := by decide +kernel
theorem dX0_orderToBuild_4 : decode cX0_orderToBuild 4 = .ok (.iconst 0, 1) := by decide +kernel
theorem dX0_orderToBuild_5 : decode cX0_orderToBuild 5 = .ok (.istore_n 3, 1) := by decide +kernel
theorem dX0_orderToBuild_6 : decode cX0_orderToBuild 6 = .ok (.iload_n 3, 1) := by decide +kernel
theorem dX0_orderToBuild_7 : decode cX0_orderToBuild 7 = .ok (.bipush 6, 2) := by decide +kernel
theorem dX0_orderToBuild_9 : decode cX0_orderToBuild 9 = .ok (.if_icmp .ge 42, 3) := by decide +kernel
theorem dX0_orderToBuild_12 : decode cX0_orderToBuild 12 = .ok (.aload_n 0, 1) := by decide +kernel
theorem dX0_orderToBuild_13 : decode cX0_orderToBuild 13 = .ok (.getfield 34, 3) := by decide +kernel
theorem dX0_orderToBuild_16 : decode cX0_orderToBuild 16 = .ok (.iload_n 3, 1) := by decide +kernel
theorem dX0_orderToBuild_17 : decode cX0_orderToBuild 17 = .ok (.ishr, 1) := by decide +kernel
theorem dX0_orderToBuild_18 : decode cX0_orderToBuild 18 = .ok (.iconst 1, 1) := by decide +kernel
theorem dX0_orderToBuild_19 : decode cX0_orderToBuild 19 = .ok (.iand, 1) := by decide +kernel
theorem dX0_orderToBuild_20 : decode cX0_orderToBuild 20 = .ok (.ifCond .ne 11, 3) := by decide +kernel
theorem dX0_orderToBuild_23 : decode cX0_orderToBuild 23 = .ok (.aload_n 0, 1) := by decide +kernel
theorem dX0_orderToBuild_24 : decode cX0_orderToBuild 24 = .ok (.iload_n 3, 1) := by decide +kernel
theorem dX0_orderToBuild_25 : decode cX0_orderToBuild 25 = .ok (.invokevirtual 70, 3) := by decide +kernel
theorem dX0_orderToBuild_28 : decode cX0_orderToBuild 28 = .ok (.goto 4, 3) := by decide +kernel
theorem dX0_orderToBuild_31 : decode cX0_orderToBuild 31 = .ok (.iconst 0, 1) := by decide +kernel
theorem dX0_orderToBuild_32 : decode cX0_orderToBuild 32 = .ok (.istore 4, 2) := by decide +kernel
theorem dX0_orderToBuild_34 : decode cX0_orderToBuild 34 = .ok (.iload 4, 2) := by decide +kernel
theorem dX0_orderToBuild_36 : decode cX0_orderToBuild 36 = .ok (.iload_n 2, 1) := by decide +kernel
theorem dX0_orderToBuild_37 : decode cX0_orderToBuild 37 = .ok (.if_icmp .le 8, 3) := by decide +kernel
theorem dX0_orderToBuild_40 : decode cX0_orderToBuild 40 = .ok (.iload 4, 2) := by decide +kernel
theorem dX0_orderToBuild_42 : decode cX0_orderToBuild 42 = .ok (.istore_n 2, 1) := by decide +kernel
theorem dX0_orderToBuild_43 : decode cX0_orderToBuild 43 = .ok (.iload_n 3, 1) := by decide +kernel
theorem dX0_orderToBuild_44 : decode cX0_orderToBuild 44 = .ok (.istore_n 1, 1) := by decide +kernel
theorem dX0_orderToBuild_45 : decode cX0_orderToBuild 45 = .ok (.iinc 3 1, 3) := by decide +kernel
theorem dX0_orderToBuild_48 : decode cX0_orderToBuild 48 = .ok (.goto (-42), 3) := by decide +kernel
theorem dX0_orderToBuild_51 : decode cX0_orderToBuild 51 = .ok (.iload_n 1, 1) := by decide +kernel
theorem dX0_orderToBuild_52 : decode cX0_orderToBuild 52 = .ok (.ireturn, 1) := by decide +kernel
set_option maxRecDepth 20000 in
theorem ggX0_orderToDrop_X0_worth : GoodIn wsX0_orderToDrop wsX0_worth := goodIn_r _ [6, 1, 7, 8, 9, 10, 5, 11, 12, 13, 14, 15, 16, 17, 18, 19, 20, 21, 22, 23, 24, 25, 26, 27, 28] (by decide +kernel) (by decide +kernel)
set_option maxRecDepth 20000 in
theorem gX0_orderToDrop_X0_worth : GoodIn wsX0_orderToDrop (wsV RX0 70 RX0 yX0_worth wsX0_worth) := goodIn_app (goodIn_of _ (by decide +kernel)) ggX0_orderToDrop_X0_worth
theorem dX0_orderToDrop_0 : decode cX0_orderToDrop 0 = .ok (.iconst (-1), 1) := by decide +kernel
theorem dX0_orderToDrop_1 : decode cX0_orderToDrop 1 = .ok (.istore_n 1, 1) := by decide +kernel
theorem dX0_orderToDrop_2 : decode cX0_orderToDrop 2 = .ok (.iconst 0, 1) := by decide +kernel
theorem dX0_orderToDrop_3 : decode cX0_orderToDrop 3 = .ok (.istore_n 2, 1) := by decide +kernel
theorem dX0_orderToDrop_4 : decode cX0_orderToDrop 4 = .ok (.iconst 0, 1) := by decide +kernel
theorem dX0_orderToDrop_5 : decode cX0_orderToDrop 5 = .ok (.istore_n 3, 1) := by decide +kernel
theorem dX0_orderToDrop_6 : decode cX0_orderToDrop 6 = .ok (.iload_n 3, 1) := by decide +kernel
theorem dX0_orderToDrop_7 : decode cX0_orderToDrop 7 = .ok (.bipush 6, 2) := by decide +kernel
theorem dX0_orderToDrop_9 : decode cX0_orderToDrop 9 = .ok (.if_icmp .ge 43, 3) := by decide +kernel
theorem dX0_orderToDrop_12 : decode cX0_orderToDrop 12 = .ok (.aload_n 0, 1) := by decide +kernel
theorem dX0_orderToDrop_13 : decode cX0_orderToDrop 13 = .ok (.getfield 34, 3) := by decide +kernel
theorem dX0_orderToDrop_16 : decode cX0_orderToDrop 16 = .ok (.iload_n 3, 1) := by decide +kernel
theorem dX0_orderToDrop_17 : decode cX0_orderToDrop 17 = .ok (.ishr, 1) := by decide +kernel
theorem dX0_orderToDrop_18 : decode cX0_orderToDrop 18 = .ok (.iconst 1, 1) := by decide +kernel
theorem dX0_orderToDrop_19 : decode cX0_orderToDrop 19 = .ok (.iand, 1) := by decide +kernel
theorem dX0_orderToDrop_20 : decode cX0_orderToDrop 20 = .ok (.iconst 1, 1) := by decide +kernel
theorem dX0_orderToDrop_21 : decode cX0_orderToDrop 21 = .ok (.if_icmp .ne 11, 3) := by decide +kernel
theorem dX0_orderToDrop_24 : decode cX0_orderToDrop 24 = .ok (.aload_n 0, 1) := by decide +kernel
theorem dX0_orderToDrop_25 : decode cX0_orderToDrop 25 = .ok (.iload_n 3, 1) := by decide +kernel
theorem dX0_orderToDrop_26 : decode cX0_orderToDrop 26 = .ok (.invokevirtual 70, 3) := by decide +kernel
theorem dX0_orderToDrop_29 : decode cX0_orderToDrop 29 = .ok (.goto 4, 3) := by decide +kernel
theorem dX0_orderToDrop_32 : decode cX0_orderToDrop 32 = .ok (.iconst 0, 1) := by decide +kernel
theorem dX0_orderToDrop_33 : decode cX0_orderToDrop 33 = .ok (.istore 4, 2) := by decide +kernel
theorem dX0_orderToDrop_35 : decode cX0_orderToDrop 35 = .ok (.iload 4, 2) := by decide +kernel
theorem dX0_orderToDrop_37 : decode cX0_orderToDrop 37 = .ok (.iload_n 2, 1) := by decide +kernel
theorem dX0_orderToDrop_38 : decode cX0_orderToDrop 38 = .ok (.if_icmp .ge 8, 3) := by decide +kernel
theorem dX0_orderToDrop_41 : decode cX0_orderToDrop 41 = .ok (.iload 4, 2) := by decide +kernel
theorem dX0_orderToDrop_43 : decode cX0_orderToDrop 43 = .ok (.istore_n 2, 1) := by decide +kernel
theorem dX0_orderToDrop_44 : decode cX0_orderToDrop 44 = .ok (.iload_n 3, 1) := by decide +kernel
theorem dX0_orderToDrop_45 : decode cX0_orderToDrop 45 = .ok (.istore_n 1, 1) := by decide +kernel
theorem dX0_orderToDrop_46 : decode cX0_orderToDrop 46 = .ok (.iinc 3 1, 3) := by decide +kernel
theorem dX0_orderToDrop_49 : decode cX0_orderToDrop 49 = .ok (.goto (-43), 3) := by decide +kernel
theorem dX0_orderToDrop_52 : decode cX0_orderToDrop 52 = .ok (.iload_n 1, 1) := by decide +kernel
theorem dX0_orderToDrop_53 : decode cX0_orderToDrop 53 = .ok (.ireturn, 1) := by decide +kernel
set_option maxRecDepth 20000 in
theorem ggX0_follow_X0_learn : GoodIn wsX0_follow wsX0_learn := goodIn_r _ [5, 6, 7, 8, 9, 10, 11, 12, 13, 14, 15, 16, 17, 18, 19, 20, 21, 22, 23, 24, 25, 26, 27, 28, 29, 30, 31, 32, 33, 34, 35, 36, 37, 38, 39, 40, 41, 42, 43, 44, 45, 46, 47, 48, 49, 50, 51, 52, 53, 54, 55, 56, 57, 58, 59, 60, 61, 62, 63, 64, 106, 107, 108, 109, 110, 111, 112, 113, 114, 115, 116, 117, 118, 119, 120, 121] (by decide +kernel) (by decide +kernel)
set_option maxRecDepth 20000 in
theorem gX0_follow_X0_learn : GoodIn wsX0_follow (wsV RX0 73 RX0 yX0_learn wsX0_learn) := goodIn_app (goodIn_of _ (by decide +kernel)) ggX0_follow_X0_learn
set_option maxRecDepth 20000 in
theorem ggX0_follow_X0_orderToBuild : GoodIn wsX0_follow wsX0_orderToBuild := goodIn_r _ [68, 8, 69, 70, 71, 4, 72, 9, 73, 74, 75, 76, 6, 7, 77, 78, 79, 80, 81, 82, 83, 84, 11, 116, 117, 118, 119, 120, 121] (by decide +kernel) (by decide +kernel)
set_option maxRecDepth 20000 in
theorem gX0_follow_X0_orderToBuild : GoodIn wsX0_follow (wsV RX0 77 RX0 yX0_orderToBuild wsX0_orderToBuild) := goodIn_app (goodIn_of _ (by decide +kernel)) ggX0_follow_X0_orderToBuild
set_option maxRecDepth 20000 in
theorem ggX0_follow_X4_keep : GoodIn wsX0_follow wsX4_keep := goodIn_r _ [88, 17, 89, 90, 39, 13, 14, 15, 16, 106, 107, 108, 109, 110, 111, 112, 113, 114, 115] (by decide +kernel) (by decide +kernel)
set_option maxRecDepth 20000 in
theorem gX0_follow_X4_keep : GoodIn wsX0_follow (wsV RX0 80 RX4 yX4_keep wsX4_keep) := goodIn_app (goodIn_of _ (by decide +kernel)) ggX0_follow_X4_keep
set_option maxRecDepth 20000 in
theorem ggX0_follow_X0_orderToDrop : GoodIn wsX0_follow wsX0_orderToDrop := goodIn_r _ [94, 8, 69, 70, 71, 4, 72, 9, 73, 74, 75, 76, 6, 7, 77, 78, 79, 80, 81, 82, 83, 84, 11, 116, 117, 118, 119, 120, 121] (by decide +kernel) (by decide +kernel)
set_option maxRecDepth 20000 in
theorem gX0_follow_X0_orderToDrop : GoodIn wsX0_follow (wsV RX0 83 RX0 yX0_orderToDrop wsX0_orderToDrop) := goodIn_app (goodIn_of _ (by decide +kernel)) ggX0_follow_X0_orderToDrop
set_option maxRecDepth 20000 in
theorem ggX0_follow_X4_discard : GoodIn wsX0_follow wsX4_discard := goodIn_r _ [98, 90, 99, 100, 101, 102, 103, 104, 105, 106, 107, 108, 109, 110, 111, 112, 113, 114, 115] (by decide +kernel) (by decide +kernel)
set_option maxRecDepth 20000 in
theorem gX0_follow_X4_discard : GoodIn wsX0_follow (wsV RX0 86 RX4 yX4_discard wsX4_discard) := goodIn_app (goodIn_of _ (by decide +kernel)) ggX0_follow_X4_discard
theorem dX0_follow_0 : decode cX0_follow 0 = .ok (.aload_n 0, 1) := by decide +kernel
theorem dX0_follow_1 : decode cX0_follow 1 = .ok (.aload_n 1, 1) := by decide +kernel
theorem dX0_follow_2 : decode cX0_follow 2 = .ok (.invokevirtual 73, 3) := by decide +kernel
theorem dX0_follow_5 : decode cX0_follow 5 = .ok (.aload_n 0, 1) := by decide +kernel
theorem dX0_follow_6 : decode cX0_follow 6 = .ok (.invokevirtual 77, 3) := by decide +kernel
theorem dX0_follow_9 : decode cX0_follow 9 = .ok (.istore_n 2, 1) := by decide +kernel
theorem dX0_follow_10 : decode cX0_follow 10 = .ok (.iload_n 2, 1) := by decide +kernel
theorem dX0_follow_11 : decode cX0_follow 11 = .ok (.iconst (-1), 1) := by decide +kernel
theorem dX0_follow_12 : decode cX0_follow 12 = .ok (.if_icmp .eq 14, 3) := by decide +kernel
theorem dX0_follow_15 : decode cX0_follow 15 = .ok (.aload_n 1, 1) := by decide +kernel
theorem dX0_follow_16 : decode cX0_follow 16 = .ok (.iload_n 2, 1) := by decide +kernel
theorem dX0_follow_17 : decode cX0_follow 17 = .ok (.invokevirtual 80, 3) := by decide +kernel
theorem dX0_follow_20 : decode cX0_follow 20 = .ok (.pop, 1) := by decide +kernel
theorem dX0_follow_21 : decode cX0_follow 21 = .ok (.bipush 10, 2) := by decide +kernel
theorem dX0_follow_23 : decode cX0_follow 23 = .ok (.iload_n 2, 1) := by decide +kernel
theorem dX0_follow_24 : decode cX0_follow 24 = .ok (.iadd, 1) := by decide +kernel
theorem dX0_follow_25 : decode cX0_follow 25 = .ok (.ireturn, 1) := by decide +kernel
theorem dX0_follow_26 : decode cX0_follow 26 = .ok (.aload_n 0, 1) := by decide +kernel
theorem dX0_follow_27 : decode cX0_follow 27 = .ok (.invokevirtual 83, 3) := by decide +kernel
theorem dX0_follow_30 : decode cX0_follow 30 = .ok (.istore_n 3, 1) := by decide +kernel
theorem dX0_follow_31 : decode cX0_follow 31 = .ok (.iload_n 3, 1) := by decide +kernel
theorem dX0_follow_32 : decode cX0_follow 32 = .ok (.iconst (-1), 1) := by decide +kernel
theorem dX0_follow_33 : decode cX0_follow 33 = .ok (.if_icmp .eq 9, 3) := by decide +kernel
theorem dX0_follow_36 : decode cX0_follow 36 = .ok (.aload_n 1, 1) := by decide +kernel
theorem dX0_follow_37 : decode cX0_follow 37 = .ok (.iload_n 3, 1) := by decide +kernel
theorem dX0_follow_38 : decode cX0_follow 38 = .ok (.invokevirtual 86, 3) := by decide +kernel
theorem dX0_follow_41 : decode cX0_follow 41 = .ok (.pop, 1) := by decide +kernel
theorem dX0_follow_42 : decode cX0_follow 42 = .ok (.iload_n 3, 1) := by decide +kernel
theorem dX0_follow_43 : decode cX0_follow 43 = .ok (.ireturn, 1) := by decide +kernel
set_option maxRecDepth 20000 in
theorem ggX0_smallestCover_J6_bitCount_0f7a4 : GoodIn wsX0_smallestCover wsJ6_bitCount_0f7a4 := goodIn_r _ [4, 5, 6, 7] (by decide +kernel) (by decide +kernel)
set_option maxRecDepth 20000 in
theorem gX0_smallestCover_J6_bitCount_0f7a4 : GoodIn wsX0_smallestCover (va_wsS RX0 89 yJ6_bitCount_0f7a4 wsJ6_bitCount_0f7a4) := goodIn_app (goodIn_of _ (by decide +kernel)) ggX0_smallestCover_J6_bitCount_0f7a4
set_option maxRecDepth 20000 in
theorem ggX0_smallestCover_X0_coversAll : GoodIn wsX0_smallestCover wsX0_coversAll := goodIn_r _ [12, 13, 14, 15, 16, 17, 18, 19, 20] (by decide +kernel) (by decide +kernel)
set_option maxRecDepth 20000 in
theorem gX0_smallestCover_X0_coversAll : GoodIn wsX0_smallestCover (wsV RX0 94 RX0 yX0_coversAll wsX0_coversAll) := goodIn_app (goodIn_of _ (by decide +kernel)) ggX0_smallestCover_X0_coversAll
theorem dX0_smallestCover_0 : decode cX0_smallestCover 0 = .ok (.bipush 63, 2) := by decide +kernel
theorem dX0_smallestCover_2 : decode cX0_smallestCover 2 = .ok (.istore_n 1, 1) := by decide +kernel
theorem dX0_smallestCover_3 : decode cX0_smallestCover 3 = .ok (.bipush 63, 2) := by decide +kernel
theorem dX0_smallestCover_5 : decode cX0_smallestCover 5 = .ok (.istore_n 2, 1) := by decide +kernel
theorem dX0_smallestCover_6 : decode cX0_smallestCover 6 = .ok (.iload_n 2, 1) := by decide +kernel
theorem dX0_smallestCover_7 : decode cX0_smallestCover 7 = .ok (.ifCond .lt 30, 3) := by decide +kernel
theorem dX0_smallestCover_10 : decode cX0_smallestCover 10 = .ok (.iload_n 2, 1) := by decide +kernel
theorem dX0_smallestCover_11 : decode cX0_smallestCover 11 = .ok (.invokestatic 89, 3) := by decide +kernel
theorem dX0_smallestCover_14 : decode cX0_smallestCover 14 = .ok (.iload_n 1, 1) := by decide +kernel
theorem dX0_smallestCover_15 : decode cX0_smallestCover 15 = .ok (.invokestatic 89, 3) := by decide +kernel
theorem dX0_smallestCover_18 : decode cX0_smallestCover 18 = .ok (.if_icmp .gt 13, 3) := by decide +kernel
theorem dX0_smallestCover_21 : decode cX0_smallestCover 21 = .ok (.aload_n 0, 1) := by decide +kernel
theorem dX0_smallestCover_22 : decode cX0_smallestCover 22 = .ok (.iload_n 2, 1) := by decide +kernel
theorem dX0_smallestCover_23 : decode cX0_smallestCover 23 = .ok (.invokevirtual 94, 3) := by decide +kernel
theorem dX0_smallestCover_26 : decode cX0_smallestCover 26 = .ok (.ifCond .eq 5, 3) := by decide +kernel
theorem dX0_smallestCover_29 : decode cX0_smallestCover 29 = .ok (.iload_n 2, 1) := by decide +kernel
theorem dX0_smallestCover_30 : decode cX0_smallestCover 30 = .ok (.istore_n 1, 1) := by decide +kernel
theorem dX0_smallestCover_31 : decode cX0_smallestCover 31 = .ok (.iinc 2 (-1), 3) := by decide +kernel
theorem dX0_smallestCover_34 : decode cX0_smallestCover 34 = .ok (.goto (-28), 3) := by decide +kernel
theorem dX0_smallestCover_37 : decode cX0_smallestCover 37 = .ok (.iload_n 1, 1) := by decide +kernel
theorem dX0_smallestCover_38 : decode cX0_smallestCover 38 = .ok (.ireturn, 1) := by decide +kernel
theorem dX0_coversAll_0 : decode cX0_coversAll 0 = .ok (.iconst 0, 1) := by decide +kernel
theorem dX0_coversAll_1 : decode cX0_coversAll 1 = .ok (.istore_n 2, 1) := by decide +kernel
theorem dX0_coversAll_2 : decode cX0_coversAll 2 = .ok (.iload_n 2, 1) := by decide +kernel
theorem dX0_coversAll_3 : decode cX0_coversAll 3 = .ok (.aload_n 0, 1) := by decide +kernel
theorem dX0_coversAll_4 : decode cX0_coversAll 4 = .ok (.getfield 24, 3) := by decide +kernel
theorem dX0_coversAll_7 : decode cX0_coversAll 7 = .ok (.if_icmp .ge 31, 3) := by decide +kernel
theorem dX0_coversAll_10 : decode cX0_coversAll 10 = .ok (.iload_n 2, 1) := by decide +kernel
theorem dX0_coversAll_11 : decode cX0_coversAll 11 = .ok (.aload_n 0, 1) := by decide +kernel
theorem dX0_coversAll_12 : decode cX0_coversAll 12 = .ok (.getfield 15, 3) := by decide +kernel
theorem dX0_coversAll_15 : decode cX0_coversAll 15 = .ok (.arraylength, 1) := by decide +kernel
theorem dX0_coversAll_16 : decode cX0_coversAll 16 = .ok (.if_icmp .ge 22, 3) := by decide +kernel
theorem dX0_coversAll_19 : decode cX0_coversAll 19 = .ok (.aload_n 0, 1) := by decide +kernel
theorem dX0_coversAll_20 : decode cX0_coversAll 20 = .ok (.getfield 15, 3) := by decide +kernel
theorem dX0_coversAll_23 : decode cX0_coversAll 23 = .ok (.iload_n 2, 1) := by decide +kernel
theorem dX0_coversAll_24 : decode cX0_coversAll 24 = .ok (.iaload, 1) := by decide +kernel
theorem dX0_coversAll_25 : decode cX0_coversAll 25 = .ok (.iload_n 1, 1) := by decide +kernel
theorem dX0_coversAll_26 : decode cX0_coversAll 26 = .ok (.iand, 1) := by decide +kernel
theorem dX0_coversAll_27 : decode cX0_coversAll 27 = .ok (.ifCond .ne 5, 3) := by decide +kernel
theorem dX0_coversAll_30 : decode cX0_coversAll 30 = .ok (.iconst 0, 1) := by decide +kernel
theorem dX0_coversAll_31 : decode cX0_coversAll 31 = .ok (.ireturn, 1) := by decide +kernel
theorem dX0_coversAll_32 : decode cX0_coversAll 32 = .ok (.iinc 2 1, 3) := by decide +kernel
theorem dX0_coversAll_35 : decode cX0_coversAll 35 = .ok (.goto (-33), 3) := by decide +kernel
theorem dX0_coversAll_38 : decode cX0_coversAll 38 = .ok (.iconst 1, 1) := by decide +kernel
theorem dX0_coversAll_39 : decode cX0_coversAll 39 = .ok (.ireturn, 1) := by decide +kernel
set_option maxRecDepth 20000 in
theorem ggX0_cheapestSet_X0_costWith : GoodIn wsX0_cheapestSet wsX0_costWith := goodIn_r _ [6, 7, 8, 9, 10, 11, 12, 13, 14, 15, 5, 16, 17, 25, 26, 27, 28, 29, 30] (by decide +kernel) (by decide +kernel)
set_option maxRecDepth 20000 in
theorem gX0_cheapestSet_X0_costWith : GoodIn wsX0_cheapestSet (wsV RX0 67 RX0 yX0_costWith wsX0_costWith) := goodIn_app (goodIn_of _ (by decide +kernel)) ggX0_cheapestSet_X0_costWith
set_option maxRecDepth 20000 in
theorem ggX0_cheapestSet_J6_bitCount_0f7a4 : GoodIn wsX0_cheapestSet wsJ6_bitCount_0f7a4 := goodIn_r _ [21, 22, 23, 24] (by decide +kernel) (by decide +kernel)
set_option maxRecDepth 20000 in
theorem gX0_cheapestSet_J6_bitCount_0f7a4 : GoodIn wsX0_cheapestSet (va_wsS RX0 89 yJ6_bitCount_0f7a4 wsJ6_bitCount_0f7a4) := goodIn_app (goodIn_of _ (by decide +kernel)) ggX0_cheapestSet_J6_bitCount_0f7a4
theorem dX0_cheapestSet_0 : decode cX0_cheapestSet 0 = .ok (.iconst 0, 1) := by decide +kernel
theorem dX0_cheapestSet_1 : decode cX0_cheapestSet 1 = .ok (.istore_n 1, 1) := by decide +kernel
theorem dX0_cheapestSet_2 : decode cX0_cheapestSet 2 = .ok (.aload_n 0, 1) := by decide +kernel
theorem dX0_cheapestSet_3 : decode cX0_cheapestSet 3 = .ok (.iconst 0, 1) := by decide +kernel
theorem dX0_cheapestSet_4 : decode cX0_cheapestSet 4 = .ok (.invokevirtual 67, 3) := by decide +kernel
theorem dX0_cheapestSet_7 : decode cX0_cheapestSet 7 = .ok (.istore_n 2, 1) := by decide +kernel
theorem dX0_cheapestSet_8 : decode cX0_cheapestSet 8 = .ok (.iconst 1, 1) := by decide +kernel
theorem dX0_cheapestSet_9 : decode cX0_cheapestSet 9 = .ok (.istore_n 3, 1) := by decide +kernel
theorem dX0_cheapestSet_10 : decode cX0_cheapestSet 10 = .ok (.iload_n 3, 1) := by decide +kernel
theorem dX0_cheapestSet_11 : decode cX0_cheapestSet 11 = .ok (.bipush 64, 2) := by decide +kernel
theorem dX0_cheapestSet_13 : decode cX0_cheapestSet 13 = .ok (.if_icmp .ge 37, 3) := by decide +kernel
theorem dX0_cheapestSet_16 : decode cX0_cheapestSet 16 = .ok (.aload_n 0, 1) := by decide +kernel
theorem dX0_cheapestSet_17 : decode cX0_cheapestSet 17 = .ok (.iload_n 3, 1) := by decide +kernel
theorem dX0_cheapestSet_18 : decode cX0_cheapestSet 18 = .ok (.invokevirtual 67, 3) := by decide +kernel
theorem dX0_cheapestSet_21 : decode cX0_cheapestSet 21 = .ok (.aload_n 0, 1) := by decide +kernel
theorem dX0_cheapestSet_22 : decode cX0_cheapestSet 22 = .ok (.getfield 42, 3) := by decide +kernel
theorem dX0_cheapestSet_25 : decode cX0_cheapestSet 25 = .ok (.iload_n 3, 1) := by decide +kernel
theorem dX0_cheapestSet_26 : decode cX0_cheapestSet 26 = .ok (.invokestatic 89, 3) := by decide +kernel
theorem dX0_cheapestSet_29 : decode cX0_cheapestSet 29 = .ok (.imul, 1) := by decide +kernel
theorem dX0_cheapestSet_30 : decode cX0_cheapestSet 30 = .ok (.iadd, 1) := by decide +kernel
theorem dX0_cheapestSet_31 : decode cX0_cheapestSet 31 = .ok (.istore 4, 2) := by decide +kernel
theorem dX0_cheapestSet_33 : decode cX0_cheapestSet 33 = .ok (.iload 4, 2) := by decide +kernel
theorem dX0_cheapestSet_35 : decode cX0_cheapestSet 35 = .ok (.iload_n 2, 1) := by decide +kernel
theorem dX0_cheapestSet_36 : decode cX0_cheapestSet 36 = .ok (.if_icmp .ge 8, 3) := by decide +kernel
theorem dX0_cheapestSet_39 : decode cX0_cheapestSet 39 = .ok (.iload 4, 2) := by decide +kernel
theorem dX0_cheapestSet_41 : decode cX0_cheapestSet 41 = .ok (.istore_n 2, 1) := by decide +kernel
theorem dX0_cheapestSet_42 : decode cX0_cheapestSet 42 = .ok (.iload_n 3, 1) := by decide +kernel
theorem dX0_cheapestSet_43 : decode cX0_cheapestSet 43 = .ok (.istore_n 1, 1) := by decide +kernel
theorem dX0_cheapestSet_44 : decode cX0_cheapestSet 44 = .ok (.iinc 3 1, 3) := by decide +kernel
theorem dX0_cheapestSet_47 : decode cX0_cheapestSet 47 = .ok (.goto (-37), 3) := by decide +kernel
theorem dX0_cheapestSet_50 : decode cX0_cheapestSet 50 = .ok (.iload_n 1, 1) := by decide +kernel
theorem dX0_cheapestSet_51 : decode cX0_cheapestSet 51 = .ok (.ireturn, 1) := by decide +kernel
set_option maxRecDepth 20000 in
theorem ggX1_init_X4_init : GoodIn wsX1_init wsX4_init := goodIn_r _ [9, 10, 2, 3, 11, 12, 13, 14, 15, 19, 20, 21, 22, 23, 24, 25, 26, 27, 28] (by decide +kernel) (by decide +kernel)
set_option maxRecDepth 20000 in
theorem gX1_init_X4_init_n17 : GoodIn wsX1_init (wsX4_init) := ggX1_init_X4_init
theorem dX1_init_0 : decode cX1_init 0 = .ok (.aload_n 0, 1) := by decide +kernel
theorem dX1_init_1 : decode cX1_init 1 = .ok (.invokespecial 3, 3) := by decide +kernel
theorem dX1_init_4 : decode cX1_init 4 = .ok (.aload_n 0, 1) := by decide +kernel
theorem dX1_init_5 : decode cX1_init 5 = .ok (.bipush 14, 2) := by decide +kernel
theorem dX1_init_7 : decode cX1_init 7 = .ok (.anewarray 9, 3) := by decide +kernel
theorem dX1_init_10 : decode cX1_init 10 = .ok (.putfield 11, 3) := by decide +kernel
theorem dX1_init_13 : decode cX1_init 13 = .ok (.iconst 0, 1) := by decide +kernel
theorem dX1_init_14 : decode cX1_init 14 = .ok (.istore_n 1, 1) := by decide +kernel
theorem dX1_init_15 : decode cX1_init 15 = .ok (.iload_n 1, 1) := by decide +kernel
theorem dX1_init_16 : decode cX1_init 16 = .ok (.aload_n 0, 1) := by decide +kernel
theorem dX1_init_17 : decode cX1_init 17 = .ok (.getfield 11, 3) := by decide +kernel
theorem dX1_init_20 : decode cX1_init 20 = .ok (.arraylength, 1) := by decide +kernel
theorem dX1_init_21 : decode cX1_init 21 = .ok (.if_icmp .ge 22, 3) := by decide +kernel
theorem dX1_init_24 : decode cX1_init 24 = .ok (.aload_n 0, 1) := by decide +kernel
theorem dX1_init_25 : decode cX1_init 25 = .ok (.getfield 11, 3) := by decide +kernel
theorem dX1_init_28 : decode cX1_init 28 = .ok (.iload_n 1, 1) := by decide +kernel
theorem dX1_init_29 : decode cX1_init 29 = .ok (.new 9, 3) := by decide +kernel
theorem dX1_init_32 : decode cX1_init 32 = .ok (.dup, 1) := by decide +kernel
theorem dX1_init_33 : decode cX1_init 33 = .ok (.invokespecial 17, 3) := by decide +kernel
theorem dX1_init_36 : decode cX1_init 36 = .ok (.aastore, 1) := by decide +kernel
theorem dX1_init_37 : decode cX1_init 37 = .ok (.iinc 1 1, 3) := by decide +kernel
theorem dX1_init_40 : decode cX1_init 40 = .ok (.goto (-25), 3) := by decide +kernel
theorem dX1_init_43 : decode cX1_init 43 = .ok (.return_, 1) := by decide +kernel
set_option maxRecDepth 20000 in
theorem ggX1_push_X1_stateAt : GoodIn wsX1_push wsX1_stateAt := goodIn_r _ [7, 2, 8, 27, 28, 29] (by decide +kernel) (by decide +kernel)
set_option maxRecDepth 20000 in
theorem gX1_push_X1_stateAt : GoodIn wsX1_push (wsV RX1 25 RX1 yX1_stateAt wsX1_stateAt) := goodIn_app (goodIn_of _ (by decide +kernel)) ggX1_push_X1_stateAt
set_option maxRecDepth 20000 in
theorem ggX1_push_X4_become : GoodIn wsX1_push wsX4_become := goodIn_r _ [13, 14, 15, 16, 17, 18, 19, 20, 21, 22, 23, 24, 25, 12, 26, 30, 31, 32, 33, 34, 35, 36, 37, 38, 39] (by decide +kernel) (by decide +kernel)
set_option maxRecDepth 20000 in
theorem gX1_push_X4_become : GoodIn wsX1_push (wsV RX1 29 RX4 yX4_become wsX4_become) := goodIn_app (goodIn_of _ (by decide +kernel)) ggX1_push_X4_become
theorem dX1_push_0 : decode cX1_push 0 = .ok (.aload_n 0, 1) := by decide +kernel
theorem dX1_push_1 : decode cX1_push 1 = .ok (.getfield 18, 3) := by decide +kernel
theorem dX1_push_4 : decode cX1_push 4 = .ok (.bipush 14, 2) := by decide +kernel
theorem dX1_push_6 : decode cX1_push 6 = .ok (.if_icmp .lt 26, 3) := by decide +kernel
theorem dX1_push_9 : decode cX1_push 9 = .ok (.aload_n 0, 1) := by decide +kernel
theorem dX1_push_10 : decode cX1_push 10 = .ok (.aload_n 0, 1) := by decide +kernel
theorem dX1_push_11 : decode cX1_push 11 = .ok (.getfield 22, 3) := by decide +kernel
theorem dX1_push_14 : decode cX1_push 14 = .ok (.iconst 1, 1) := by decide +kernel
theorem dX1_push_15 : decode cX1_push 15 = .ok (.iadd, 1) := by decide +kernel
theorem dX1_push_16 : decode cX1_push 16 = .ok (.bipush 14, 2) := by decide +kernel
theorem dX1_push_18 : decode cX1_push 18 = .ok (.irem, 1) := by decide +kernel
theorem dX1_push_19 : decode cX1_push 19 = .ok (.putfield 22, 3) := by decide +kernel
theorem dX1_push_22 : decode cX1_push 22 = .ok (.aload_n 0, 1) := by decide +kernel
theorem dX1_push_23 : decode cX1_push 23 = .ok (.dup, 1) := by decide +kernel
theorem dX1_push_24 : decode cX1_push 24 = .ok (.getfield 18, 3) := by decide +kernel
theorem dX1_push_27 : decode cX1_push 27 = .ok (.iconst 1, 1) := by decide +kernel
theorem dX1_push_28 : decode cX1_push 28 = .ok (.isub, 1) := by decide +kernel
theorem dX1_push_29 : decode cX1_push 29 = .ok (.putfield 18, 3) := by decide +kernel
theorem dX1_push_32 : decode cX1_push 32 = .ok (.aload_n 0, 1) := by decide +kernel
theorem dX1_push_33 : decode cX1_push 33 = .ok (.aload_n 0, 1) := by decide +kernel
theorem dX1_push_34 : decode cX1_push 34 = .ok (.getfield 18, 3) := by decide +kernel
theorem dX1_push_37 : decode cX1_push 37 = .ok (.invokevirtual 25, 3) := by decide +kernel
theorem dX1_push_40 : decode cX1_push 40 = .ok (.astore_n 2, 1) := by decide +kernel
theorem dX1_push_41 : decode cX1_push 41 = .ok (.aload_n 2, 1) := by decide +kernel
theorem dX1_push_42 : decode cX1_push 42 = .ok (.ifnull 18, 3) := by decide +kernel
theorem dX1_push_45 : decode cX1_push 45 = .ok (.aload_n 2, 1) := by decide +kernel
theorem dX1_push_46 : decode cX1_push 46 = .ok (.aload_n 1, 1) := by decide +kernel
theorem dX1_push_47 : decode cX1_push 47 = .ok (.invokevirtual 29, 3) := by decide +kernel
theorem dX1_push_50 : decode cX1_push 50 = .ok (.aload_n 0, 1) := by decide +kernel
theorem dX1_push_51 : decode cX1_push 51 = .ok (.dup, 1) := by decide +kernel
theorem dX1_push_52 : decode cX1_push 52 = .ok (.getfield 18, 3) := by decide +kernel
theorem dX1_push_55 : decode cX1_push 55 = .ok (.iconst 1, 1) := by decide +kernel
theorem dX1_push_56 : decode cX1_push 56 = .ok (.iadd, 1) := by decide +kernel
theorem dX1_push_57 : decode cX1_push 57 = .ok (.putfield 18, 3) := by decide +kernel
theorem dX1_push_60 : decode cX1_push 60 = .ok (.return_, 1) := by decide +kernel
set_option maxRecDepth 20000 in
theorem ggX1_pop_X1_stateAt : GoodIn wsX1_pop wsX1_stateAt := goodIn_r _ [6, 7, 8, 27, 28, 29] (by decide +kernel) (by decide +kernel)
set_option maxRecDepth 20000 in
theorem gX1_pop_X1_stateAt : GoodIn wsX1_pop (wsV RX1 25 RX1 yX1_stateAt wsX1_stateAt) := goodIn_app (goodIn_of _ (by decide +kernel)) ggX1_pop_X1_stateAt
set_option maxRecDepth 20000 in
theorem ggX1_pop_X4_become : GoodIn wsX1_pop wsX4_become := goodIn_r _ [13, 14, 15, 16, 17, 18, 19, 20, 21, 22, 23, 24, 25, 12, 26, 30, 31, 32, 33, 34, 35, 36, 37, 38, 39] (by decide +kernel) (by decide +kernel)
set_option maxRecDepth 20000 in
theorem gX1_pop_X4_become : GoodIn wsX1_pop (wsV RX1 29 RX4 yX4_become wsX4_become) := goodIn_app (goodIn_of _ (by decide +kernel)) ggX1_pop_X4_become
theorem dX1_pop_0 : decode cX1_pop 0 = .ok (.aload_n 0, 1) := by decide +kernel
theorem dX1_pop_1 : decode cX1_pop 1 = .ok (.getfield 18, 3) := by decide +kernel
theorem dX1_pop_4 : decode cX1_pop 4 = .ok (.ifCond .le 25, 3) := by decide +kernel
theorem dX1_pop_7 : decode cX1_pop 7 = .ok (.aload_n 0, 1) := by decide +kernel
theorem dX1_pop_8 : decode cX1_pop 8 = .ok (.dup, 1) := by decide +kernel
theorem dX1_pop_9 : decode cX1_pop 9 = .ok (.getfield 18, 3) := by decide +kernel
theorem dX1_pop_12 : decode cX1_pop 12 = .ok (.iconst 1, 1) := by decide +kernel
theorem dX1_pop_13 : decode cX1_pop 13 = .ok (.isub, 1) := by decide +kernel
theorem dX1_pop_14 : decode cX1_pop 14 = .ok (.putfield 18, 3) := by decide +kernel
theorem dX1_pop_17 : decode cX1_pop 17 = .ok (.aload_n 1, 1) := by decide +kernel
theorem dX1_pop_18 : decode cX1_pop 18 = .ok (.aload_n 0, 1) := by decide +kernel
theorem dX1_pop_19 : decode cX1_pop 19 = .ok (.aload_n 0, 1) := by decide +kernel
theorem dX1_pop_20 : decode cX1_pop 20 = .ok (.getfield 18, 3) := by decide +kernel
theorem dX1_pop_23 : decode cX1_pop 23 = .ok (.invokevirtual 25, 3) := by decide +kernel
theorem dX1_pop_26 : decode cX1_pop 26 = .ok (.invokevirtual 29, 3) := by decide +kernel
theorem dX1_pop_29 : decode cX1_pop 29 = .ok (.aload_n 0, 1) := by decide +kernel
theorem dX1_pop_30 : decode cX1_pop 30 = .ok (.getfield 18, 3) := by decide +kernel
theorem dX1_pop_33 : decode cX1_pop 33 = .ok (.ireturn, 1) := by decide +kernel
theorem dX1_stateAt_0 : decode cX1_stateAt 0 = .ok (.aload_n 0, 1) := by decide +kernel
theorem dX1_stateAt_1 : decode cX1_stateAt 1 = .ok (.getfield 22, 3) := by decide +kernel
theorem dX1_stateAt_4 : decode cX1_stateAt 4 = .ok (.iload_n 1, 1) := by decide +kernel
theorem dX1_stateAt_5 : decode cX1_stateAt 5 = .ok (.iadd, 1) := by decide +kernel
theorem dX1_stateAt_6 : decode cX1_stateAt 6 = .ok (.bipush 14, 2) := by decide +kernel
theorem dX1_stateAt_8 : decode cX1_stateAt 8 = .ok (.irem, 1) := by decide +kernel
theorem dX1_stateAt_9 : decode cX1_stateAt 9 = .ok (.istore_n 2, 1) := by decide +kernel
theorem dX1_stateAt_10 : decode cX1_stateAt 10 = .ok (.iload_n 2, 1) := by decide +kernel
theorem dX1_stateAt_11 : decode cX1_stateAt 11 = .ok (.ifCond .lt 21, 3) := by decide +kernel
theorem dX1_stateAt_14 : decode cX1_stateAt 14 = .ok (.iload_n 2, 1) := by decide +kernel
theorem dX1_stateAt_15 : decode cX1_stateAt 15 = .ok (.aload_n 0, 1) := by decide +kernel
theorem dX1_stateAt_16 : decode cX1_stateAt 16 = .ok (.getfield 11, 3) := by decide +kernel
theorem dX1_stateAt_19 : decode cX1_stateAt 19 = .ok (.arraylength, 1) := by decide +kernel
theorem dX1_stateAt_20 : decode cX1_stateAt 20 = .ok (.if_icmp .ge 12, 3) := by decide +kernel
theorem dX1_stateAt_23 : decode cX1_stateAt 23 = .ok (.aload_n 0, 1) := by decide +kernel
theorem dX1_stateAt_24 : decode cX1_stateAt 24 = .ok (.getfield 11, 3) := by decide +kernel
theorem dX1_stateAt_27 : decode cX1_stateAt 27 = .ok (.iload_n 2, 1) := by decide +kernel
theorem dX1_stateAt_28 : decode cX1_stateAt 28 = .ok (.aaload, 1) := by decide +kernel
theorem dX1_stateAt_29 : decode cX1_stateAt 29 = .ok (.goto 4, 3) := by decide +kernel
theorem dX1_stateAt_32 : decode cX1_stateAt 32 = .ok (.aconst_null, 1) := by decide +kernel
theorem dX1_stateAt_33 : decode cX1_stateAt 33 = .ok (.areturn, 1) := by decide +kernel
theorem dX2_componentAt_0 : decode cX2_componentAt 0 = .ok (.iconst 3, 1) := by decide +kernel
theorem dX2_componentAt_1 : decode cX2_componentAt 1 = .ok (.iload_n 0, 1) := by decide +kernel
theorem dX2_componentAt_2 : decode cX2_componentAt 2 = .ok (.imul, 1) := by decide +kernel
theorem dX2_componentAt_3 : decode cX2_componentAt 3 = .ok (.iload_n 1, 1) := by decide +kernel
theorem dX2_componentAt_4 : decode cX2_componentAt 4 = .ok (.iadd, 1) := by decide +kernel
theorem dX2_componentAt_5 : decode cX2_componentAt 5 = .ok (.istore_n 2, 1) := by decide +kernel
theorem dX2_componentAt_6 : decode cX2_componentAt 6 = .ok (.iload_n 2, 1) := by decide +kernel
theorem dX2_componentAt_7 : decode cX2_componentAt 7 = .ok (.ifCond .lt 19, 3) := by decide +kernel
theorem dX2_componentAt_10 : decode cX2_componentAt 10 = .ok (.iload_n 2, 1) := by decide +kernel
theorem dX2_componentAt_11 : decode cX2_componentAt 11 = .ok (.getstatic 9, 3) := by decide +kernel
theorem dX2_componentAt_14 : decode cX2_componentAt 14 = .ok (.arraylength, 1) := by decide +kernel
theorem dX2_componentAt_15 : decode cX2_componentAt 15 = .ok (.if_icmp .ge 11, 3) := by decide +kernel
theorem dX2_componentAt_18 : decode cX2_componentAt 18 = .ok (.getstatic 9, 3) := by decide +kernel
theorem dX2_componentAt_21 : decode cX2_componentAt 21 = .ok (.iload_n 2, 1) := by decide +kernel
theorem dX2_componentAt_22 : decode cX2_componentAt 22 = .ok (.iaload, 1) := by decide +kernel
theorem dX2_componentAt_23 : decode cX2_componentAt 23 = .ok (.goto 4, 3) := by decide +kernel
theorem dX2_componentAt_26 : decode cX2_componentAt 26 = .ok (.iconst (-1), 1) := by decide +kernel
theorem dX2_componentAt_27 : decode cX2_componentAt 27 = .ok (.ireturn, 1) := by decide +kernel
theorem dX2_tripleDigit_0 : decode cX2_tripleDigit 0 = .ok (.iload_n 1, 1) := by decide +kernel
theorem dX2_tripleDigit_1 : decode cX2_tripleDigit 1 = .ok (.lookupswitch 40 #[(0, 27), (1, 32)], 27) := by decide +kernel
theorem dX2_tripleDigit_28 : decode cX2_tripleDigit 28 = .ok (.iload_n 0, 1) := by decide +kernel
theorem dX2_tripleDigit_29 : decode cX2_tripleDigit 29 = .ok (.bipush 100, 2) := by decide +kernel
theorem dX2_tripleDigit_31 : decode cX2_tripleDigit 31 = .ok (.idiv, 1) := by decide +kernel
theorem dX2_tripleDigit_32 : decode cX2_tripleDigit 32 = .ok (.ireturn, 1) := by decide +kernel
theorem dX2_tripleDigit_33 : decode cX2_tripleDigit 33 = .ok (.iload_n 0, 1) := by decide +kernel
theorem dX2_tripleDigit_34 : decode cX2_tripleDigit 34 = .ok (.bipush 10, 2) := by decide +kernel
theorem dX2_tripleDigit_36 : decode cX2_tripleDigit 36 = .ok (.idiv, 1) := by decide +kernel
theorem dX2_tripleDigit_37 : decode cX2_tripleDigit 37 = .ok (.bipush 10, 2) := by decide +kernel
theorem dX2_tripleDigit_39 : decode cX2_tripleDigit 39 = .ok (.irem, 1) := by decide +kernel
theorem dX2_tripleDigit_40 : decode cX2_tripleDigit 40 = .ok (.ireturn, 1) := by decide +kernel
theorem dX2_tripleDigit_41 : decode cX2_tripleDigit 41 = .ok (.iload_n 0, 1) := by decide +kernel
theorem dX2_tripleDigit_42 : decode cX2_tripleDigit 42 = .ok (.bipush 10, 2) := by decide +kernel
theorem dX2_tripleDigit_44 : decode cX2_tripleDigit 44 = .ok (.irem, 1) := by decide +kernel
theorem dX2_tripleDigit_45 : decode cX2_tripleDigit 45 = .ok (.ireturn, 1) := by decide +kernel
theorem dX2_questionDigit_0 : decode cX2_questionDigit 0 = .ok (.iload_n 1, 1) := by decide +kernel
theorem dX2_questionDigit_1 : decode cX2_questionDigit 1 = .ok (.lookupswitch 40 #[(0, 27), (1, 32)], 27) := by decide +kernel
theorem dX2_questionDigit_28 : decode cX2_questionDigit 28 = .ok (.iload_n 0, 1) := by decide +kernel
theorem dX2_questionDigit_29 : decode cX2_questionDigit 29 = .ok (.bipush 121, 2) := by decide +kernel
theorem dX2_questionDigit_31 : decode cX2_questionDigit 31 = .ok (.idiv, 1) := by decide +kernel
theorem dX2_questionDigit_32 : decode cX2_questionDigit 32 = .ok (.ireturn, 1) := by decide +kernel
theorem dX2_questionDigit_33 : decode cX2_questionDigit 33 = .ok (.iload_n 0, 1) := by decide +kernel
theorem dX2_questionDigit_34 : decode cX2_questionDigit 34 = .ok (.bipush 11, 2) := by decide +kernel
theorem dX2_questionDigit_36 : decode cX2_questionDigit 36 = .ok (.idiv, 1) := by decide +kernel
theorem dX2_questionDigit_37 : decode cX2_questionDigit 37 = .ok (.bipush 11, 2) := by decide +kernel
theorem dX2_questionDigit_39 : decode cX2_questionDigit 39 = .ok (.irem, 1) := by decide +kernel
theorem dX2_questionDigit_40 : decode cX2_questionDigit 40 = .ok (.ireturn, 1) := by decide +kernel
theorem dX2_questionDigit_41 : decode cX2_questionDigit 41 = .ok (.iload_n 0, 1) := by decide +kernel
theorem dX2_questionDigit_42 : decode cX2_questionDigit 42 = .ok (.bipush 11, 2) := by decide +kernel
theorem dX2_questionDigit_44 : decode cX2_questionDigit 44 = .ok (.irem, 1) := by decide +kernel
theorem dX2_questionDigit_45 : decode cX2_questionDigit 45 = .ok (.ireturn, 1) := by decide +kernel
set_option maxRecDepth 20000 in
theorem ggX2_rankOf_X2_componentAt : GoodIn wsX2_rankOf wsX2_componentAt := goodIn_r _ [4, 5] (by decide +kernel) (by decide +kernel)
set_option maxRecDepth 20000 in
theorem gX2_rankOf_X2_componentAt : GoodIn wsX2_rankOf (va_wsS RX2 15 yX2_componentAt wsX2_componentAt) := goodIn_app (goodIn_of _ (by decide +kernel)) ggX2_rankOf_X2_componentAt
set_option maxRecDepth 20000 in
theorem ggX2_rankOf_X2_tripleDigit : GoodIn wsX2_rankOf wsX2_tripleDigit := goodIn_r _ [8] (by decide +kernel) (by decide +kernel)
set_option maxRecDepth 20000 in
theorem gX2_rankOf_X2_tripleDigit : GoodIn wsX2_rankOf (va_wsS RX2 19 yX2_tripleDigit wsX2_tripleDigit) := goodIn_app (goodIn_of _ (by decide +kernel)) ggX2_rankOf_X2_tripleDigit
theorem dX2_rankOf_0 : decode cX2_rankOf 0 = .ok (.iconst 0, 1) := by decide +kernel
theorem dX2_rankOf_1 : decode cX2_rankOf 1 = .ok (.istore_n 2, 1) := by decide +kernel
theorem dX2_rankOf_2 : decode cX2_rankOf 2 = .ok (.iconst 0, 1) := by decide +kernel
theorem dX2_rankOf_3 : decode cX2_rankOf 3 = .ok (.istore_n 3, 1) := by decide +kernel
theorem dX2_rankOf_4 : decode cX2_rankOf 4 = .ok (.iload_n 3, 1) := by decide +kernel
theorem dX2_rankOf_5 : decode cX2_rankOf 5 = .ok (.iconst 3, 1) := by decide +kernel
theorem dX2_rankOf_6 : decode cX2_rankOf 6 = .ok (.if_icmp .ge 24, 3) := by decide +kernel
theorem dX2_rankOf_9 : decode cX2_rankOf 9 = .ok (.bipush 10, 2) := by decide +kernel
theorem dX2_rankOf_11 : decode cX2_rankOf 11 = .ok (.iload_n 2, 1) := by decide +kernel
theorem dX2_rankOf_12 : decode cX2_rankOf 12 = .ok (.imul, 1) := by decide +kernel
theorem dX2_rankOf_13 : decode cX2_rankOf 13 = .ok (.iload_n 0, 1) := by decide +kernel
theorem dX2_rankOf_14 : decode cX2_rankOf 14 = .ok (.iload_n 1, 1) := by decide +kernel
theorem dX2_rankOf_15 : decode cX2_rankOf 15 = .ok (.iload_n 3, 1) := by decide +kernel
theorem dX2_rankOf_16 : decode cX2_rankOf 16 = .ok (.invokestatic 15, 3) := by decide +kernel
theorem dX2_rankOf_19 : decode cX2_rankOf 19 = .ok (.invokestatic 19, 3) := by decide +kernel
theorem dX2_rankOf_22 : decode cX2_rankOf 22 = .ok (.iadd, 1) := by decide +kernel
theorem dX2_rankOf_23 : decode cX2_rankOf 23 = .ok (.istore_n 2, 1) := by decide +kernel
theorem dX2_rankOf_24 : decode cX2_rankOf 24 = .ok (.iinc 3 1, 3) := by decide +kernel
theorem dX2_rankOf_27 : decode cX2_rankOf 27 = .ok (.goto (-23), 3) := by decide +kernel
theorem dX2_rankOf_30 : decode cX2_rankOf 30 = .ok (.iload_n 2, 1) := by decide +kernel
theorem dX2_rankOf_31 : decode cX2_rankOf 31 = .ok (.ireturn, 1) := by decide +kernel
set_option maxRecDepth 20000 in
theorem ggX2_reachOf_X2_componentAt : GoodIn wsX2_reachOf wsX2_componentAt := goodIn_r _ [4, 5] (by decide +kernel) (by decide +kernel)
set_option maxRecDepth 20000 in
theorem gX2_reachOf_X2_componentAt : GoodIn wsX2_reachOf (va_wsS RX2 15 yX2_componentAt wsX2_componentAt) := goodIn_app (goodIn_of _ (by decide +kernel)) ggX2_reachOf_X2_componentAt
set_option maxRecDepth 20000 in
theorem ggX2_reachOf_X2_questionDigit : GoodIn wsX2_reachOf wsX2_questionDigit := goodIn_r _ [8] (by decide +kernel) (by decide +kernel)
set_option maxRecDepth 20000 in
theorem gX2_reachOf_X2_questionDigit : GoodIn wsX2_reachOf (va_wsS RX2 22 yX2_questionDigit wsX2_questionDigit) := goodIn_app (goodIn_of _ (by decide +kernel)) ggX2_reachOf_X2_questionDigit
theorem dX2_reachOf_0 : decode cX2_reachOf 0 = .ok (.iconst 0, 1) := by decide +kernel
theorem dX2_reachOf_1 : decode cX2_reachOf 1 = .ok (.istore_n 2, 1) := by decide +kernel
theorem dX2_reachOf_2 : decode cX2_reachOf 2 = .ok (.iload_n 2, 1) := by decide +kernel
theorem dX2_reachOf_3 : decode cX2_reachOf 3 = .ok (.iconst 3, 1) := by decide +kernel
theorem dX2_reachOf_4 : decode cX2_reachOf 4 = .ok (.if_icmp .ge 23, 3) := by decide +kernel
theorem dX2_reachOf_7 : decode cX2_reachOf 7 = .ok (.iload_n 0, 1) := by decide +kernel
theorem dX2_reachOf_8 : decode cX2_reachOf 8 = .ok (.iload_n 1, 1) := by decide +kernel
theorem dX2_reachOf_9 : decode cX2_reachOf 9 = .ok (.iload_n 2, 1) := by decide +kernel
theorem dX2_reachOf_10 : decode cX2_reachOf 10 = .ok (.invokestatic 15, 3) := by decide +kernel
theorem dX2_reachOf_13 : decode cX2_reachOf 13 = .ok (.invokestatic 22, 3) := by decide +kernel
theorem dX2_reachOf_16 : decode cX2_reachOf 16 = .ok (.bipush 10, 2) := by decide +kernel
theorem dX2_reachOf_18 : decode cX2_reachOf 18 = .ok (.if_icmp .eq 9, 3) := by decide +kernel
theorem dX2_reachOf_21 : decode cX2_reachOf 21 = .ok (.iinc 2 1, 3) := by decide +kernel
theorem dX2_reachOf_24 : decode cX2_reachOf 24 = .ok (.goto (-22), 3) := by decide +kernel
theorem dX2_reachOf_27 : decode cX2_reachOf 27 = .ok (.iload_n 2, 1) := by decide +kernel
theorem dX2_reachOf_28 : decode cX2_reachOf 28 = .ok (.ireturn, 1) := by decide +kernel
set_option maxRecDepth 20000 in
theorem ggX2_reachesAll_X2_reachOf : GoodIn wsX2_reachesAll wsX2_reachOf := goodIn_r _ [4, 5, 6, 3, 7, 8, 9, 10, 11] (by decide +kernel) (by decide +kernel)
set_option maxRecDepth 20000 in
theorem gX2_reachesAll_X2_reachOf : GoodIn wsX2_reachesAll (va_wsS RX2 25 yX2_reachOf wsX2_reachOf) := goodIn_app (goodIn_of _ (by decide +kernel)) ggX2_reachesAll_X2_reachOf
set_option maxRecDepth 20000 in
theorem ggX2_reachesAll_X2_countBound : GoodIn wsX2_reachesAll wsX2_countBound := goodIn_r _ [14, 9, 10, 3, 11] (by decide +kernel) (by decide +kernel)
set_option maxRecDepth 20000 in
theorem gX2_reachesAll_X2_countBound : GoodIn wsX2_reachesAll (va_wsS RX2 28 yX2_countBound wsX2_countBound) := goodIn_app (goodIn_of _ (by decide +kernel)) ggX2_reachesAll_X2_countBound
theorem dX2_reachesAll_0 : decode cX2_reachesAll 0 = .ok (.iload_n 0, 1) := by decide +kernel
theorem dX2_reachesAll_1 : decode cX2_reachesAll 1 = .ok (.iload_n 1, 1) := by decide +kernel
theorem dX2_reachesAll_2 : decode cX2_reachesAll 2 = .ok (.invokestatic 25, 3) := by decide +kernel
theorem dX2_reachesAll_5 : decode cX2_reachesAll 5 = .ok (.iload_n 0, 1) := by decide +kernel
theorem dX2_reachesAll_6 : decode cX2_reachesAll 6 = .ok (.invokestatic 28, 3) := by decide +kernel
theorem dX2_reachesAll_9 : decode cX2_reachesAll 9 = .ok (.if_icmp .ne 7, 3) := by decide +kernel
theorem dX2_reachesAll_12 : decode cX2_reachesAll 12 = .ok (.iconst 1, 1) := by decide +kernel
theorem dX2_reachesAll_13 : decode cX2_reachesAll 13 = .ok (.goto 4, 3) := by decide +kernel
theorem dX2_reachesAll_16 : decode cX2_reachesAll 16 = .ok (.iconst 0, 1) := by decide +kernel
theorem dX2_reachesAll_17 : decode cX2_reachesAll 17 = .ok (.ireturn, 1) := by decide +kernel
set_option maxRecDepth 20000 in
theorem ggX2_reachedPart_X2_componentAt : GoodIn wsX2_reachedPart wsX2_componentAt := goodIn_r _ [4, 5] (by decide +kernel) (by decide +kernel)
set_option maxRecDepth 20000 in
theorem gX2_reachedPart_X2_componentAt : GoodIn wsX2_reachedPart (va_wsS RX2 15 yX2_componentAt wsX2_componentAt) := goodIn_app (goodIn_of _ (by decide +kernel)) ggX2_reachedPart_X2_componentAt
set_option maxRecDepth 20000 in
theorem ggX2_reachedPart_X2_unitOf : GoodIn wsX2_reachedPart wsX2_unitOf := goodIn_r _ [8] (by decide +kernel) (by decide +kernel)
set_option maxRecDepth 20000 in
theorem gX2_reachedPart_X2_unitOf : GoodIn wsX2_reachedPart (va_wsS RX2 32 yX2_unitOf wsX2_unitOf) := goodIn_app (goodIn_of _ (by decide +kernel)) ggX2_reachedPart_X2_unitOf
set_option maxRecDepth 20000 in
theorem ggX2_reachedPart_X2_questionDigit : GoodIn wsX2_reachedPart wsX2_questionDigit := goodIn_r _ [11] (by decide +kernel) (by decide +kernel)
set_option maxRecDepth 20000 in
theorem gX2_reachedPart_X2_questionDigit : GoodIn wsX2_reachedPart (va_wsS RX2 22 yX2_questionDigit wsX2_questionDigit) := goodIn_app (goodIn_of _ (by decide +kernel)) ggX2_reachedPart_X2_questionDigit
theorem dX2_reachedPart_0 : decode cX2_reachedPart 0 = .ok (.iload_n 0, 1) := by decide +kernel
theorem dX2_reachedPart_1 : decode cX2_reachedPart 1 = .ok (.istore_n 3, 1) := by decide +kernel
theorem dX2_reachedPart_2 : decode cX2_reachedPart 2 = .ok (.iload_n 2, 1) := by decide +kernel
theorem dX2_reachedPart_3 : decode cX2_reachedPart 3 = .ok (.istore 4, 2) := by decide +kernel
theorem dX2_reachedPart_5 : decode cX2_reachedPart 5 = .ok (.iload 4, 2) := by decide +kernel
theorem dX2_reachedPart_7 : decode cX2_reachedPart 7 = .ok (.iconst 3, 1) := by decide +kernel
theorem dX2_reachedPart_8 : decode cX2_reachedPart 8 = .ok (.if_icmp .ge 35, 3) := by decide +kernel
theorem dX2_reachedPart_11 : decode cX2_reachedPart 11 = .ok (.iload_n 1, 1) := by decide +kernel
theorem dX2_reachedPart_12 : decode cX2_reachedPart 12 = .ok (.iload 4, 2) := by decide +kernel
theorem dX2_reachedPart_14 : decode cX2_reachedPart 14 = .ok (.invokestatic 15, 3) := by decide +kernel
theorem dX2_reachedPart_17 : decode cX2_reachedPart 17 = .ok (.istore 5, 2) := by decide +kernel
theorem dX2_reachedPart_19 : decode cX2_reachedPart 19 = .ok (.iload_n 3, 1) := by decide +kernel
theorem dX2_reachedPart_20 : decode cX2_reachedPart 20 = .ok (.iload 5, 2) := by decide +kernel
theorem dX2_reachedPart_22 : decode cX2_reachedPart 22 = .ok (.invokestatic 32, 3) := by decide +kernel
theorem dX2_reachedPart_25 : decode cX2_reachedPart 25 = .ok (.bipush 10, 2) := by decide +kernel
theorem dX2_reachedPart_27 : decode cX2_reachedPart 27 = .ok (.iload_n 0, 1) := by decide +kernel
theorem dX2_reachedPart_28 : decode cX2_reachedPart 28 = .ok (.iload 5, 2) := by decide +kernel
theorem dX2_reachedPart_30 : decode cX2_reachedPart 30 = .ok (.invokestatic 22, 3) := by decide +kernel
theorem dX2_reachedPart_33 : decode cX2_reachedPart 33 = .ok (.isub, 1) := by decide +kernel
theorem dX2_reachedPart_34 : decode cX2_reachedPart 34 = .ok (.imul, 1) := by decide +kernel
theorem dX2_reachedPart_35 : decode cX2_reachedPart 35 = .ok (.iadd, 1) := by decide +kernel
theorem dX2_reachedPart_36 : decode cX2_reachedPart 36 = .ok (.istore_n 3, 1) := by decide +kernel
theorem dX2_reachedPart_37 : decode cX2_reachedPart 37 = .ok (.iinc 4 1, 3) := by decide +kernel
theorem dX2_reachedPart_40 : decode cX2_reachedPart 40 = .ok (.goto (-35), 3) := by decide +kernel
theorem dX2_reachedPart_43 : decode cX2_reachedPart 43 = .ok (.iload_n 3, 1) := by decide +kernel
theorem dX2_reachedPart_44 : decode cX2_reachedPart 44 = .ok (.ireturn, 1) := by decide +kernel
set_option maxRecDepth 20000 in
theorem ggX2_countBound_X2_questionDigit : GoodIn wsX2_countBound wsX2_questionDigit := goodIn_r _ [4] (by decide +kernel) (by decide +kernel)
set_option maxRecDepth 20000 in
theorem gX2_countBound_X2_questionDigit : GoodIn wsX2_countBound (va_wsS RX2 22 yX2_questionDigit wsX2_questionDigit) := goodIn_app (goodIn_of _ (by decide +kernel)) ggX2_countBound_X2_questionDigit
theorem dX2_countBound_0 : decode cX2_countBound 0 = .ok (.iconst 0, 1) := by decide +kernel
theorem dX2_countBound_1 : decode cX2_countBound 1 = .ok (.istore_n 1, 1) := by decide +kernel
theorem dX2_countBound_2 : decode cX2_countBound 2 = .ok (.iconst 0, 1) := by decide +kernel
theorem dX2_countBound_3 : decode cX2_countBound 3 = .ok (.istore_n 2, 1) := by decide +kernel
theorem dX2_countBound_4 : decode cX2_countBound 4 = .ok (.iload_n 2, 1) := by decide +kernel
theorem dX2_countBound_5 : decode cX2_countBound 5 = .ok (.iconst 3, 1) := by decide +kernel
theorem dX2_countBound_6 : decode cX2_countBound 6 = .ok (.if_icmp .ge 22, 3) := by decide +kernel
theorem dX2_countBound_9 : decode cX2_countBound 9 = .ok (.iload_n 0, 1) := by decide +kernel
theorem dX2_countBound_10 : decode cX2_countBound 10 = .ok (.iload_n 2, 1) := by decide +kernel
theorem dX2_countBound_11 : decode cX2_countBound 11 = .ok (.invokestatic 22, 3) := by decide +kernel
theorem dX2_countBound_14 : decode cX2_countBound 14 = .ok (.bipush 10, 2) := by decide +kernel
theorem dX2_countBound_16 : decode cX2_countBound 16 = .ok (.if_icmp .eq 6, 3) := by decide +kernel
theorem dX2_countBound_19 : decode cX2_countBound 19 = .ok (.iinc 1 1, 3) := by decide +kernel
theorem dX2_countBound_22 : decode cX2_countBound 22 = .ok (.iinc 2 1, 3) := by decide +kernel
theorem dX2_countBound_25 : decode cX2_countBound 25 = .ok (.goto (-21), 3) := by decide +kernel
theorem dX2_countBound_28 : decode cX2_countBound 28 = .ok (.iload_n 1, 1) := by decide +kernel
theorem dX2_countBound_29 : decode cX2_countBound 29 = .ok (.ireturn, 1) := by decide +kernel
theorem dX2_unitOf_0 : decode cX2_unitOf 0 = .ok (.iload_n 0, 1) := by decide +kernel
theorem dX2_unitOf_1 : decode cX2_unitOf 1 = .ok (.lookupswitch 33 #[(0, 27), (1, 30)], 27) := by decide +kernel
theorem dX2_unitOf_28 : decode cX2_unitOf 28 = .ok (.bipush 121, 2) := by decide +kernel
theorem dX2_unitOf_30 : decode cX2_unitOf 30 = .ok (.ireturn, 1) := by decide +kernel
theorem dX2_unitOf_31 : decode cX2_unitOf 31 = .ok (.bipush 11, 2) := by decide +kernel
theorem dX2_unitOf_33 : decode cX2_unitOf 33 = .ok (.ireturn, 1) := by decide +kernel
theorem dX2_unitOf_34 : decode cX2_unitOf 34 = .ok (.iconst 1, 1) := by decide +kernel
theorem dX2_unitOf_35 : decode cX2_unitOf 35 = .ok (.ireturn, 1) := by decide +kernel
set_option maxRecDepth 20000 in
theorem ggX3_init_X4_init : GoodIn wsX3_init wsX4_init := goodIn_r _ [9, 10, 2, 3, 11, 12, 13, 14, 15, 16, 17, 18, 19, 20, 21, 22, 23, 24, 25] (by decide +kernel) (by decide +kernel)
set_option maxRecDepth 20000 in
theorem gX3_init_X4_init_n9 : GoodIn wsX3_init (wsX4_init) := ggX3_init_X4_init
theorem dX3_init_0 : decode cX3_init 0 = .ok (.aload_n 0, 1) := by decide +kernel
theorem dX3_init_1 : decode cX3_init 1 = .ok (.invokespecial 1, 3) := by decide +kernel
theorem dX3_init_4 : decode cX3_init 4 = .ok (.aload_n 0, 1) := by decide +kernel
theorem dX3_init_5 : decode cX3_init 5 = .ok (.new 7, 3) := by decide +kernel
theorem dX3_init_8 : decode cX3_init 8 = .ok (.dup, 1) := by decide +kernel
theorem dX3_init_9 : decode cX3_init 9 = .ok (.invokespecial 9, 3) := by decide +kernel
theorem dX3_init_12 : decode cX3_init 12 = .ok (.putfield 10, 3) := by decide +kernel
theorem dX3_init_15 : decode cX3_init 15 = .ok (.return_, 1) := by decide +kernel
theorem dX4_init_0 : decode cX4_init 0 = .ok (.aload_n 0, 1) := by decide +kernel
theorem dX4_init_1 : decode cX4_init 1 = .ok (.invokespecial 3, 3) := by decide +kernel
theorem dX4_init_4 : decode cX4_init 4 = .ok (.aload_n 0, 1) := by decide +kernel
theorem dX4_init_5 : decode cX4_init 5 = .ok (.bipush 40, 2) := by decide +kernel
theorem dX4_init_7 : decode cX4_init 7 = .ok (.newarray .int, 2) := by decide +kernel
theorem dX4_init_9 : decode cX4_init 9 = .ok (.putfield 9, 3) := by decide +kernel
theorem dX4_init_12 : decode cX4_init 12 = .ok (.aload_n 0, 1) := by decide +kernel
theorem dX4_init_13 : decode cX4_init 13 = .ok (.iconst 1, 1) := by decide +kernel
theorem dX4_init_14 : decode cX4_init 14 = .ok (.putfield 15, 3) := by decide +kernel
theorem dX4_init_17 : decode cX4_init 17 = .ok (.aload_n 0, 1) := by decide +kernel
theorem dX4_init_18 : decode cX4_init 18 = .ok (.bipush 12, 2) := by decide +kernel
theorem dX4_init_20 : decode cX4_init 20 = .ok (.newarray .int, 2) := by decide +kernel
theorem dX4_init_22 : decode cX4_init 22 = .ok (.putfield 19, 3) := by decide +kernel
theorem dX4_init_25 : decode cX4_init 25 = .ok (.aload_n 0, 1) := by decide +kernel
theorem dX4_init_26 : decode cX4_init 26 = .ok (.iconst 4, 1) := by decide +kernel
theorem dX4_init_27 : decode cX4_init 27 = .ok (.putfield 22, 3) := by decide +kernel
theorem dX4_init_30 : decode cX4_init 30 = .ok (.return_, 1) := by decide +kernel
set_option maxRecDepth 20000 in
theorem ggX4_become_X4_copyRow : GoodIn wsX4_become wsX4_copyRow := goodIn_r _ [14] (by decide +kernel) (by decide +kernel)
set_option maxRecDepth 20000 in
theorem gX4_become_X4_copyRow : GoodIn wsX4_become (va_wsS RX4 28 yX4_copyRow wsX4_copyRow) := goodIn_app (goodIn_of _ (by decide +kernel)) ggX4_become_X4_copyRow
theorem dX4_become_0 : decode cX4_become 0 = .ok (.aload_n 1, 1) := by decide +kernel
theorem dX4_become_1 : decode cX4_become 1 = .ok (.ifnonnull 4, 3) := by decide +kernel
theorem dX4_become_4 : decode cX4_become 4 = .ok (.return_, 1) := by decide +kernel
theorem dX4_become_5 : decode cX4_become 5 = .ok (.aload_n 0, 1) := by decide +kernel
theorem dX4_become_6 : decode cX4_become 6 = .ok (.aload_n 1, 1) := by decide +kernel
theorem dX4_become_7 : decode cX4_become 7 = .ok (.getfield 25, 3) := by decide +kernel
theorem dX4_become_10 : decode cX4_become 10 = .ok (.putfield 25, 3) := by decide +kernel
theorem dX4_become_13 : decode cX4_become 13 = .ok (.aload_n 1, 1) := by decide +kernel
theorem dX4_become_14 : decode cX4_become 14 = .ok (.getfield 9, 3) := by decide +kernel
theorem dX4_become_17 : decode cX4_become 17 = .ok (.aload_n 0, 1) := by decide +kernel
theorem dX4_become_18 : decode cX4_become 18 = .ok (.getfield 9, 3) := by decide +kernel
theorem dX4_become_21 : decode cX4_become 21 = .ok (.aload_n 0, 1) := by decide +kernel
theorem dX4_become_22 : decode cX4_become 22 = .ok (.getfield 25, 3) := by decide +kernel
theorem dX4_become_25 : decode cX4_become 25 = .ok (.invokestatic 28, 3) := by decide +kernel
theorem dX4_become_28 : decode cX4_become 28 = .ok (.aload_n 0, 1) := by decide +kernel
theorem dX4_become_29 : decode cX4_become 29 = .ok (.aload_n 1, 1) := by decide +kernel
theorem dX4_become_30 : decode cX4_become 30 = .ok (.getfield 15, 3) := by decide +kernel
theorem dX4_become_33 : decode cX4_become 33 = .ok (.putfield 15, 3) := by decide +kernel
theorem dX4_become_36 : decode cX4_become 36 = .ok (.aload_n 0, 1) := by decide +kernel
theorem dX4_become_37 : decode cX4_become 37 = .ok (.aload_n 1, 1) := by decide +kernel
theorem dX4_become_38 : decode cX4_become 38 = .ok (.getfield 32, 3) := by decide +kernel
theorem dX4_become_41 : decode cX4_become 41 = .ok (.putfield 32, 3) := by decide +kernel
theorem dX4_become_44 : decode cX4_become 44 = .ok (.aload_n 0, 1) := by decide +kernel
theorem dX4_become_45 : decode cX4_become 45 = .ok (.aload_n 1, 1) := by decide +kernel
theorem dX4_become_46 : decode cX4_become 46 = .ok (.getfield 35, 3) := by decide +kernel
theorem dX4_become_49 : decode cX4_become 49 = .ok (.putfield 35, 3) := by decide +kernel
theorem dX4_become_52 : decode cX4_become 52 = .ok (.aload_n 0, 1) := by decide +kernel
theorem dX4_become_53 : decode cX4_become 53 = .ok (.aload_n 1, 1) := by decide +kernel
theorem dX4_become_54 : decode cX4_become 54 = .ok (.getfield 38, 3) := by decide +kernel
theorem dX4_become_57 : decode cX4_become 57 = .ok (.putfield 38, 3) := by decide +kernel
theorem dX4_become_60 : decode cX4_become 60 = .ok (.aload_n 0, 1) := by decide +kernel
theorem dX4_become_61 : decode cX4_become 61 = .ok (.aload_n 1, 1) := by decide +kernel
theorem dX4_become_62 : decode cX4_become 62 = .ok (.getfield 41, 3) := by decide +kernel
theorem dX4_become_65 : decode cX4_become 65 = .ok (.putfield 41, 3) := by decide +kernel
theorem dX4_become_68 : decode cX4_become 68 = .ok (.aload_n 0, 1) := by decide +kernel
theorem dX4_become_69 : decode cX4_become 69 = .ok (.aload_n 1, 1) := by decide +kernel
theorem dX4_become_70 : decode cX4_become 70 = .ok (.getfield 44, 3) := by decide +kernel
theorem dX4_become_73 : decode cX4_become 73 = .ok (.putfield 44, 3) := by decide +kernel
theorem dX4_become_76 : decode cX4_become 76 = .ok (.aload_n 1, 1) := by decide +kernel
theorem dX4_become_77 : decode cX4_become 77 = .ok (.getfield 19, 3) := by decide +kernel
theorem dX4_become_80 : decode cX4_become 80 = .ok (.aload_n 0, 1) := by decide +kernel
theorem dX4_become_81 : decode cX4_become 81 = .ok (.getfield 19, 3) := by decide +kernel
theorem dX4_become_84 : decode cX4_become 84 = .ok (.aload_n 0, 1) := by decide +kernel
theorem dX4_become_85 : decode cX4_become 85 = .ok (.getfield 44, 3) := by decide +kernel
theorem dX4_become_88 : decode cX4_become 88 = .ok (.invokestatic 28, 3) := by decide +kernel
theorem dX4_become_91 : decode cX4_become 91 = .ok (.aload_n 0, 1) := by decide +kernel
theorem dX4_become_92 : decode cX4_become 92 = .ok (.aload_n 1, 1) := by decide +kernel
theorem dX4_become_93 : decode cX4_become 93 = .ok (.getfield 22, 3) := by decide +kernel
theorem dX4_become_96 : decode cX4_become 96 = .ok (.putfield 22, 3) := by decide +kernel
theorem dX4_become_99 : decode cX4_become 99 = .ok (.return_, 1) := by decide +kernel
theorem dX4_copyRow_0 : decode cX4_copyRow 0 = .ok (.iconst 0, 1) := by decide +kernel
theorem dX4_copyRow_1 : decode cX4_copyRow 1 = .ok (.istore_n 3, 1) := by decide +kernel
theorem dX4_copyRow_2 : decode cX4_copyRow 2 = .ok (.iload_n 3, 1) := by decide +kernel
theorem dX4_copyRow_3 : decode cX4_copyRow 3 = .ok (.iload_n 2, 1) := by decide +kernel
theorem dX4_copyRow_4 : decode cX4_copyRow 4 = .ok (.if_icmp .ge 27, 3) := by decide +kernel
theorem dX4_copyRow_7 : decode cX4_copyRow 7 = .ok (.iload_n 3, 1) := by decide +kernel
theorem dX4_copyRow_8 : decode cX4_copyRow 8 = .ok (.aload_n 0, 1) := by decide +kernel
theorem dX4_copyRow_9 : decode cX4_copyRow 9 = .ok (.arraylength, 1) := by decide +kernel
theorem dX4_copyRow_10 : decode cX4_copyRow 10 = .ok (.if_icmp .ge 21, 3) := by decide +kernel
theorem dX4_copyRow_13 : decode cX4_copyRow 13 = .ok (.iload_n 3, 1) := by decide +kernel
theorem dX4_copyRow_14 : decode cX4_copyRow 14 = .ok (.aload_n 1, 1) := by decide +kernel
theorem dX4_copyRow_15 : decode cX4_copyRow 15 = .ok (.arraylength, 1) := by decide +kernel
theorem dX4_copyRow_16 : decode cX4_copyRow 16 = .ok (.if_icmp .ge 15, 3) := by decide +kernel
theorem dX4_copyRow_19 : decode cX4_copyRow 19 = .ok (.aload_n 1, 1) := by decide +kernel
theorem dX4_copyRow_20 : decode cX4_copyRow 20 = .ok (.iload_n 3, 1) := by decide +kernel
theorem dX4_copyRow_21 : decode cX4_copyRow 21 = .ok (.aload_n 0, 1) := by decide +kernel
theorem dX4_copyRow_22 : decode cX4_copyRow 22 = .ok (.iload_n 3, 1) := by decide +kernel
theorem dX4_copyRow_23 : decode cX4_copyRow 23 = .ok (.iaload, 1) := by decide +kernel
theorem dX4_copyRow_24 : decode cX4_copyRow 24 = .ok (.iastore, 1) := by decide +kernel
theorem dX4_copyRow_25 : decode cX4_copyRow 25 = .ok (.iinc 3 1, 3) := by decide +kernel
theorem dX4_copyRow_28 : decode cX4_copyRow 28 = .ok (.goto (-26), 3) := by decide +kernel
theorem dX4_copyRow_31 : decode cX4_copyRow 31 = .ok (.return_, 1) := by decide +kernel
theorem dX4_look_0 : decode cX4_look 0 = .ok (.iconst 0, 1) := by decide +kernel
theorem dX4_look_1 : decode cX4_look 1 = .ok (.istore_n 1, 1) := by decide +kernel
theorem dX4_look_2 : decode cX4_look 2 = .ok (.iload_n 1, 1) := by decide +kernel
theorem dX4_look_3 : decode cX4_look 3 = .ok (.bipush 30, 2) := by decide +kernel
theorem dX4_look_5 : decode cX4_look 5 = .ok (.if_icmp .ge 19, 3) := by decide +kernel
theorem dX4_look_8 : decode cX4_look 8 = .ok (.iconst 1, 1) := by decide +kernel
theorem dX4_look_9 : decode cX4_look 9 = .ok (.iload_n 1, 1) := by decide +kernel
theorem dX4_look_10 : decode cX4_look 10 = .ok (.ishl, 1) := by decide +kernel
theorem dX4_look_11 : decode cX4_look 11 = .ok (.aload_n 0, 1) := by decide +kernel
theorem dX4_look_12 : decode cX4_look 12 = .ok (.getfield 25, 3) := by decide +kernel
theorem dX4_look_15 : decode cX4_look 15 = .ok (.if_icmp .gt 9, 3) := by decide +kernel
theorem dX4_look_18 : decode cX4_look 18 = .ok (.iinc 1 1, 3) := by decide +kernel
theorem dX4_look_21 : decode cX4_look 21 = .ok (.goto (-19), 3) := by decide +kernel
theorem dX4_look_24 : decode cX4_look 24 = .ok (.iload_n 1, 1) := by decide +kernel
theorem dX4_look_25 : decode cX4_look 25 = .ok (.ireturn, 1) := by decide +kernel
theorem dX4_tripleAt_0 : decode cX4_tripleAt 0 = .ok (.iload_n 1, 1) := by decide +kernel
theorem dX4_tripleAt_1 : decode cX4_tripleAt 1 = .ok (.ifCond .lt 29, 3) := by decide +kernel
theorem dX4_tripleAt_4 : decode cX4_tripleAt 4 = .ok (.iload_n 1, 1) := by decide +kernel
theorem dX4_tripleAt_5 : decode cX4_tripleAt 5 = .ok (.aload_n 0, 1) := by decide +kernel
theorem dX4_tripleAt_6 : decode cX4_tripleAt 6 = .ok (.getfield 25, 3) := by decide +kernel
theorem dX4_tripleAt_9 : decode cX4_tripleAt 9 = .ok (.if_icmp .ge 21, 3) := by decide +kernel
theorem dX4_tripleAt_12 : decode cX4_tripleAt 12 = .ok (.iload_n 1, 1) := by decide +kernel
theorem dX4_tripleAt_13 : decode cX4_tripleAt 13 = .ok (.aload_n 0, 1) := by decide +kernel
theorem dX4_tripleAt_14 : decode cX4_tripleAt 14 = .ok (.getfield 9, 3) := by decide +kernel
theorem dX4_tripleAt_17 : decode cX4_tripleAt 17 = .ok (.arraylength, 1) := by decide +kernel
theorem dX4_tripleAt_18 : decode cX4_tripleAt 18 = .ok (.if_icmp .ge 12, 3) := by decide +kernel
theorem dX4_tripleAt_21 : decode cX4_tripleAt 21 = .ok (.aload_n 0, 1) := by decide +kernel
theorem dX4_tripleAt_22 : decode cX4_tripleAt 22 = .ok (.getfield 9, 3) := by decide +kernel
theorem dX4_tripleAt_25 : decode cX4_tripleAt 25 = .ok (.iload_n 1, 1) := by decide +kernel
theorem dX4_tripleAt_26 : decode cX4_tripleAt 26 = .ok (.iaload, 1) := by decide +kernel
theorem dX4_tripleAt_27 : decode cX4_tripleAt 27 = .ok (.goto 4, 3) := by decide +kernel
theorem dX4_tripleAt_30 : decode cX4_tripleAt 30 = .ok (.iconst (-1), 1) := by decide +kernel
theorem dX4_tripleAt_31 : decode cX4_tripleAt 31 = .ok (.ireturn, 1) := by decide +kernel
theorem dX4_questionAt_0 : decode cX4_questionAt 0 = .ok (.iload_n 1, 1) := by decide +kernel
theorem dX4_questionAt_1 : decode cX4_questionAt 1 = .ok (.ifCond .lt 29, 3) := by decide +kernel
theorem dX4_questionAt_4 : decode cX4_questionAt 4 = .ok (.iload_n 1, 1) := by decide +kernel
theorem dX4_questionAt_5 : decode cX4_questionAt 5 = .ok (.aload_n 0, 1) := by decide +kernel
theorem dX4_questionAt_6 : decode cX4_questionAt 6 = .ok (.getfield 44, 3) := by decide +kernel
theorem dX4_questionAt_9 : decode cX4_questionAt 9 = .ok (.if_icmp .ge 21, 3) := by decide +kernel
theorem dX4_questionAt_12 : decode cX4_questionAt 12 = .ok (.iload_n 1, 1) := by decide +kernel
theorem dX4_questionAt_13 : decode cX4_questionAt 13 = .ok (.aload_n 0, 1) := by decide +kernel
theorem dX4_questionAt_14 : decode cX4_questionAt 14 = .ok (.getfield 19, 3) := by decide +kernel
theorem dX4_questionAt_17 : decode cX4_questionAt 17 = .ok (.arraylength, 1) := by decide +kernel
theorem dX4_questionAt_18 : decode cX4_questionAt 18 = .ok (.if_icmp .ge 12, 3) := by decide +kernel
theorem dX4_questionAt_21 : decode cX4_questionAt 21 = .ok (.aload_n 0, 1) := by decide +kernel
theorem dX4_questionAt_22 : decode cX4_questionAt 22 = .ok (.getfield 19, 3) := by decide +kernel
theorem dX4_questionAt_25 : decode cX4_questionAt 25 = .ok (.iload_n 1, 1) := by decide +kernel
theorem dX4_questionAt_26 : decode cX4_questionAt 26 = .ok (.iaload, 1) := by decide +kernel
theorem dX4_questionAt_27 : decode cX4_questionAt 27 = .ok (.goto 4, 3) := by decide +kernel
theorem dX4_questionAt_30 : decode cX4_questionAt 30 = .ok (.iconst (-1), 1) := by decide +kernel
theorem dX4_questionAt_31 : decode cX4_questionAt 31 = .ok (.ireturn, 1) := by decide +kernel
set_option maxRecDepth 20000 in
theorem ggX4_canPut_X4_indexOf : GoodIn wsX4_canPut wsX4_indexOf := goodIn_r _ [7, 1, 8, 9, 10, 6, 11, 2, 12, 13, 14, 15, 16, 17, 18, 19, 20, 21] (by decide +kernel) (by decide +kernel)
set_option maxRecDepth 20000 in
theorem gX4_canPut_X4_indexOf : GoodIn wsX4_canPut (wsV RX4 47 RX4 yX4_indexOf wsX4_indexOf) := goodIn_app (goodIn_of _ (by decide +kernel)) ggX4_canPut_X4_indexOf
theorem dX4_canPut_0 : decode cX4_canPut 0 = .ok (.aload_n 0, 1) := by decide +kernel
theorem dX4_canPut_1 : decode cX4_canPut 1 = .ok (.getfield 25, 3) := by decide +kernel
theorem dX4_canPut_4 : decode cX4_canPut 4 = .ok (.aload_n 0, 1) := by decide +kernel
theorem dX4_canPut_5 : decode cX4_canPut 5 = .ok (.getfield 9, 3) := by decide +kernel
theorem dX4_canPut_8 : decode cX4_canPut 8 = .ok (.arraylength, 1) := by decide +kernel
theorem dX4_canPut_9 : decode cX4_canPut 9 = .ok (.if_icmp .lt 12, 3) := by decide +kernel
theorem dX4_canPut_12 : decode cX4_canPut 12 = .ok (.aload_n 0, 1) := by decide +kernel
theorem dX4_canPut_13 : decode cX4_canPut 13 = .ok (.iload_n 1, 1) := by decide +kernel
theorem dX4_canPut_14 : decode cX4_canPut 14 = .ok (.invokevirtual 47, 3) := by decide +kernel
theorem dX4_canPut_17 : decode cX4_canPut 17 = .ok (.iconst (-1), 1) := by decide +kernel
theorem dX4_canPut_18 : decode cX4_canPut 18 = .ok (.if_icmp .eq 7, 3) := by decide +kernel
theorem dX4_canPut_21 : decode cX4_canPut 21 = .ok (.iconst 1, 1) := by decide +kernel
theorem dX4_canPut_22 : decode cX4_canPut 22 = .ok (.goto 4, 3) := by decide +kernel
theorem dX4_canPut_25 : decode cX4_canPut 25 = .ok (.iconst 0, 1) := by decide +kernel
theorem dX4_canPut_26 : decode cX4_canPut 26 = .ok (.ireturn, 1) := by decide +kernel
set_option maxRecDepth 20000 in
theorem ggX4_put_X4_indexOf : GoodIn wsX4_put wsX4_indexOf := goodIn_r _ [7, 1, 8, 9, 10, 6, 11, 2, 29, 30, 31, 32, 33, 34, 35, 36, 37, 38] (by decide +kernel) (by decide +kernel)
set_option maxRecDepth 20000 in
theorem gX4_put_X4_indexOf : GoodIn wsX4_put (wsV RX4 47 RX4 yX4_indexOf wsX4_indexOf) := goodIn_app (goodIn_of _ (by decide +kernel)) ggX4_put_X4_indexOf
end
section
set_option maxRecDepth 20000 in
theorem ggX4_put_X4_payUpkeep : GoodIn wsX4_put wsX4_payUpkeep := goodIn_r _ [15, 16, 17, 18, 19, 20, 21, 22, 23, 24, 25, 26, 27, 6, 28, 1, 29, 30, 31, 32, 33, 34, 35, 36, 37, 38] (by decide +kernel) (by decide +kernel)
set_option maxRecDepth 20000 in
theorem gX4_put_X4_payUpkeep : GoodIn wsX4_put (wsV RX4 51 RX4 yX4_payUpkeep wsX4_payUpkeep) := goodIn_app (goodIn_of _ (by decide +kernel)) ggX4_put_X4_payUpkeep
theorem dX4_put_0 : decode cX4_put 0 = .ok (.aload_n 0, 1) := by decide +kernel
theorem dX4_put_1 : decode cX4_put 1 = .ok (.getfield 25, 3) := by decide +kernel
theorem dX4_put_4 : decode cX4_put 4 = .ok (.ifCond .lt 24, 3) := by decide +kernel
theorem dX4_put_7 : decode cX4_put 7 = .ok (.aload_n 0, 1) := by decide +kernel
theorem dX4_put_8 : decode cX4_put 8 = .ok (.getfield 25, 3) := by decide +kernel
theorem dX4_put_11 : decode cX4_put 11 = .ok (.aload_n 0, 1) := by decide +kernel
theorem dX4_put_12 : decode cX4_put 12 = .ok (.getfield 9, 3) := by decide +kernel
theorem dX4_put_15 : decode cX4_put 15 = .ok (.arraylength, 1) := by decide +kernel
theorem dX4_put_16 : decode cX4_put 16 = .ok (.if_icmp .ge 12, 3) := by decide +kernel
theorem dX4_put_19 : decode cX4_put 19 = .ok (.aload_n 0, 1) := by decide +kernel
theorem dX4_put_20 : decode cX4_put 20 = .ok (.iload_n 1, 1) := by decide +kernel
theorem dX4_put_21 : decode cX4_put 21 = .ok (.invokevirtual 47, 3) := by decide +kernel
theorem dX4_put_24 : decode cX4_put 24 = .ok (.iconst (-1), 1) := by decide +kernel
theorem dX4_put_25 : decode cX4_put 25 = .ok (.if_icmp .eq 5, 3) := by decide +kernel
theorem dX4_put_28 : decode cX4_put 28 = .ok (.iconst 0, 1) := by decide +kernel
theorem dX4_put_29 : decode cX4_put 29 = .ok (.ireturn, 1) := by decide +kernel
theorem dX4_put_30 : decode cX4_put 30 = .ok (.aload_n 0, 1) := by decide +kernel
theorem dX4_put_31 : decode cX4_put 31 = .ok (.invokevirtual 51, 3) := by decide +kernel
theorem dX4_put_34 : decode cX4_put 34 = .ok (.aload_n 0, 1) := by decide +kernel
theorem dX4_put_35 : decode cX4_put 35 = .ok (.getfield 9, 3) := by decide +kernel
theorem dX4_put_38 : decode cX4_put 38 = .ok (.aload_n 0, 1) := by decide +kernel
theorem dX4_put_39 : decode cX4_put 39 = .ok (.getfield 25, 3) := by decide +kernel
theorem dX4_put_42 : decode cX4_put 42 = .ok (.iload_n 1, 1) := by decide +kernel
theorem dX4_put_43 : decode cX4_put 43 = .ok (.iastore, 1) := by decide +kernel
theorem dX4_put_44 : decode cX4_put 44 = .ok (.aload_n 0, 1) := by decide +kernel
theorem dX4_put_45 : decode cX4_put 45 = .ok (.dup, 1) := by decide +kernel
theorem dX4_put_46 : decode cX4_put 46 = .ok (.getfield 25, 3) := by decide +kernel
theorem dX4_put_49 : decode cX4_put 49 = .ok (.iconst 1, 1) := by decide +kernel
theorem dX4_put_50 : decode cX4_put 50 = .ok (.iadd, 1) := by decide +kernel
theorem dX4_put_51 : decode cX4_put 51 = .ok (.putfield 25, 3) := by decide +kernel
theorem dX4_put_54 : decode cX4_put 54 = .ok (.iconst 1, 1) := by decide +kernel
theorem dX4_put_55 : decode cX4_put 55 = .ok (.ireturn, 1) := by decide +kernel
set_option maxRecDepth 20000 in
theorem ggX4_take_X4_indexOf : GoodIn wsX4_take wsX4_indexOf := goodIn_r _ [7, 1, 8, 9, 10, 6, 11, 2, 29, 30, 31, 32, 33, 34, 35, 36, 37, 38] (by decide +kernel) (by decide +kernel)
set_option maxRecDepth 20000 in
theorem gX4_take_X4_indexOf : GoodIn wsX4_take (wsV RX4 47 RX4 yX4_indexOf wsX4_indexOf) := goodIn_app (goodIn_of _ (by decide +kernel)) ggX4_take_X4_indexOf
set_option maxRecDepth 20000 in
theorem ggX4_take_X4_payUpkeep : GoodIn wsX4_take wsX4_payUpkeep := goodIn_r _ [15, 16, 17, 18, 19, 20, 21, 22, 23, 24, 25, 26, 27, 6, 28, 1, 29, 30, 31, 32, 33, 34, 35, 36, 37, 38] (by decide +kernel) (by decide +kernel)
set_option maxRecDepth 20000 in
theorem gX4_take_X4_payUpkeep : GoodIn wsX4_take (wsV RX4 51 RX4 yX4_payUpkeep wsX4_payUpkeep) := goodIn_app (goodIn_of _ (by decide +kernel)) ggX4_take_X4_payUpkeep
theorem dX4_take_0 : decode cX4_take 0 = .ok (.aload_n 0, 1) := by decide +kernel
theorem dX4_take_1 : decode cX4_take 1 = .ok (.iload_n 1, 1) := by decide +kernel
theorem dX4_take_2 : decode cX4_take 2 = .ok (.invokevirtual 47, 3) := by decide +kernel
theorem dX4_take_5 : decode cX4_take 5 = .ok (.istore_n 2, 1) := by decide +kernel
theorem dX4_take_6 : decode cX4_take 6 = .ok (.iload_n 2, 1) := by decide +kernel
theorem dX4_take_7 : decode cX4_take 7 = .ok (.ifCond .ge 5, 3) := by decide +kernel
theorem dX4_take_10 : decode cX4_take 10 = .ok (.iconst 0, 1) := by decide +kernel
theorem dX4_take_11 : decode cX4_take 11 = .ok (.ireturn, 1) := by decide +kernel
theorem dX4_take_12 : decode cX4_take 12 = .ok (.aload_n 0, 1) := by decide +kernel
theorem dX4_take_13 : decode cX4_take 13 = .ok (.invokevirtual 51, 3) := by decide +kernel
theorem dX4_take_16 : decode cX4_take 16 = .ok (.iload_n 2, 1) := by decide +kernel
theorem dX4_take_17 : decode cX4_take 17 = .ok (.istore_n 3, 1) := by decide +kernel
theorem dX4_take_18 : decode cX4_take 18 = .ok (.iload_n 3, 1) := by decide +kernel
theorem dX4_take_19 : decode cX4_take 19 = .ok (.iconst 1, 1) := by decide +kernel
theorem dX4_take_20 : decode cX4_take 20 = .ok (.iadd, 1) := by decide +kernel
theorem dX4_take_21 : decode cX4_take 21 = .ok (.aload_n 0, 1) := by decide +kernel
theorem dX4_take_22 : decode cX4_take 22 = .ok (.getfield 25, 3) := by decide +kernel
theorem dX4_take_25 : decode cX4_take 25 = .ok (.if_icmp .ge 34, 3) := by decide +kernel
theorem dX4_take_28 : decode cX4_take 28 = .ok (.iload_n 3, 1) := by decide +kernel
theorem dX4_take_29 : decode cX4_take 29 = .ok (.iconst 1, 1) := by decide +kernel
theorem dX4_take_30 : decode cX4_take 30 = .ok (.iadd, 1) := by decide +kernel
theorem dX4_take_31 : decode cX4_take 31 = .ok (.aload_n 0, 1) := by decide +kernel
theorem dX4_take_32 : decode cX4_take 32 = .ok (.getfield 9, 3) := by decide +kernel
theorem dX4_take_35 : decode cX4_take 35 = .ok (.arraylength, 1) := by decide +kernel
theorem dX4_take_36 : decode cX4_take 36 = .ok (.if_icmp .ge 23, 3) := by decide +kernel
theorem dX4_take_39 : decode cX4_take 39 = .ok (.aload_n 0, 1) := by decide +kernel
theorem dX4_take_40 : decode cX4_take 40 = .ok (.getfield 9, 3) := by decide +kernel
theorem dX4_take_43 : decode cX4_take 43 = .ok (.iload_n 3, 1) := by decide +kernel
theorem dX4_take_44 : decode cX4_take 44 = .ok (.aload_n 0, 1) := by decide +kernel
theorem dX4_take_45 : decode cX4_take 45 = .ok (.getfield 9, 3) := by decide +kernel
theorem dX4_take_48 : decode cX4_take 48 = .ok (.iload_n 3, 1) := by decide +kernel
theorem dX4_take_49 : decode cX4_take 49 = .ok (.iconst 1, 1) := by decide +kernel
theorem dX4_take_50 : decode cX4_take 50 = .ok (.iadd, 1) := by decide +kernel
theorem dX4_take_51 : decode cX4_take 51 = .ok (.iaload, 1) := by decide +kernel
theorem dX4_take_52 : decode cX4_take 52 = .ok (.iastore, 1) := by decide +kernel
theorem dX4_take_53 : decode cX4_take 53 = .ok (.iinc 3 1, 3) := by decide +kernel
theorem dX4_take_56 : decode cX4_take 56 = .ok (.goto (-38), 3) := by decide +kernel
theorem dX4_take_59 : decode cX4_take 59 = .ok (.aload_n 0, 1) := by decide +kernel
theorem dX4_take_60 : decode cX4_take 60 = .ok (.dup, 1) := by decide +kernel
theorem dX4_take_61 : decode cX4_take 61 = .ok (.getfield 25, 3) := by decide +kernel
theorem dX4_take_64 : decode cX4_take 64 = .ok (.iconst 1, 1) := by decide +kernel
theorem dX4_take_65 : decode cX4_take 65 = .ok (.isub, 1) := by decide +kernel
theorem dX4_take_66 : decode cX4_take 66 = .ok (.putfield 25, 3) := by decide +kernel
theorem dX4_take_69 : decode cX4_take 69 = .ok (.iconst 1, 1) := by decide +kernel
theorem dX4_take_70 : decode cX4_take 70 = .ok (.ireturn, 1) := by decide +kernel
set_option maxRecDepth 20000 in
theorem ggX4_indexOf_X4_tripleAt : GoodIn wsX4_indexOf wsX4_tripleAt := goodIn_r _ [6, 1, 7, 8, 9, 10, 11, 12, 13, 14, 15, 16, 17] (by decide +kernel) (by decide +kernel)
set_option maxRecDepth 20000 in
theorem gX4_indexOf_X4_tripleAt : GoodIn wsX4_indexOf (wsV RX4 54 RX4 yX4_tripleAt wsX4_tripleAt) := goodIn_app (goodIn_of _ (by decide +kernel)) ggX4_indexOf_X4_tripleAt
theorem dX4_indexOf_0 : decode cX4_indexOf 0 = .ok (.iconst 0, 1) := by decide +kernel
theorem dX4_indexOf_1 : decode cX4_indexOf 1 = .ok (.istore_n 2, 1) := by decide +kernel
theorem dX4_indexOf_2 : decode cX4_indexOf 2 = .ok (.iload_n 2, 1) := by decide +kernel
theorem dX4_indexOf_3 : decode cX4_indexOf 3 = .ok (.aload_n 0, 1) := by decide +kernel
theorem dX4_indexOf_4 : decode cX4_indexOf 4 = .ok (.getfield 25, 3) := by decide +kernel
theorem dX4_indexOf_7 : decode cX4_indexOf 7 = .ok (.if_icmp .ge 20, 3) := by decide +kernel
theorem dX4_indexOf_10 : decode cX4_indexOf 10 = .ok (.aload_n 0, 1) := by decide +kernel
theorem dX4_indexOf_11 : decode cX4_indexOf 11 = .ok (.iload_n 2, 1) := by decide +kernel
theorem dX4_indexOf_12 : decode cX4_indexOf 12 = .ok (.invokevirtual 54, 3) := by decide +kernel
theorem dX4_indexOf_15 : decode cX4_indexOf 15 = .ok (.iload_n 1, 1) := by decide +kernel
theorem dX4_indexOf_16 : decode cX4_indexOf 16 = .ok (.if_icmp .ne 5, 3) := by decide +kernel
theorem dX4_indexOf_19 : decode cX4_indexOf 19 = .ok (.iload_n 2, 1) := by decide +kernel
theorem dX4_indexOf_20 : decode cX4_indexOf 20 = .ok (.ireturn, 1) := by decide +kernel
theorem dX4_indexOf_21 : decode cX4_indexOf 21 = .ok (.iinc 2 1, 3) := by decide +kernel
theorem dX4_indexOf_24 : decode cX4_indexOf 24 = .ok (.goto (-22), 3) := by decide +kernel
theorem dX4_indexOf_27 : decode cX4_indexOf 27 = .ok (.iconst (-1), 1) := by decide +kernel
theorem dX4_indexOf_28 : decode cX4_indexOf 28 = .ok (.ireturn, 1) := by decide +kernel
set_option maxRecDepth 20000 in
theorem ggX4_payUpkeep_J6_bitCount_0f7a4 : GoodIn wsX4_payUpkeep wsJ6_bitCount_0f7a4 := goodIn_r _ [6, 7, 8, 9] (by decide +kernel) (by decide +kernel)
set_option maxRecDepth 20000 in
theorem gX4_payUpkeep_J6_bitCount_0f7a4 : GoodIn wsX4_payUpkeep (va_wsS RX4 57 yJ6_bitCount_0f7a4 wsJ6_bitCount_0f7a4) := goodIn_app (goodIn_of _ (by decide +kernel)) ggX4_payUpkeep_J6_bitCount_0f7a4
set_option maxRecDepth 20000 in
theorem ggX4_payUpkeep_X4_look : GoodIn wsX4_payUpkeep wsX4_look := goodIn_r _ [14, 15, 16, 17, 18, 19, 20, 21, 22, 23, 24, 25] (by decide +kernel) (by decide +kernel)
set_option maxRecDepth 20000 in
theorem gX4_payUpkeep_X4_look : GoodIn wsX4_payUpkeep (wsV RX4 62 RX4 yX4_look wsX4_look) := goodIn_app (goodIn_of _ (by decide +kernel)) ggX4_payUpkeep_X4_look
theorem dX4_payUpkeep_0 : decode cX4_payUpkeep 0 = .ok (.aload_n 0, 1) := by decide +kernel
theorem dX4_payUpkeep_1 : decode cX4_payUpkeep 1 = .ok (.dup, 1) := by decide +kernel
theorem dX4_payUpkeep_2 : decode cX4_payUpkeep 2 = .ok (.getfield 32, 3) := by decide +kernel
theorem dX4_payUpkeep_5 : decode cX4_payUpkeep 5 = .ok (.aload_n 0, 1) := by decide +kernel
theorem dX4_payUpkeep_6 : decode cX4_payUpkeep 6 = .ok (.getfield 15, 3) := by decide +kernel
theorem dX4_payUpkeep_9 : decode cX4_payUpkeep 9 = .ok (.invokestatic 57, 3) := by decide +kernel
theorem dX4_payUpkeep_12 : decode cX4_payUpkeep 12 = .ok (.aload_n 0, 1) := by decide +kernel
theorem dX4_payUpkeep_13 : decode cX4_payUpkeep 13 = .ok (.invokevirtual 62, 3) := by decide +kernel
theorem dX4_payUpkeep_16 : decode cX4_payUpkeep 16 = .ok (.iconst 1, 1) := by decide +kernel
theorem dX4_payUpkeep_17 : decode cX4_payUpkeep 17 = .ok (.iadd, 1) := by decide +kernel
theorem dX4_payUpkeep_18 : decode cX4_payUpkeep 18 = .ok (.imul, 1) := by decide +kernel
theorem dX4_payUpkeep_19 : decode cX4_payUpkeep 19 = .ok (.iadd, 1) := by decide +kernel
theorem dX4_payUpkeep_20 : decode cX4_payUpkeep 20 = .ok (.putfield 32, 3) := by decide +kernel
theorem dX4_payUpkeep_23 : decode cX4_payUpkeep 23 = .ok (.return_, 1) := by decide +kernel
theorem dX4_keeps_0 : decode cX4_keeps 0 = .ok (.aload_n 0, 1) := by decide +kernel
theorem dX4_keeps_1 : decode cX4_keeps 1 = .ok (.getfield 15, 3) := by decide +kernel
theorem dX4_keeps_4 : decode cX4_keeps 4 = .ok (.iload_n 1, 1) := by decide +kernel
theorem dX4_keeps_5 : decode cX4_keeps 5 = .ok (.ishr, 1) := by decide +kernel
theorem dX4_keeps_6 : decode cX4_keeps 6 = .ok (.iconst 1, 1) := by decide +kernel
theorem dX4_keeps_7 : decode cX4_keeps 7 = .ok (.iand, 1) := by decide +kernel
theorem dX4_keeps_8 : decode cX4_keeps 8 = .ok (.iconst 1, 1) := by decide +kernel
theorem dX4_keeps_9 : decode cX4_keeps 9 = .ok (.if_icmp .ne 7, 3) := by decide +kernel
theorem dX4_keeps_12 : decode cX4_keeps 12 = .ok (.iconst 1, 1) := by decide +kernel
theorem dX4_keeps_13 : decode cX4_keeps 13 = .ok (.goto 4, 3) := by decide +kernel
theorem dX4_keeps_16 : decode cX4_keeps 16 = .ok (.iconst 0, 1) := by decide +kernel
theorem dX4_keeps_17 : decode cX4_keeps 17 = .ok (.ireturn, 1) := by decide +kernel
set_option maxRecDepth 20000 in
theorem ggX4_keep_X4_look : GoodIn wsX4_keep wsX4_look := goodIn_r _ [8, 1, 9, 10, 11, 12, 13, 14, 15, 16, 17, 18] (by decide +kernel) (by decide +kernel)
set_option maxRecDepth 20000 in
theorem gX4_keep_X4_look : GoodIn wsX4_keep (wsV RX4 62 RX4 yX4_look wsX4_look) := goodIn_app (goodIn_of _ (by decide +kernel)) ggX4_keep_X4_look
theorem dX4_keep_0 : decode cX4_keep 0 = .ok (.aload_n 0, 1) := by decide +kernel
theorem dX4_keep_1 : decode cX4_keep 1 = .ok (.getfield 25, 3) := by decide +kernel
theorem dX4_keep_4 : decode cX4_keep 4 = .ok (.aload_n 0, 1) := by decide +kernel
theorem dX4_keep_5 : decode cX4_keep 5 = .ok (.invokevirtual 62, 3) := by decide +kernel
theorem dX4_keep_8 : decode cX4_keep 8 = .ok (.imul, 1) := by decide +kernel
theorem dX4_keep_9 : decode cX4_keep 9 = .ok (.istore_n 2, 1) := by decide +kernel
theorem dX4_keep_10 : decode cX4_keep 10 = .ok (.aload_n 0, 1) := by decide +kernel
theorem dX4_keep_11 : decode cX4_keep 11 = .ok (.dup, 1) := by decide +kernel
theorem dX4_keep_12 : decode cX4_keep 12 = .ok (.getfield 35, 3) := by decide +kernel
theorem dX4_keep_15 : decode cX4_keep 15 = .ok (.iload_n 2, 1) := by decide +kernel
theorem dX4_keep_16 : decode cX4_keep 16 = .ok (.iadd, 1) := by decide +kernel
theorem dX4_keep_17 : decode cX4_keep 17 = .ok (.putfield 35, 3) := by decide +kernel
theorem dX4_keep_20 : decode cX4_keep 20 = .ok (.aload_n 0, 1) := by decide +kernel
theorem dX4_keep_21 : decode cX4_keep 21 = .ok (.dup, 1) := by decide +kernel
theorem dX4_keep_22 : decode cX4_keep 22 = .ok (.getfield 15, 3) := by decide +kernel
theorem dX4_keep_25 : decode cX4_keep 25 = .ok (.iconst 1, 1) := by decide +kernel
theorem dX4_keep_26 : decode cX4_keep 26 = .ok (.iload_n 1, 1) := by decide +kernel
theorem dX4_keep_27 : decode cX4_keep 27 = .ok (.ishl, 1) := by decide +kernel
theorem dX4_keep_28 : decode cX4_keep 28 = .ok (.ior, 1) := by decide +kernel
theorem dX4_keep_29 : decode cX4_keep 29 = .ok (.putfield 15, 3) := by decide +kernel
theorem dX4_keep_32 : decode cX4_keep 32 = .ok (.iload_n 2, 1) := by decide +kernel
theorem dX4_keep_33 : decode cX4_keep 33 = .ok (.ireturn, 1) := by decide +kernel
set_option maxRecDepth 20000 in
theorem ggX4_discard_J6_bitCount_0f7a4 : GoodIn wsX4_discard wsJ6_bitCount_0f7a4 := goodIn_r _ [5, 6, 7, 8] (by decide +kernel) (by decide +kernel)
set_option maxRecDepth 20000 in
theorem gX4_discard_J6_bitCount_0f7a4 : GoodIn wsX4_discard (va_wsS RX4 57 yJ6_bitCount_0f7a4 wsJ6_bitCount_0f7a4) := goodIn_app (goodIn_of _ (by decide +kernel)) ggX4_discard_J6_bitCount_0f7a4
theorem dX4_discard_0 : decode cX4_discard 0 = .ok (.aload_n 0, 1) := by decide +kernel
theorem dX4_discard_1 : decode cX4_discard 1 = .ok (.dup, 1) := by decide +kernel
theorem dX4_discard_2 : decode cX4_discard 2 = .ok (.getfield 15, 3) := by decide +kernel
theorem dX4_discard_5 : decode cX4_discard 5 = .ok (.iconst 1, 1) := by decide +kernel
theorem dX4_discard_6 : decode cX4_discard 6 = .ok (.iload_n 1, 1) := by decide +kernel
theorem dX4_discard_7 : decode cX4_discard 7 = .ok (.ishl, 1) := by decide +kernel
theorem dX4_discard_8 : decode cX4_discard 8 = .ok (.iconst (-1), 1) := by decide +kernel
theorem dX4_discard_9 : decode cX4_discard 9 = .ok (.ixor, 1) := by decide +kernel
theorem dX4_discard_10 : decode cX4_discard 10 = .ok (.iand, 1) := by decide +kernel
theorem dX4_discard_11 : decode cX4_discard 11 = .ok (.putfield 15, 3) := by decide +kernel
theorem dX4_discard_14 : decode cX4_discard 14 = .ok (.aload_n 0, 1) := by decide +kernel
theorem dX4_discard_15 : decode cX4_discard 15 = .ok (.getfield 15, 3) := by decide +kernel
theorem dX4_discard_18 : decode cX4_discard 18 = .ok (.invokestatic 57, 3) := by decide +kernel
theorem dX4_discard_21 : decode cX4_discard 21 = .ok (.ireturn, 1) := by decide +kernel
set_option maxRecDepth 20000 in
theorem ggX4_countAnswers_X4_tripleAt : GoodIn wsX4_countAnswers wsX4_tripleAt := goodIn_r _ [6, 1, 7, 11, 12, 13, 14, 15, 16, 17, 18, 19, 20] (by decide +kernel) (by decide +kernel)
set_option maxRecDepth 20000 in
theorem gX4_countAnswers_X4_tripleAt : GoodIn wsX4_countAnswers (wsV RX4 54 RX4 yX4_tripleAt wsX4_tripleAt) := goodIn_app (goodIn_of _ (by decide +kernel)) ggX4_countAnswers_X4_tripleAt
set_option maxRecDepth 20000 in
theorem ggX4_countAnswers_X4_fits : GoodIn wsX4_countAnswers wsX4_fits := goodIn_r _ [10] (by decide +kernel) (by decide +kernel)
set_option maxRecDepth 20000 in
theorem gX4_countAnswers_X4_fits : GoodIn wsX4_countAnswers (va_wsS RX4 66 yX4_fits wsX4_fits) := goodIn_app (goodIn_of _ (by decide +kernel)) ggX4_countAnswers_X4_fits
theorem dX4_countAnswers_0 : decode cX4_countAnswers 0 = .ok (.iconst 0, 1) := by decide +kernel
theorem dX4_countAnswers_1 : decode cX4_countAnswers 1 = .ok (.istore_n 2, 1) := by decide +kernel
theorem dX4_countAnswers_2 : decode cX4_countAnswers 2 = .ok (.iconst 0, 1) := by decide +kernel
theorem dX4_countAnswers_3 : decode cX4_countAnswers 3 = .ok (.istore_n 3, 1) := by decide +kernel
theorem dX4_countAnswers_4 : decode cX4_countAnswers 4 = .ok (.iload_n 3, 1) := by decide +kernel
theorem dX4_countAnswers_5 : decode cX4_countAnswers 5 = .ok (.aload_n 0, 1) := by decide +kernel
theorem dX4_countAnswers_6 : decode cX4_countAnswers 6 = .ok (.getfield 25, 3) := by decide +kernel
theorem dX4_countAnswers_9 : decode cX4_countAnswers 9 = .ok (.if_icmp .ge 24, 3) := by decide +kernel
theorem dX4_countAnswers_12 : decode cX4_countAnswers 12 = .ok (.aload_n 0, 1) := by decide +kernel
theorem dX4_countAnswers_13 : decode cX4_countAnswers 13 = .ok (.iload_n 3, 1) := by decide +kernel
theorem dX4_countAnswers_14 : decode cX4_countAnswers 14 = .ok (.invokevirtual 54, 3) := by decide +kernel
theorem dX4_countAnswers_17 : decode cX4_countAnswers 17 = .ok (.iload_n 1, 1) := by decide +kernel
theorem dX4_countAnswers_18 : decode cX4_countAnswers 18 = .ok (.invokestatic 66, 3) := by decide +kernel
theorem dX4_countAnswers_21 : decode cX4_countAnswers 21 = .ok (.ifCond .eq 6, 3) := by decide +kernel
theorem dX4_countAnswers_24 : decode cX4_countAnswers 24 = .ok (.iinc 2 1, 3) := by decide +kernel
theorem dX4_countAnswers_27 : decode cX4_countAnswers 27 = .ok (.iinc 3 1, 3) := by decide +kernel
theorem dX4_countAnswers_30 : decode cX4_countAnswers 30 = .ok (.goto (-26), 3) := by decide +kernel
theorem dX4_countAnswers_33 : decode cX4_countAnswers 33 = .ok (.iload_n 2, 1) := by decide +kernel
theorem dX4_countAnswers_34 : decode cX4_countAnswers 34 = .ok (.ireturn, 1) := by decide +kernel
set_option maxRecDepth 20000 in
theorem ggX4_costBy_X2_reachOf : GoodIn wsX4_costBy wsX2_reachOf := goodIn_r _ [5, 6, 7, 4, 8, 9, 10, 11, 12] (by decide +kernel) (by decide +kernel)
set_option maxRecDepth 20000 in
theorem gX4_costBy_X2_reachOf : GoodIn wsX4_costBy (va_wsS RX4 70 yX2_reachOf wsX2_reachOf) := goodIn_app (goodIn_of _ (by decide +kernel)) ggX4_costBy_X2_reachOf
set_option maxRecDepth 20000 in
theorem ggX4_costBy_X4_look : GoodIn wsX4_costBy wsX4_look := goodIn_r _ [17, 1, 36, 37, 38, 39, 40, 41, 42, 43, 44, 45] (by decide +kernel) (by decide +kernel)
set_option maxRecDepth 20000 in
theorem gX4_costBy_X4_look : GoodIn wsX4_costBy (wsV RX4 62 RX4 yX4_look wsX4_look) := goodIn_app (goodIn_of _ (by decide +kernel)) ggX4_costBy_X4_look
set_option maxRecDepth 20000 in
theorem ggX4_costBy_X2_reachedPart : GoodIn wsX4_costBy wsX2_reachedPart := goodIn_r _ [20, 6, 7, 4, 8, 9, 21, 22, 23, 10, 11, 12] (by decide +kernel) (by decide +kernel)
set_option maxRecDepth 20000 in
theorem gX4_costBy_X2_reachedPart : GoodIn wsX4_costBy (va_wsS RX4 76 yX2_reachedPart wsX2_reachedPart) := goodIn_app (goodIn_of _ (by decide +kernel)) ggX4_costBy_X2_reachedPart
set_option maxRecDepth 20000 in
theorem ggX4_costBy_X4_countAnswers : GoodIn wsX4_costBy wsX4_countAnswers := goodIn_r _ [27, 1, 28, 29, 30, 16, 31, 32, 33, 34, 35, 36, 37, 38, 39, 40, 41, 42, 43, 44, 45] (by decide +kernel) (by decide +kernel)
set_option maxRecDepth 20000 in
theorem gX4_costBy_X4_countAnswers : GoodIn wsX4_costBy (wsV RX4 80 RX4 yX4_countAnswers wsX4_countAnswers) := goodIn_app (goodIn_of _ (by decide +kernel)) ggX4_costBy_X4_countAnswers
theorem dX4_costBy_0 : decode cX4_costBy 0 = .ok (.iload_n 1, 1) := by decide +kernel
theorem dX4_costBy_1 : decode cX4_costBy 1 = .ok (.iload_n 2, 1) := by decide +kernel
theorem dX4_costBy_2 : decode cX4_costBy 2 = .ok (.invokestatic 70, 3) := by decide +kernel
theorem dX4_costBy_5 : decode cX4_costBy 5 = .ok (.istore_n 3, 1) := by decide +kernel
theorem dX4_costBy_6 : decode cX4_costBy 6 = .ok (.iload_n 3, 1) := by decide +kernel
theorem dX4_costBy_7 : decode cX4_costBy 7 = .ok (.ifCond .ne 10, 3) := by decide +kernel
theorem dX4_costBy_10 : decode cX4_costBy 10 = .ok (.aload_n 0, 1) := by decide +kernel
theorem dX4_costBy_11 : decode cX4_costBy 11 = .ok (.getfield 25, 3) := by decide +kernel
theorem dX4_costBy_14 : decode cX4_costBy 14 = .ok (.goto 18, 3) := by decide +kernel
theorem dX4_costBy_17 : decode cX4_costBy 17 = .ok (.aload_n 0, 1) := by decide +kernel
theorem dX4_costBy_18 : decode cX4_costBy 18 = .ok (.invokevirtual 62, 3) := by decide +kernel
theorem dX4_costBy_21 : decode cX4_costBy 21 = .ok (.aload_n 0, 1) := by decide +kernel
theorem dX4_costBy_22 : decode cX4_costBy 22 = .ok (.iload_n 1, 1) := by decide +kernel
theorem dX4_costBy_23 : decode cX4_costBy 23 = .ok (.iload_n 2, 1) := by decide +kernel
theorem dX4_costBy_24 : decode cX4_costBy 24 = .ok (.iload_n 3, 1) := by decide +kernel
theorem dX4_costBy_25 : decode cX4_costBy 25 = .ok (.invokestatic 76, 3) := by decide +kernel
theorem dX4_costBy_28 : decode cX4_costBy 28 = .ok (.invokevirtual 80, 3) := by decide +kernel
theorem dX4_costBy_31 : decode cX4_costBy 31 = .ok (.iadd, 1) := by decide +kernel
theorem dX4_costBy_32 : decode cX4_costBy 32 = .ok (.ireturn, 1) := by decide +kernel
set_option maxRecDepth 20000 in
theorem ggX4_costNow_X4_keeps : GoodIn wsX4_costNow wsX4_keeps := goodIn_r _ [10, 11, 49, 50, 51, 52, 53, 54, 55, 56, 57, 58] (by decide +kernel) (by decide +kernel)
set_option maxRecDepth 20000 in
theorem gX4_costNow_X4_keeps : GoodIn wsX4_costNow (wsV RX4 83 RX4 yX4_keeps wsX4_keeps) := goodIn_app (goodIn_of _ (by decide +kernel)) ggX4_costNow_X4_keeps
set_option maxRecDepth 20000 in
theorem ggX4_costNow_X4_costBy : GoodIn wsX4_costNow wsX4_costBy := goodIn_r _ [15, 1, 16, 17, 18, 19, 20, 21, 22, 23, 24, 25, 26, 27, 28, 29, 9, 30, 31, 32, 33, 34, 35, 36, 37, 38, 39, 40, 41, 42, 43, 44, 45, 46, 47, 48, 49, 50, 51, 52, 53, 54, 55, 56, 57, 58] (by decide +kernel) (by decide +kernel)
set_option maxRecDepth 20000 in
theorem gX4_costNow_X4_costBy : GoodIn wsX4_costNow (wsV RX4 87 RX4 yX4_costBy wsX4_costBy) := goodIn_app (goodIn_of _ (by decide +kernel)) ggX4_costNow_X4_costBy
theorem dX4_costNow_0 : decode cX4_costNow 0 = .ok (.aload_n 0, 1) := by decide +kernel
theorem dX4_costNow_1 : decode cX4_costNow 1 = .ok (.getfield 25, 3) := by decide +kernel
theorem dX4_costNow_4 : decode cX4_costNow 4 = .ok (.istore_n 2, 1) := by decide +kernel
theorem dX4_costNow_5 : decode cX4_costNow 5 = .ok (.iconst 0, 1) := by decide +kernel
theorem dX4_costNow_6 : decode cX4_costNow 6 = .ok (.istore_n 3, 1) := by decide +kernel
theorem dX4_costNow_7 : decode cX4_costNow 7 = .ok (.iload_n 3, 1) := by decide +kernel
theorem dX4_costNow_8 : decode cX4_costNow 8 = .ok (.bipush 6, 2) := by decide +kernel
theorem dX4_costNow_10 : decode cX4_costNow 10 = .ok (.if_icmp .ge 28, 3) := by decide +kernel
theorem dX4_costNow_13 : decode cX4_costNow 13 = .ok (.aload_n 0, 1) := by decide +kernel
theorem dX4_costNow_14 : decode cX4_costNow 14 = .ok (.iload_n 3, 1) := by decide +kernel
theorem dX4_costNow_15 : decode cX4_costNow 15 = .ok (.invokevirtual 83, 3) := by decide +kernel
theorem dX4_costNow_18 : decode cX4_costNow 18 = .ok (.ifCond .eq 14, 3) := by decide +kernel
theorem dX4_costNow_21 : decode cX4_costNow 21 = .ok (.iload_n 2, 1) := by decide +kernel
theorem dX4_costNow_22 : decode cX4_costNow 22 = .ok (.aload_n 0, 1) := by decide +kernel
theorem dX4_costNow_23 : decode cX4_costNow 23 = .ok (.iload_n 1, 1) := by decide +kernel
theorem dX4_costNow_24 : decode cX4_costNow 24 = .ok (.iload_n 3, 1) := by decide +kernel
theorem dX4_costNow_25 : decode cX4_costNow 25 = .ok (.invokevirtual 87, 3) := by decide +kernel
theorem dX4_costNow_28 : decode cX4_costNow 28 = .ok (.invokestatic 90, 3) := by decide +kernel
theorem dX4_costNow_31 : decode cX4_costNow 31 = .ok (.istore_n 2, 1) := by decide +kernel
theorem dX4_costNow_32 : decode cX4_costNow 32 = .ok (.iinc 3 1, 3) := by decide +kernel
theorem dX4_costNow_35 : decode cX4_costNow 35 = .ok (.goto (-28), 3) := by decide +kernel
theorem dX4_costNow_38 : decode cX4_costNow 38 = .ok (.iload_n 2, 1) := by decide +kernel
theorem dX4_costNow_39 : decode cX4_costNow 39 = .ok (.ireturn, 1) := by decide +kernel
set_option maxRecDepth 20000 in
theorem ggX4_answeringOrder_X4_keeps : GoodIn wsX4_answeringOrder wsX4_keeps := goodIn_r _ [6, 7, 45, 46, 47, 48, 49, 50, 51, 52, 53, 54] (by decide +kernel) (by decide +kernel)
set_option maxRecDepth 20000 in
theorem gX4_answeringOrder_X4_keeps : GoodIn wsX4_answeringOrder (wsV RX4 83 RX4 yX4_keeps wsX4_keeps) := goodIn_app (goodIn_of _ (by decide +kernel)) ggX4_answeringOrder_X4_keeps
set_option maxRecDepth 20000 in
theorem ggX4_answeringOrder_X4_costBy : GoodIn wsX4_answeringOrder wsX4_costBy := goodIn_r _ [11, 1, 12, 13, 14, 15, 16, 17, 18, 19, 20, 21, 22, 23, 24, 25, 5, 26, 27, 28, 29, 30, 31, 32, 33, 34, 35, 36, 37, 38, 39, 40, 41, 42, 43, 44, 45, 46, 47, 48, 49, 50, 51, 52, 53, 54] (by decide +kernel) (by decide +kernel)
set_option maxRecDepth 20000 in
theorem gX4_answeringOrder_X4_costBy : GoodIn wsX4_answeringOrder (wsV RX4 87 RX4 yX4_costBy wsX4_costBy) := goodIn_app (goodIn_of _ (by decide +kernel)) ggX4_answeringOrder_X4_costBy
theorem dX4_answeringOrder_0 : decode cX4_answeringOrder 0 = .ok (.iconst (-1), 1) := by decide +kernel
theorem dX4_answeringOrder_1 : decode cX4_answeringOrder 1 = .ok (.istore_n 2, 1) := by decide +kernel
theorem dX4_answeringOrder_2 : decode cX4_answeringOrder 2 = .ok (.aload_n 0, 1) := by decide +kernel
theorem dX4_answeringOrder_3 : decode cX4_answeringOrder 3 = .ok (.getfield 25, 3) := by decide +kernel
theorem dX4_answeringOrder_6 : decode cX4_answeringOrder 6 = .ok (.istore_n 3, 1) := by decide +kernel
theorem dX4_answeringOrder_7 : decode cX4_answeringOrder 7 = .ok (.iconst 0, 1) := by decide +kernel
theorem dX4_answeringOrder_8 : decode cX4_answeringOrder 8 = .ok (.istore 4, 2) := by decide +kernel
theorem dX4_answeringOrder_10 : decode cX4_answeringOrder 10 = .ok (.iload 4, 2) := by decide +kernel
theorem dX4_answeringOrder_12 : decode cX4_answeringOrder 12 = .ok (.bipush 6, 2) := by decide +kernel
theorem dX4_answeringOrder_14 : decode cX4_answeringOrder 14 = .ok (.if_icmp .ge 46, 3) := by decide +kernel
theorem dX4_answeringOrder_17 : decode cX4_answeringOrder 17 = .ok (.aload_n 0, 1) := by decide +kernel
theorem dX4_answeringOrder_18 : decode cX4_answeringOrder 18 = .ok (.iload 4, 2) := by decide +kernel
theorem dX4_answeringOrder_20 : decode cX4_answeringOrder 20 = .ok (.invokevirtual 83, 3) := by decide +kernel
theorem dX4_answeringOrder_23 : decode cX4_answeringOrder 23 = .ok (.ifCond .eq 13, 3) := by decide +kernel
theorem dX4_answeringOrder_26 : decode cX4_answeringOrder 26 = .ok (.aload_n 0, 1) := by decide +kernel
theorem dX4_answeringOrder_27 : decode cX4_answeringOrder 27 = .ok (.iload_n 1, 1) := by decide +kernel
theorem dX4_answeringOrder_28 : decode cX4_answeringOrder 28 = .ok (.iload 4, 2) := by decide +kernel
theorem dX4_answeringOrder_30 : decode cX4_answeringOrder 30 = .ok (.invokevirtual 87, 3) := by decide +kernel
theorem dX4_answeringOrder_33 : decode cX4_answeringOrder 33 = .ok (.goto 7, 3) := by decide +kernel
theorem dX4_answeringOrder_36 : decode cX4_answeringOrder 36 = .ok (.aload_n 0, 1) := by decide +kernel
theorem dX4_answeringOrder_37 : decode cX4_answeringOrder 37 = .ok (.getfield 25, 3) := by decide +kernel
theorem dX4_answeringOrder_40 : decode cX4_answeringOrder 40 = .ok (.istore 5, 2) := by decide +kernel
theorem dX4_answeringOrder_42 : decode cX4_answeringOrder 42 = .ok (.iload 5, 2) := by decide +kernel
theorem dX4_answeringOrder_44 : decode cX4_answeringOrder 44 = .ok (.iload_n 3, 1) := by decide +kernel
theorem dX4_answeringOrder_45 : decode cX4_answeringOrder 45 = .ok (.if_icmp .ge 9, 3) := by decide +kernel
theorem dX4_answeringOrder_48 : decode cX4_answeringOrder 48 = .ok (.iload 5, 2) := by decide +kernel
theorem dX4_answeringOrder_50 : decode cX4_answeringOrder 50 = .ok (.istore_n 3, 1) := by decide +kernel
theorem dX4_answeringOrder_51 : decode cX4_answeringOrder 51 = .ok (.iload 4, 2) := by decide +kernel
theorem dX4_answeringOrder_53 : decode cX4_answeringOrder 53 = .ok (.istore_n 2, 1) := by decide +kernel
theorem dX4_answeringOrder_54 : decode cX4_answeringOrder 54 = .ok (.iinc 4 1, 3) := by decide +kernel
theorem dX4_answeringOrder_57 : decode cX4_answeringOrder 57 = .ok (.goto (-47), 3) := by decide +kernel
theorem dX4_answeringOrder_60 : decode cX4_answeringOrder 60 = .ok (.iload_n 2, 1) := by decide +kernel
theorem dX4_answeringOrder_61 : decode cX4_answeringOrder 61 = .ok (.ireturn, 1) := by decide +kernel
set_option maxRecDepth 20000 in
theorem ggX4_answerAt_X4_tripleAt : GoodIn wsX4_answerAt wsX4_tripleAt := goodIn_r _ [6, 1, 7, 30, 31, 32, 33, 34, 35, 36, 37, 38, 39] (by decide +kernel) (by decide +kernel)
set_option maxRecDepth 20000 in
theorem gX4_answerAt_X4_tripleAt : GoodIn wsX4_answerAt (wsV RX4 54 RX4 yX4_tripleAt wsX4_tripleAt) := goodIn_app (goodIn_of _ (by decide +kernel)) ggX4_answerAt_X4_tripleAt
set_option maxRecDepth 20000 in
theorem ggX4_answerAt_X4_fits : GoodIn wsX4_answerAt wsX4_fits := goodIn_r _ [10] (by decide +kernel) (by decide +kernel)
set_option maxRecDepth 20000 in
theorem gX4_answerAt_X4_fits : GoodIn wsX4_answerAt (va_wsS RX4 66 yX4_fits wsX4_fits) := goodIn_app (goodIn_of _ (by decide +kernel)) ggX4_answerAt_X4_fits
set_option maxRecDepth 20000 in
theorem ggX4_answerAt_X4_countBefore : GoodIn wsX4_answerAt wsX4_countBefore := goodIn_r _ [14, 1, 15, 16, 17, 5, 18, 2, 3, 4, 6, 7, 19, 20, 21, 22, 23, 24, 25, 26, 27, 28, 29, 8, 9, 10, 30, 31, 32, 33, 34, 35, 36, 37, 38, 39] (by decide +kernel) (by decide +kernel)
set_option maxRecDepth 20000 in
theorem gX4_answerAt_X4_countBefore : GoodIn wsX4_answerAt (wsV RX4 105 RX4 yX4_countBefore wsX4_countBefore) := goodIn_app (goodIn_of _ (by decide +kernel)) ggX4_answerAt_X4_countBefore
theorem dX4_answerAt_0 : decode cX4_answerAt 0 = .ok (.iload_n 3, 1) := by decide +kernel
theorem dX4_answerAt_1 : decode cX4_answerAt 1 = .ok (.aload_n 0, 1) := by decide +kernel
theorem dX4_answerAt_2 : decode cX4_answerAt 2 = .ok (.getfield 25, 3) := by decide +kernel
theorem dX4_answerAt_5 : decode cX4_answerAt 5 = .ok (.if_icmp .lt 5, 3) := by decide +kernel
theorem dX4_answerAt_8 : decode cX4_answerAt 8 = .ok (.iconst (-1), 1) := by decide +kernel
theorem dX4_answerAt_9 : decode cX4_answerAt 9 = .ok (.ireturn, 1) := by decide +kernel
theorem dX4_answerAt_10 : decode cX4_answerAt 10 = .ok (.iconst 0, 1) := by decide +kernel
theorem dX4_answerAt_11 : decode cX4_answerAt 11 = .ok (.istore 4, 2) := by decide +kernel
theorem dX4_answerAt_13 : decode cX4_answerAt 13 = .ok (.iload 4, 2) := by decide +kernel
theorem dX4_answerAt_15 : decode cX4_answerAt 15 = .ok (.aload_n 0, 1) := by decide +kernel
theorem dX4_answerAt_16 : decode cX4_answerAt 16 = .ok (.getfield 25, 3) := by decide +kernel
theorem dX4_answerAt_19 : decode cX4_answerAt 19 = .ok (.if_icmp .ge 41, 3) := by decide +kernel
theorem dX4_answerAt_22 : decode cX4_answerAt 22 = .ok (.aload_n 0, 1) := by decide +kernel
theorem dX4_answerAt_23 : decode cX4_answerAt 23 = .ok (.iload 4, 2) := by decide +kernel
theorem dX4_answerAt_25 : decode cX4_answerAt 25 = .ok (.invokevirtual 54, 3) := by decide +kernel
theorem dX4_answerAt_28 : decode cX4_answerAt 28 = .ok (.iload_n 1, 1) := by decide +kernel
theorem dX4_answerAt_29 : decode cX4_answerAt 29 = .ok (.invokestatic 66, 3) := by decide +kernel
theorem dX4_answerAt_32 : decode cX4_answerAt 32 = .ok (.ifCond .eq 22, 3) := by decide +kernel
theorem dX4_answerAt_35 : decode cX4_answerAt 35 = .ok (.aload_n 0, 1) := by decide +kernel
theorem dX4_answerAt_36 : decode cX4_answerAt 36 = .ok (.iload_n 1, 1) := by decide +kernel
theorem dX4_answerAt_37 : decode cX4_answerAt 37 = .ok (.iload_n 2, 1) := by decide +kernel
theorem dX4_answerAt_38 : decode cX4_answerAt 38 = .ok (.iload 4, 2) := by decide +kernel
theorem dX4_answerAt_40 : decode cX4_answerAt 40 = .ok (.invokevirtual 105, 3) := by decide +kernel
theorem dX4_answerAt_43 : decode cX4_answerAt 43 = .ok (.iload_n 3, 1) := by decide +kernel
theorem dX4_answerAt_44 : decode cX4_answerAt 44 = .ok (.if_icmp .ne 10, 3) := by decide +kernel
theorem dX4_answerAt_47 : decode cX4_answerAt 47 = .ok (.aload_n 0, 1) := by decide +kernel
theorem dX4_answerAt_48 : decode cX4_answerAt 48 = .ok (.iload 4, 2) := by decide +kernel
theorem dX4_answerAt_50 : decode cX4_answerAt 50 = .ok (.invokevirtual 54, 3) := by decide +kernel
theorem dX4_answerAt_53 : decode cX4_answerAt 53 = .ok (.ireturn, 1) := by decide +kernel
theorem dX4_answerAt_54 : decode cX4_answerAt 54 = .ok (.iinc 4 1, 3) := by decide +kernel
theorem dX4_answerAt_57 : decode cX4_answerAt 57 = .ok (.goto (-44), 3) := by decide +kernel
theorem dX4_answerAt_60 : decode cX4_answerAt 60 = .ok (.iconst (-1), 1) := by decide +kernel
theorem dX4_answerAt_61 : decode cX4_answerAt 61 = .ok (.ireturn, 1) := by decide +kernel
set_option maxRecDepth 20000 in
theorem ggX4_countBefore_X4_rankAt : GoodIn wsX4_countBefore wsX4_rankAt := goodIn_r _ [6, 7, 8, 9, 5, 10, 1, 11, 12, 13, 14, 15, 16, 17, 18, 19, 20, 21, 22, 26, 27, 28, 29, 30, 31, 32, 33, 34, 35] (by decide +kernel) (by decide +kernel)
set_option maxRecDepth 20000 in
theorem gX4_countBefore_X4_rankAt : GoodIn wsX4_countBefore (wsV RX4 108 RX4 yX4_rankAt wsX4_rankAt) := goodIn_app (goodIn_of _ (by decide +kernel)) ggX4_countBefore_X4_rankAt
set_option maxRecDepth 20000 in
theorem ggX4_countBefore_X4_tripleAt : GoodIn wsX4_countBefore wsX4_tripleAt := goodIn_r _ [10, 1, 11, 26, 27, 28, 29, 30, 31, 32, 33, 34, 35] (by decide +kernel) (by decide +kernel)
set_option maxRecDepth 20000 in
theorem gX4_countBefore_X4_tripleAt : GoodIn wsX4_countBefore (wsV RX4 54 RX4 yX4_tripleAt wsX4_tripleAt) := goodIn_app (goodIn_of _ (by decide +kernel)) ggX4_countBefore_X4_tripleAt
set_option maxRecDepth 20000 in
theorem ggX4_countBefore_X4_fits : GoodIn wsX4_countBefore wsX4_fits := goodIn_r _ [25] (by decide +kernel) (by decide +kernel)
set_option maxRecDepth 20000 in
theorem gX4_countBefore_X4_fits : GoodIn wsX4_countBefore (va_wsS RX4 66 yX4_fits wsX4_fits) := goodIn_app (goodIn_of _ (by decide +kernel)) ggX4_countBefore_X4_fits
theorem dX4_countBefore_0 : decode cX4_countBefore 0 = .ok (.aload_n 0, 1) := by decide +kernel
theorem dX4_countBefore_1 : decode cX4_countBefore 1 = .ok (.iload_n 3, 1) := by decide +kernel
theorem dX4_countBefore_2 : decode cX4_countBefore 2 = .ok (.iload_n 2, 1) := by decide +kernel
theorem dX4_countBefore_3 : decode cX4_countBefore 3 = .ok (.invokevirtual 108, 3) := by decide +kernel
theorem dX4_countBefore_6 : decode cX4_countBefore 6 = .ok (.istore 4, 2) := by decide +kernel
theorem dX4_countBefore_8 : decode cX4_countBefore 8 = .ok (.iconst 0, 1) := by decide +kernel
theorem dX4_countBefore_9 : decode cX4_countBefore 9 = .ok (.istore 5, 2) := by decide +kernel
theorem dX4_countBefore_11 : decode cX4_countBefore 11 = .ok (.iconst 0, 1) := by decide +kernel
theorem dX4_countBefore_12 : decode cX4_countBefore 12 = .ok (.istore 6, 2) := by decide +kernel
theorem dX4_countBefore_14 : decode cX4_countBefore 14 = .ok (.iload 6, 2) := by decide +kernel
theorem dX4_countBefore_16 : decode cX4_countBefore 16 = .ok (.aload_n 0, 1) := by decide +kernel
theorem dX4_countBefore_17 : decode cX4_countBefore 17 = .ok (.getfield 25, 3) := by decide +kernel
theorem dX4_countBefore_20 : decode cX4_countBefore 20 = .ok (.if_icmp .ge 37, 3) := by decide +kernel
theorem dX4_countBefore_23 : decode cX4_countBefore 23 = .ok (.aload_n 0, 1) := by decide +kernel
theorem dX4_countBefore_24 : decode cX4_countBefore 24 = .ok (.iload 6, 2) := by decide +kernel
theorem dX4_countBefore_26 : decode cX4_countBefore 26 = .ok (.invokevirtual 54, 3) := by decide +kernel
theorem dX4_countBefore_29 : decode cX4_countBefore 29 = .ok (.iload_n 1, 1) := by decide +kernel
theorem dX4_countBefore_30 : decode cX4_countBefore 30 = .ok (.invokestatic 66, 3) := by decide +kernel
theorem dX4_countBefore_33 : decode cX4_countBefore 33 = .ok (.ifCond .eq 18, 3) := by decide +kernel
theorem dX4_countBefore_36 : decode cX4_countBefore 36 = .ok (.aload_n 0, 1) := by decide +kernel
theorem dX4_countBefore_37 : decode cX4_countBefore 37 = .ok (.iload 6, 2) := by decide +kernel
theorem dX4_countBefore_39 : decode cX4_countBefore 39 = .ok (.iload_n 2, 1) := by decide +kernel
theorem dX4_countBefore_40 : decode cX4_countBefore 40 = .ok (.invokevirtual 108, 3) := by decide +kernel
theorem dX4_countBefore_43 : decode cX4_countBefore 43 = .ok (.iload 4, 2) := by decide +kernel
theorem dX4_countBefore_45 : decode cX4_countBefore 45 = .ok (.if_icmp .ge 6, 3) := by decide +kernel
theorem dX4_countBefore_48 : decode cX4_countBefore 48 = .ok (.iinc 5 1, 3) := by decide +kernel
theorem dX4_countBefore_51 : decode cX4_countBefore 51 = .ok (.iinc 6 1, 3) := by decide +kernel
theorem dX4_countBefore_54 : decode cX4_countBefore 54 = .ok (.goto (-40), 3) := by decide +kernel
theorem dX4_countBefore_57 : decode cX4_countBefore 57 = .ok (.iload 5, 2) := by decide +kernel
theorem dX4_countBefore_59 : decode cX4_countBefore 59 = .ok (.ireturn, 1) := by decide +kernel
set_option maxRecDepth 20000 in
theorem ggX4_rankAt_X4_tripleAt : GoodIn wsX4_rankAt wsX4_tripleAt := goodIn_r _ [5, 6, 7, 19, 20, 21, 22, 23, 24, 25, 26, 27, 28] (by decide +kernel) (by decide +kernel)
set_option maxRecDepth 20000 in
theorem gX4_rankAt_X4_tripleAt : GoodIn wsX4_rankAt (wsV RX4 54 RX4 yX4_tripleAt wsX4_tripleAt) := goodIn_app (goodIn_of _ (by decide +kernel)) ggX4_rankAt_X4_tripleAt
set_option maxRecDepth 20000 in
theorem ggX4_rankAt_X2_rankOf : GoodIn wsX4_rankAt wsX2_rankOf := goodIn_r _ [11, 12, 13, 10, 14, 15, 16, 17, 18] (by decide +kernel) (by decide +kernel)
set_option maxRecDepth 20000 in
theorem gX4_rankAt_X2_rankOf : GoodIn wsX4_rankAt (va_wsS RX4 111 yX2_rankOf wsX2_rankOf) := goodIn_app (goodIn_of _ (by decide +kernel)) ggX4_rankAt_X2_rankOf
theorem dX4_rankAt_0 : decode cX4_rankAt 0 = .ok (.iload_n 2, 1) := by decide +kernel
theorem dX4_rankAt_1 : decode cX4_rankAt 1 = .ok (.iconst (-1), 1) := by decide +kernel
theorem dX4_rankAt_2 : decode cX4_rankAt 2 = .ok (.if_icmp .ne 7, 3) := by decide +kernel
theorem dX4_rankAt_5 : decode cX4_rankAt 5 = .ok (.iload_n 1, 1) := by decide +kernel
theorem dX4_rankAt_6 : decode cX4_rankAt 6 = .ok (.goto 12, 3) := by decide +kernel
theorem dX4_rankAt_9 : decode cX4_rankAt 9 = .ok (.aload_n 0, 1) := by decide +kernel
theorem dX4_rankAt_10 : decode cX4_rankAt 10 = .ok (.iload_n 1, 1) := by decide +kernel
theorem dX4_rankAt_11 : decode cX4_rankAt 11 = .ok (.invokevirtual 54, 3) := by decide +kernel
theorem dX4_rankAt_14 : decode cX4_rankAt 14 = .ok (.iload_n 2, 1) := by decide +kernel
theorem dX4_rankAt_15 : decode cX4_rankAt 15 = .ok (.invokestatic 111, 3) := by decide +kernel
theorem dX4_rankAt_18 : decode cX4_rankAt 18 = .ok (.ireturn, 1) := by decide +kernel
theorem dX4_fits_0 : decode cX4_fits 0 = .ok (.iload_n 1, 1) := by decide +kernel
theorem dX4_fits_1 : decode cX4_fits 1 = .ok (.ifCond .ge 5, 3) := by decide +kernel
theorem dX4_fits_4 : decode cX4_fits 4 = .ok (.iconst 0, 1) := by decide +kernel
theorem dX4_fits_5 : decode cX4_fits 5 = .ok (.ireturn, 1) := by decide +kernel
theorem dX4_fits_6 : decode cX4_fits 6 = .ok (.iload_n 1, 1) := by decide +kernel
theorem dX4_fits_7 : decode cX4_fits 7 = .ok (.bipush 121, 2) := by decide +kernel
theorem dX4_fits_9 : decode cX4_fits 9 = .ok (.idiv, 1) := by decide +kernel
theorem dX4_fits_10 : decode cX4_fits 10 = .ok (.istore_n 2, 1) := by decide +kernel
theorem dX4_fits_11 : decode cX4_fits 11 = .ok (.iload_n 1, 1) := by decide +kernel
theorem dX4_fits_12 : decode cX4_fits 12 = .ok (.bipush 11, 2) := by decide +kernel
theorem dX4_fits_14 : decode cX4_fits 14 = .ok (.idiv, 1) := by decide +kernel
theorem dX4_fits_15 : decode cX4_fits 15 = .ok (.bipush 11, 2) := by decide +kernel
theorem dX4_fits_17 : decode cX4_fits 17 = .ok (.irem, 1) := by decide +kernel
theorem dX4_fits_18 : decode cX4_fits 18 = .ok (.istore_n 3, 1) := by decide +kernel
theorem dX4_fits_19 : decode cX4_fits 19 = .ok (.iload_n 1, 1) := by decide +kernel
theorem dX4_fits_20 : decode cX4_fits 20 = .ok (.bipush 11, 2) := by decide +kernel
theorem dX4_fits_22 : decode cX4_fits 22 = .ok (.irem, 1) := by decide +kernel
theorem dX4_fits_23 : decode cX4_fits 23 = .ok (.istore 4, 2) := by decide +kernel
theorem dX4_fits_25 : decode cX4_fits 25 = .ok (.iload_n 2, 1) := by decide +kernel
theorem dX4_fits_26 : decode cX4_fits 26 = .ok (.bipush 10, 2) := by decide +kernel
theorem dX4_fits_28 : decode cX4_fits 28 = .ok (.if_icmp .eq 11, 3) := by decide +kernel
theorem dX4_fits_31 : decode cX4_fits 31 = .ok (.iload_n 2, 1) := by decide +kernel
theorem dX4_fits_32 : decode cX4_fits 32 = .ok (.iload_n 0, 1) := by decide +kernel
theorem dX4_fits_33 : decode cX4_fits 33 = .ok (.bipush 100, 2) := by decide +kernel
theorem dX4_fits_35 : decode cX4_fits 35 = .ok (.idiv, 1) := by decide +kernel
theorem dX4_fits_36 : decode cX4_fits 36 = .ok (.if_icmp .ne 40, 3) := by decide +kernel
theorem dX4_fits_39 : decode cX4_fits 39 = .ok (.iload_n 3, 1) := by decide +kernel
theorem dX4_fits_40 : decode cX4_fits 40 = .ok (.bipush 10, 2) := by decide +kernel
theorem dX4_fits_42 : decode cX4_fits 42 = .ok (.if_icmp .eq 14, 3) := by decide +kernel
theorem dX4_fits_45 : decode cX4_fits 45 = .ok (.iload_n 3, 1) := by decide +kernel
theorem dX4_fits_46 : decode cX4_fits 46 = .ok (.iload_n 0, 1) := by decide +kernel
theorem dX4_fits_47 : decode cX4_fits 47 = .ok (.bipush 10, 2) := by decide +kernel
theorem dX4_fits_49 : decode cX4_fits 49 = .ok (.idiv, 1) := by decide +kernel
theorem dX4_fits_50 : decode cX4_fits 50 = .ok (.bipush 10, 2) := by decide +kernel
theorem dX4_fits_52 : decode cX4_fits 52 = .ok (.irem, 1) := by decide +kernel
theorem dX4_fits_53 : decode cX4_fits 53 = .ok (.if_icmp .ne 23, 3) := by decide +kernel
theorem dX4_fits_56 : decode cX4_fits 56 = .ok (.iload 4, 2) := by decide +kernel
theorem dX4_fits_58 : decode cX4_fits 58 = .ok (.bipush 10, 2) := by decide +kernel
theorem dX4_fits_60 : decode cX4_fits 60 = .ok (.if_icmp .eq 12, 3) := by decide +kernel
theorem dX4_fits_63 : decode cX4_fits 63 = .ok (.iload 4, 2) := by decide +kernel
theorem dX4_fits_65 : decode cX4_fits 65 = .ok (.iload_n 0, 1) := by decide +kernel
theorem dX4_fits_66 : decode cX4_fits 66 = .ok (.bipush 10, 2) := by decide +kernel
theorem dX4_fits_68 : decode cX4_fits 68 = .ok (.irem, 1) := by decide +kernel
theorem dX4_fits_69 : decode cX4_fits 69 = .ok (.if_icmp .ne 7, 3) := by decide +kernel
theorem dX4_fits_72 : decode cX4_fits 72 = .ok (.iconst 1, 1) := by decide +kernel
theorem dX4_fits_73 : decode cX4_fits 73 = .ok (.goto 4, 3) := by decide +kernel
theorem dX4_fits_76 : decode cX4_fits 76 = .ok (.iconst 0, 1) := by decide +kernel
theorem dX4_fits_77 : decode cX4_fits 77 = .ok (.ireturn, 1) := by decide +kernel
set_option maxRecDepth 20000 in
theorem ggX4_noteQuestion_X4_costNow : GoodIn wsX4_noteQuestion wsX4_costNow := goodIn_r _ [9, 10, 11, 12, 13, 14, 15, 16, 17, 8, 18, 19, 20, 21, 22, 23, 24, 25, 26, 27, 28, 29, 30, 31, 32, 33, 34, 35, 36, 37, 38, 39, 40, 41, 42, 43, 44, 45, 46, 47, 48, 49, 50, 51, 52, 53, 54, 55, 56, 61, 62, 63, 64, 65, 66, 67, 68, 69, 70] (by decide +kernel) (by decide +kernel)
set_option maxRecDepth 20000 in
theorem gX4_noteQuestion_X4_costNow : GoodIn wsX4_noteQuestion (wsV RX4 114 RX4 yX4_costNow wsX4_costNow) := goodIn_app (goodIn_of _ (by decide +kernel)) ggX4_noteQuestion_X4_costNow
set_option maxRecDepth 20000 in
theorem ggX4_noteQuestion_X4_forgetOldest : GoodIn wsX4_noteQuestion wsX4_forgetOldest := goodIn_r _ [60, 3, 4, 61, 62, 63, 64, 65, 66, 67, 68, 69, 70] (by decide +kernel) (by decide +kernel)
set_option maxRecDepth 20000 in
theorem gX4_noteQuestion_X4_forgetOldest : GoodIn wsX4_noteQuestion (wsV RX4 117 RX4 yX4_forgetOldest wsX4_forgetOldest) := goodIn_app (goodIn_of _ (by decide +kernel)) ggX4_noteQuestion_X4_forgetOldest
set_option maxRecDepth 20000 in
theorem ggX4_noteQuestion_X4_countAnswers : GoodIn wsX4_noteQuestion wsX4_countAnswers := goodIn_r _ [48, 10, 49, 50, 51, 8, 52, 53, 54, 55, 56, 61, 62, 63, 64, 65, 66, 67, 68, 69, 70] (by decide +kernel) (by decide +kernel)
set_option maxRecDepth 20000 in
theorem gX4_noteQuestion_X4_countAnswers : GoodIn wsX4_noteQuestion (wsV RX4 80 RX4 yX4_countAnswers wsX4_countAnswers) := goodIn_app (goodIn_of _ (by decide +kernel)) ggX4_noteQuestion_X4_countAnswers
theorem dX4_noteQuestion_0 : decode cX4_noteQuestion 0 = .ok (.aload_n 0, 1) := by decide +kernel
theorem dX4_noteQuestion_1 : decode cX4_noteQuestion 1 = .ok (.dup, 1) := by decide +kernel
theorem dX4_noteQuestion_2 : decode cX4_noteQuestion 2 = .ok (.getfield 38, 3) := by decide +kernel
theorem dX4_noteQuestion_5 : decode cX4_noteQuestion 5 = .ok (.aload_n 0, 1) := by decide +kernel
theorem dX4_noteQuestion_6 : decode cX4_noteQuestion 6 = .ok (.iload_n 1, 1) := by decide +kernel
theorem dX4_noteQuestion_7 : decode cX4_noteQuestion 7 = .ok (.invokevirtual 114, 3) := by decide +kernel
theorem dX4_noteQuestion_10 : decode cX4_noteQuestion 10 = .ok (.iadd, 1) := by decide +kernel
theorem dX4_noteQuestion_11 : decode cX4_noteQuestion 11 = .ok (.putfield 38, 3) := by decide +kernel
theorem dX4_noteQuestion_14 : decode cX4_noteQuestion 14 = .ok (.aload_n 0, 1) := by decide +kernel
theorem dX4_noteQuestion_15 : decode cX4_noteQuestion 15 = .ok (.dup, 1) := by decide +kernel
theorem dX4_noteQuestion_16 : decode cX4_noteQuestion 16 = .ok (.getfield 41, 3) := by decide +kernel
theorem dX4_noteQuestion_19 : decode cX4_noteQuestion 19 = .ok (.iconst 1, 1) := by decide +kernel
theorem dX4_noteQuestion_20 : decode cX4_noteQuestion 20 = .ok (.iadd, 1) := by decide +kernel
theorem dX4_noteQuestion_21 : decode cX4_noteQuestion 21 = .ok (.putfield 41, 3) := by decide +kernel
theorem dX4_noteQuestion_24 : decode cX4_noteQuestion 24 = .ok (.aload_n 0, 1) := by decide +kernel
theorem dX4_noteQuestion_25 : decode cX4_noteQuestion 25 = .ok (.getfield 44, 3) := by decide +kernel
theorem dX4_noteQuestion_28 : decode cX4_noteQuestion 28 = .ok (.aload_n 0, 1) := by decide +kernel
theorem dX4_noteQuestion_29 : decode cX4_noteQuestion 29 = .ok (.getfield 19, 3) := by decide +kernel
theorem dX4_noteQuestion_32 : decode cX4_noteQuestion 32 = .ok (.arraylength, 1) := by decide +kernel
theorem dX4_noteQuestion_33 : decode cX4_noteQuestion 33 = .ok (.if_icmp .lt 7, 3) := by decide +kernel
theorem dX4_noteQuestion_36 : decode cX4_noteQuestion 36 = .ok (.aload_n 0, 1) := by decide +kernel
theorem dX4_noteQuestion_37 : decode cX4_noteQuestion 37 = .ok (.invokevirtual 117, 3) := by decide +kernel
theorem dX4_noteQuestion_40 : decode cX4_noteQuestion 40 = .ok (.aload_n 0, 1) := by decide +kernel
theorem dX4_noteQuestion_41 : decode cX4_noteQuestion 41 = .ok (.getfield 44, 3) := by decide +kernel
theorem dX4_noteQuestion_44 : decode cX4_noteQuestion 44 = .ok (.ifCond .lt 35, 3) := by decide +kernel
theorem dX4_noteQuestion_47 : decode cX4_noteQuestion 47 = .ok (.aload_n 0, 1) := by decide +kernel
theorem dX4_noteQuestion_48 : decode cX4_noteQuestion 48 = .ok (.getfield 44, 3) := by decide +kernel
theorem dX4_noteQuestion_51 : decode cX4_noteQuestion 51 = .ok (.aload_n 0, 1) := by decide +kernel
theorem dX4_noteQuestion_52 : decode cX4_noteQuestion 52 = .ok (.getfield 19, 3) := by decide +kernel
theorem dX4_noteQuestion_55 : decode cX4_noteQuestion 55 = .ok (.arraylength, 1) := by decide +kernel
theorem dX4_noteQuestion_56 : decode cX4_noteQuestion 56 = .ok (.if_icmp .ge 23, 3) := by decide +kernel
theorem dX4_noteQuestion_59 : decode cX4_noteQuestion 59 = .ok (.aload_n 0, 1) := by decide +kernel
theorem dX4_noteQuestion_60 : decode cX4_noteQuestion 60 = .ok (.getfield 19, 3) := by decide +kernel
theorem dX4_noteQuestion_63 : decode cX4_noteQuestion 63 = .ok (.aload_n 0, 1) := by decide +kernel
theorem dX4_noteQuestion_64 : decode cX4_noteQuestion 64 = .ok (.getfield 44, 3) := by decide +kernel
theorem dX4_noteQuestion_67 : decode cX4_noteQuestion 67 = .ok (.iload_n 1, 1) := by decide +kernel
theorem dX4_noteQuestion_68 : decode cX4_noteQuestion 68 = .ok (.iastore, 1) := by decide +kernel
theorem dX4_noteQuestion_69 : decode cX4_noteQuestion 69 = .ok (.aload_n 0, 1) := by decide +kernel
theorem dX4_noteQuestion_70 : decode cX4_noteQuestion 70 = .ok (.dup, 1) := by decide +kernel
theorem dX4_noteQuestion_71 : decode cX4_noteQuestion 71 = .ok (.getfield 44, 3) := by decide +kernel
theorem dX4_noteQuestion_74 : decode cX4_noteQuestion 74 = .ok (.iconst 1, 1) := by decide +kernel
theorem dX4_noteQuestion_75 : decode cX4_noteQuestion 75 = .ok (.iadd, 1) := by decide +kernel
theorem dX4_noteQuestion_76 : decode cX4_noteQuestion 76 = .ok (.putfield 44, 3) := by decide +kernel
theorem dX4_noteQuestion_79 : decode cX4_noteQuestion 79 = .ok (.aload_n 0, 1) := by decide +kernel
theorem dX4_noteQuestion_80 : decode cX4_noteQuestion 80 = .ok (.iload_n 1, 1) := by decide +kernel
theorem dX4_noteQuestion_81 : decode cX4_noteQuestion 81 = .ok (.invokevirtual 80, 3) := by decide +kernel
theorem dX4_noteQuestion_84 : decode cX4_noteQuestion 84 = .ok (.ireturn, 1) := by decide +kernel
theorem dX4_forgetOldest_0 : decode cX4_forgetOldest 0 = .ok (.iconst 0, 1) := by decide +kernel
theorem dX4_forgetOldest_1 : decode cX4_forgetOldest 1 = .ok (.istore_n 1, 1) := by decide +kernel
theorem dX4_forgetOldest_2 : decode cX4_forgetOldest 2 = .ok (.iload_n 1, 1) := by decide +kernel
theorem dX4_forgetOldest_3 : decode cX4_forgetOldest 3 = .ok (.iconst 1, 1) := by decide +kernel
theorem dX4_forgetOldest_4 : decode cX4_forgetOldest 4 = .ok (.iadd, 1) := by decide +kernel
theorem dX4_forgetOldest_5 : decode cX4_forgetOldest 5 = .ok (.aload_n 0, 1) := by decide +kernel
theorem dX4_forgetOldest_6 : decode cX4_forgetOldest 6 = .ok (.getfield 44, 3) := by decide +kernel
theorem dX4_forgetOldest_9 : decode cX4_forgetOldest 9 = .ok (.if_icmp .ge 34, 3) := by decide +kernel
theorem dX4_forgetOldest_12 : decode cX4_forgetOldest 12 = .ok (.iload_n 1, 1) := by decide +kernel
theorem dX4_forgetOldest_13 : decode cX4_forgetOldest 13 = .ok (.iconst 1, 1) := by decide +kernel
theorem dX4_forgetOldest_14 : decode cX4_forgetOldest 14 = .ok (.iadd, 1) := by decide +kernel
theorem dX4_forgetOldest_15 : decode cX4_forgetOldest 15 = .ok (.aload_n 0, 1) := by decide +kernel
theorem dX4_forgetOldest_16 : decode cX4_forgetOldest 16 = .ok (.getfield 19, 3) := by decide +kernel
theorem dX4_forgetOldest_19 : decode cX4_forgetOldest 19 = .ok (.arraylength, 1) := by decide +kernel
theorem dX4_forgetOldest_20 : decode cX4_forgetOldest 20 = .ok (.if_icmp .ge 23, 3) := by decide +kernel
theorem dX4_forgetOldest_23 : decode cX4_forgetOldest 23 = .ok (.aload_n 0, 1) := by decide +kernel
theorem dX4_forgetOldest_24 : decode cX4_forgetOldest 24 = .ok (.getfield 19, 3) := by decide +kernel
theorem dX4_forgetOldest_27 : decode cX4_forgetOldest 27 = .ok (.iload_n 1, 1) := by decide +kernel
theorem dX4_forgetOldest_28 : decode cX4_forgetOldest 28 = .ok (.aload_n 0, 1) := by decide +kernel
theorem dX4_forgetOldest_29 : decode cX4_forgetOldest 29 = .ok (.getfield 19, 3) := by decide +kernel
theorem dX4_forgetOldest_32 : decode cX4_forgetOldest 32 = .ok (.iload_n 1, 1) := by decide +kernel
theorem dX4_forgetOldest_33 : decode cX4_forgetOldest 33 = .ok (.iconst 1, 1) := by decide +kernel
theorem dX4_forgetOldest_34 : decode cX4_forgetOldest 34 = .ok (.iadd, 1) := by decide +kernel
theorem dX4_forgetOldest_35 : decode cX4_forgetOldest 35 = .ok (.iaload, 1) := by decide +kernel
theorem dX4_forgetOldest_36 : decode cX4_forgetOldest 36 = .ok (.iastore, 1) := by decide +kernel
theorem dX4_forgetOldest_37 : decode cX4_forgetOldest 37 = .ok (.iinc 1 1, 3) := by decide +kernel
theorem dX4_forgetOldest_40 : decode cX4_forgetOldest 40 = .ok (.goto (-38), 3) := by decide +kernel
theorem dX4_forgetOldest_43 : decode cX4_forgetOldest 43 = .ok (.aload_n 0, 1) := by decide +kernel
theorem dX4_forgetOldest_44 : decode cX4_forgetOldest 44 = .ok (.dup, 1) := by decide +kernel
theorem dX4_forgetOldest_45 : decode cX4_forgetOldest 45 = .ok (.getfield 44, 3) := by decide +kernel
theorem dX4_forgetOldest_48 : decode cX4_forgetOldest 48 = .ok (.iconst 1, 1) := by decide +kernel
theorem dX4_forgetOldest_49 : decode cX4_forgetOldest 49 = .ok (.isub, 1) := by decide +kernel
theorem dX4_forgetOldest_50 : decode cX4_forgetOldest 50 = .ok (.putfield 44, 3) := by decide +kernel
theorem dX4_forgetOldest_53 : decode cX4_forgetOldest 53 = .ok (.return_, 1) := by decide +kernel
theorem dX5_init_0 : decode cX5_init 0 = .ok (.aload_n 0, 1) := by decide +kernel
theorem dX5_init_1 : decode cX5_init 1 = .ok (.invokespecial 3, 3) := by decide +kernel
theorem dX5_init_4 : decode cX5_init 4 = .ok (.aload_n 0, 1) := by decide +kernel
theorem dX5_init_5 : decode cX5_init 5 = .ok (.bipush 100, 2) := by decide +kernel
theorem dX5_init_7 : decode cX5_init 7 = .ok (.newarray .char, 2) := by decide +kernel
theorem dX5_init_9 : decode cX5_init 9 = .ok (.putfield 9, 3) := by decide +kernel
theorem dX5_init_12 : decode cX5_init 12 = .ok (.return_, 1) := by decide +kernel
set_option maxRecDepth 20000 in
theorem ggX6_init_X5_init : GoodIn wsX6_init wsX5_init := goodIn_r _ [27, 28, 2, 3, 29, 30, 55, 56] (by decide +kernel) (by decide +kernel)
set_option maxRecDepth 20000 in
theorem gX6_init_X5_init_n9 : GoodIn wsX6_init (wsX5_init) := ggX6_init_X5_init
set_option maxRecDepth 20000 in
theorem ggX6_init_X4_init : GoodIn wsX6_init wsX4_init := goodIn_r _ [32, 33, 2, 3, 34, 35, 36, 37, 38, 64, 65, 66, 67, 68, 69, 70, 71, 72, 73] (by decide +kernel) (by decide +kernel)
set_option maxRecDepth 20000 in
theorem gX6_init_X4_init_n18 : GoodIn wsX6_init (wsX4_init) := ggX6_init_X4_init
set_option maxRecDepth 20000 in
theorem ggX6_init_X1_init : GoodIn wsX6_init wsX1_init := goodIn_r _ [41, 42, 2, 3, 43, 44, 9, 10, 31, 32, 33, 34, 35, 36, 37, 38, 74, 75, 76, 64, 65, 66, 67, 68, 69, 70, 71, 72, 73] (by decide +kernel) (by decide +kernel)
set_option maxRecDepth 20000 in
theorem gX6_init_X1_init : GoodIn wsX6_init (wsX1_init) := ggX6_init_X1_init
set_option maxRecDepth 20000 in
theorem ggX6_init_X0_init : GoodIn wsX6_init wsX0_init := goodIn_r _ [46, 47, 2, 3, 34, 48, 49, 77, 78, 79, 80, 81, 82] (by decide +kernel) (by decide +kernel)
set_option maxRecDepth 20000 in
theorem gX6_init_X0_init_n35 : GoodIn wsX6_init (wsX0_init) := ggX6_init_X0_init
set_option maxRecDepth 20000 in
theorem ggX6_init_X3_init : GoodIn wsX6_init wsX3_init := goodIn_r _ [51, 52, 2, 3, 53, 9, 10, 54, 31, 32, 33, 34, 35, 36, 37, 38, 64, 65, 66, 67, 68, 69, 70, 71, 72, 73, 83, 84] (by decide +kernel) (by decide +kernel)
set_option maxRecDepth 20000 in
theorem gX6_init_X3_init_n42 : GoodIn wsX6_init (wsX3_init) := ggX6_init_X3_init
theorem dX6_init_0 : decode cX6_init 0 = .ok (.aload_n 0, 1) := by decide +kernel
theorem dX6_init_1 : decode cX6_init 1 = .ok (.invokespecial 1, 3) := by decide +kernel
theorem dX6_init_4 : decode cX6_init 4 = .ok (.aload_n 0, 1) := by decide +kernel
theorem dX6_init_5 : decode cX6_init 5 = .ok (.new 7, 3) := by decide +kernel
theorem dX6_init_8 : decode cX6_init 8 = .ok (.dup, 1) := by decide +kernel
theorem dX6_init_9 : decode cX6_init 9 = .ok (.invokespecial 9, 3) := by decide +kernel
theorem dX6_init_12 : decode cX6_init 12 = .ok (.putfield 10, 3) := by decide +kernel
theorem dX6_init_15 : decode cX6_init 15 = .ok (.aload_n 0, 1) := by decide +kernel
theorem dX6_init_16 : decode cX6_init 16 = .ok (.new 16, 3) := by decide +kernel
theorem dX6_init_19 : decode cX6_init 19 = .ok (.dup, 1) := by decide +kernel
theorem dX6_init_20 : decode cX6_init 20 = .ok (.invokespecial 18, 3) := by decide +kernel
theorem dX6_init_23 : decode cX6_init 23 = .ok (.putfield 19, 3) := by decide +kernel
theorem dX6_init_26 : decode cX6_init 26 = .ok (.aload_n 0, 1) := by decide +kernel
theorem dX6_init_27 : decode cX6_init 27 = .ok (.new 16, 3) := by decide +kernel
theorem dX6_init_30 : decode cX6_init 30 = .ok (.dup, 1) := by decide +kernel
theorem dX6_init_31 : decode cX6_init 31 = .ok (.invokespecial 18, 3) := by decide +kernel
theorem dX6_init_34 : decode cX6_init 34 = .ok (.putfield 23, 3) := by decide +kernel
theorem dX6_init_37 : decode cX6_init 37 = .ok (.aload_n 0, 1) := by decide +kernel
theorem dX6_init_38 : decode cX6_init 38 = .ok (.new 26, 3) := by decide +kernel
theorem dX6_init_41 : decode cX6_init 41 = .ok (.dup, 1) := by decide +kernel
theorem dX6_init_42 : decode cX6_init 42 = .ok (.invokespecial 28, 3) := by decide +kernel
theorem dX6_init_45 : decode cX6_init 45 = .ok (.putfield 29, 3) := by decide +kernel
theorem dX6_init_48 : decode cX6_init 48 = .ok (.aload_n 0, 1) := by decide +kernel
theorem dX6_init_49 : decode cX6_init 49 = .ok (.new 33, 3) := by decide +kernel
theorem dX6_init_52 : decode cX6_init 52 = .ok (.dup, 1) := by decide +kernel
theorem dX6_init_53 : decode cX6_init 53 = .ok (.invokespecial 35, 3) := by decide +kernel
theorem dX6_init_56 : decode cX6_init 56 = .ok (.putfield 36, 3) := by decide +kernel
theorem dX6_init_59 : decode cX6_init 59 = .ok (.aload_n 0, 1) := by decide +kernel
theorem dX6_init_60 : decode cX6_init 60 = .ok (.new 40, 3) := by decide +kernel
theorem dX6_init_63 : decode cX6_init 63 = .ok (.dup, 1) := by decide +kernel
theorem dX6_init_64 : decode cX6_init 64 = .ok (.invokespecial 42, 3) := by decide +kernel
theorem dX6_init_67 : decode cX6_init 67 = .ok (.putfield 43, 3) := by decide +kernel
theorem dX6_init_70 : decode cX6_init 70 = .ok (.aload_n 0, 1) := by decide +kernel
theorem dX6_init_71 : decode cX6_init 71 = .ok (.new 40, 3) := by decide +kernel
theorem dX6_init_74 : decode cX6_init 74 = .ok (.dup, 1) := by decide +kernel
theorem dX6_init_75 : decode cX6_init 75 = .ok (.invokespecial 42, 3) := by decide +kernel
theorem dX6_init_78 : decode cX6_init 78 = .ok (.putfield 47, 3) := by decide +kernel
theorem dX6_init_81 : decode cX6_init 81 = .ok (.return_, 1) := by decide +kernel
set_option maxRecDepth 20000 in
theorem ggX6_about_X4_look : GoodIn wsX6_about wsX4_look := goodIn_r _ [8, 9, 17, 18, 19, 20, 21, 22, 23, 24, 25, 26] (by decide +kernel) (by decide +kernel)
set_option maxRecDepth 20000 in
theorem gX6_about_X4_look : GoodIn wsX6_about (wsV RX6 107 RX4 yX4_look wsX4_look) := goodIn_app (goodIn_of _ (by decide +kernel)) ggX6_about_X4_look
theorem dX6_about_0 : decode cX6_about 0 = .ok (.iload_n 1, 1) := by decide +kernel
theorem dX6_about_1 : decode cX6_about 1 = .ok (.tableswitch 111 0 7 #[47, 55, 63, 71, 79, 87, 95, 103], 47) := by decide +kernel
theorem dX6_about_48 : decode cX6_about 48 = .ok (.aload_n 0, 1) := by decide +kernel
theorem dX6_about_49 : decode cX6_about 49 = .ok (.getfield 19, 3) := by decide +kernel
theorem dX6_about_52 : decode cX6_about 52 = .ok (.getfield 85, 3) := by decide +kernel
theorem dX6_about_55 : decode cX6_about 55 = .ok (.ireturn, 1) := by decide +kernel
theorem dX6_about_56 : decode cX6_about 56 = .ok (.aload_n 0, 1) := by decide +kernel
theorem dX6_about_57 : decode cX6_about 57 = .ok (.getfield 19, 3) := by decide +kernel
theorem dX6_about_60 : decode cX6_about 60 = .ok (.getfield 89, 3) := by decide +kernel
theorem dX6_about_63 : decode cX6_about 63 = .ok (.ireturn, 1) := by decide +kernel
theorem dX6_about_64 : decode cX6_about 64 = .ok (.aload_n 0, 1) := by decide +kernel
theorem dX6_about_65 : decode cX6_about 65 = .ok (.getfield 19, 3) := by decide +kernel
theorem dX6_about_68 : decode cX6_about 68 = .ok (.getfield 92, 3) := by decide +kernel
theorem dX6_about_71 : decode cX6_about 71 = .ok (.ireturn, 1) := by decide +kernel
theorem dX6_about_72 : decode cX6_about 72 = .ok (.aload_n 0, 1) := by decide +kernel
theorem dX6_about_73 : decode cX6_about 73 = .ok (.getfield 19, 3) := by decide +kernel
theorem dX6_about_76 : decode cX6_about 76 = .ok (.getfield 95, 3) := by decide +kernel
theorem dX6_about_79 : decode cX6_about 79 = .ok (.ireturn, 1) := by decide +kernel
theorem dX6_about_80 : decode cX6_about 80 = .ok (.aload_n 0, 1) := by decide +kernel
theorem dX6_about_81 : decode cX6_about 81 = .ok (.getfield 19, 3) := by decide +kernel
theorem dX6_about_84 : decode cX6_about 84 = .ok (.getfield 98, 3) := by decide +kernel
theorem dX6_about_87 : decode cX6_about 87 = .ok (.ireturn, 1) := by decide +kernel
theorem dX6_about_88 : decode cX6_about 88 = .ok (.aload_n 0, 1) := by decide +kernel
theorem dX6_about_89 : decode cX6_about 89 = .ok (.getfield 19, 3) := by decide +kernel
theorem dX6_about_92 : decode cX6_about 92 = .ok (.getfield 101, 3) := by decide +kernel
theorem dX6_about_95 : decode cX6_about 95 = .ok (.ireturn, 1) := by decide +kernel
theorem dX6_about_96 : decode cX6_about 96 = .ok (.aload_n 0, 1) := by decide +kernel
theorem dX6_about_97 : decode cX6_about 97 = .ok (.getfield 19, 3) := by decide +kernel
theorem dX6_about_100 : decode cX6_about 100 = .ok (.getfield 104, 3) := by decide +kernel
theorem dX6_about_103 : decode cX6_about 103 = .ok (.ireturn, 1) := by decide +kernel
theorem dX6_about_104 : decode cX6_about 104 = .ok (.aload_n 0, 1) := by decide +kernel
theorem dX6_about_105 : decode cX6_about 105 = .ok (.getfield 19, 3) := by decide +kernel
theorem dX6_about_108 : decode cX6_about 108 = .ok (.invokevirtual 107, 3) := by decide +kernel
theorem dX6_about_111 : decode cX6_about 111 = .ok (.ireturn, 1) := by decide +kernel
theorem dX6_about_112 : decode cX6_about 112 = .ok (.new 50, 3) := by decide +kernel
theorem dX6_about_115 : decode cX6_about 115 = .ok (.dup, 1) := by decide +kernel
theorem dX6_about_116 : decode cX6_about 116 = .ok (.ldc 110, 2) := by decide +kernel
theorem dX6_about_118 : decode cX6_about 118 = .ok (.invokespecial 54, 3) := by decide +kernel
theorem dX6_about_121 : decode cX6_about 121 = .ok (.athrow, 1) := by decide +kernel
set_option maxRecDepth 20000 in
theorem ggX6_triple_X6_needOrderOrNone : GoodIn wsX6_triple wsX6_needOrderOrNone := goodIn_ca (goodIn_r _ [5, 6, 7, 4, 8, 9, 10] (by decide +kernel) (by decide +kernel)) (goodIn_sub (fun _ h => List.mem_cons_of_mem _ (List.mem_append_left _ (List.mem_append_right _ h))) (by decide +kernel))
set_option maxRecDepth 20000 in
theorem gX6_triple_X6_needOrderOrNone : GoodIn wsX6_triple (va_wsS RX6 112 yX6_needOrderOrNone wsX6_needOrderOrNone) := goodIn_app (goodIn_of _ (by decide +kernel)) ggX6_triple_X6_needOrderOrNone
set_option maxRecDepth 20000 in
theorem ggX6_triple_X6_needPlace : GoodIn wsX6_triple wsX6_needPlace := goodIn_ca (goodIn_r _ [13, 14, 15] (by decide +kernel) (by decide +kernel)) (goodIn_sub (fun _ h => List.mem_cons_of_mem _ (List.mem_append_right _ h)) (by decide +kernel))
set_option maxRecDepth 20000 in
theorem gX6_triple_X6_needPlace : GoodIn wsX6_triple (va_wsS RX6 116 yX6_needPlace wsX6_needPlace) := goodIn_app (goodIn_of _ (by decide +kernel)) ggX6_triple_X6_needPlace
set_option maxRecDepth 20000 in
theorem ggX6_triple_X4_answerAt : GoodIn wsX6_triple wsX4_answerAt := goodIn_r _ [20, 21, 22, 23, 24, 19, 25, 26, 27, 28, 29, 30, 31, 32, 33, 34, 35, 36, 37, 38, 39, 40, 41, 42, 43, 44, 45, 46, 47, 48, 56, 57, 58, 59, 60, 61, 62, 63, 64, 65] (by decide +kernel) (by decide +kernel)
set_option maxRecDepth 20000 in
theorem gX6_triple_X4_answerAt : GoodIn wsX6_triple (wsV RX6 119 RX4 yX4_answerAt wsX4_answerAt) := goodIn_app (goodIn_of _ (by decide +kernel)) ggX6_triple_X4_answerAt
theorem dX6_triple_0 : decode cX6_triple 0 = .ok (.iload_n 1, 1) := by decide +kernel
theorem dX6_triple_1 : decode cX6_triple 1 = .ok (.invokestatic 112, 3) := by decide +kernel
theorem dX6_triple_4 : decode cX6_triple 4 = .ok (.iload_n 2, 1) := by decide +kernel
theorem dX6_triple_5 : decode cX6_triple 5 = .ok (.invokestatic 116, 3) := by decide +kernel
theorem dX6_triple_8 : decode cX6_triple 8 = .ok (.aload_n 0, 1) := by decide +kernel
theorem dX6_triple_9 : decode cX6_triple 9 = .ok (.getfield 19, 3) := by decide +kernel
theorem dX6_triple_12 : decode cX6_triple 12 = .ok (.sipush 1330, 3) := by decide +kernel
theorem dX6_triple_15 : decode cX6_triple 15 = .ok (.iload_n 1, 1) := by decide +kernel
theorem dX6_triple_16 : decode cX6_triple 16 = .ok (.iload_n 2, 1) := by decide +kernel
theorem dX6_triple_17 : decode cX6_triple 17 = .ok (.invokevirtual 119, 3) := by decide +kernel
theorem dX6_triple_20 : decode cX6_triple 20 = .ok (.ireturn, 1) := by decide +kernel
set_option maxRecDepth 20000 in
theorem ggX6_remembered_X6_needPlace : GoodIn wsX6_remembered wsX6_needPlace := goodIn_ca (goodIn_r _ [5, 6, 7] (by decide +kernel) (by decide +kernel)) (goodIn_sub (fun _ h => List.mem_cons_of_mem _ (List.mem_append_right _ h)) (by decide +kernel))
set_option maxRecDepth 20000 in
theorem gX6_remembered_X6_needPlace : GoodIn wsX6_remembered (va_wsS RX6 116 yX6_needPlace wsX6_needPlace) := goodIn_app (goodIn_of _ (by decide +kernel)) ggX6_remembered_X6_needPlace
set_option maxRecDepth 20000 in
theorem ggX6_remembered_X4_questionAt : GoodIn wsX6_remembered wsX4_questionAt := goodIn_r _ [12, 13, 14, 22, 23, 24, 25, 26, 27, 28, 29, 30, 31] (by decide +kernel) (by decide +kernel)
set_option maxRecDepth 20000 in
theorem gX6_remembered_X4_questionAt : GoodIn wsX6_remembered (wsV RX6 123 RX4 yX4_questionAt wsX4_questionAt) := goodIn_app (goodIn_of _ (by decide +kernel)) ggX6_remembered_X4_questionAt
theorem dX6_remembered_0 : decode cX6_remembered 0 = .ok (.iload_n 1, 1) := by decide +kernel
theorem dX6_remembered_1 : decode cX6_remembered 1 = .ok (.invokestatic 116, 3) := by decide +kernel
theorem dX6_remembered_4 : decode cX6_remembered 4 = .ok (.iload_n 1, 1) := by decide +kernel
theorem dX6_remembered_5 : decode cX6_remembered 5 = .ok (.aload_n 0, 1) := by decide +kernel
theorem dX6_remembered_6 : decode cX6_remembered 6 = .ok (.getfield 19, 3) := by decide +kernel
theorem dX6_remembered_9 : decode cX6_remembered 9 = .ok (.getfield 104, 3) := by decide +kernel
theorem dX6_remembered_12 : decode cX6_remembered 12 = .ok (.if_icmp .ge 24, 3) := by decide +kernel
theorem dX6_remembered_15 : decode cX6_remembered 15 = .ok (.aload_n 0, 1) := by decide +kernel
theorem dX6_remembered_16 : decode cX6_remembered 16 = .ok (.getfield 19, 3) := by decide +kernel
theorem dX6_remembered_19 : decode cX6_remembered 19 = .ok (.aload_n 0, 1) := by decide +kernel
theorem dX6_remembered_20 : decode cX6_remembered 20 = .ok (.getfield 19, 3) := by decide +kernel
theorem dX6_remembered_23 : decode cX6_remembered 23 = .ok (.getfield 104, 3) := by decide +kernel
theorem dX6_remembered_26 : decode cX6_remembered 26 = .ok (.iconst 1, 1) := by decide +kernel
theorem dX6_remembered_27 : decode cX6_remembered 27 = .ok (.isub, 1) := by decide +kernel
theorem dX6_remembered_28 : decode cX6_remembered 28 = .ok (.iload_n 1, 1) := by decide +kernel
theorem dX6_remembered_29 : decode cX6_remembered 29 = .ok (.isub, 1) := by decide +kernel
theorem dX6_remembered_30 : decode cX6_remembered 30 = .ok (.invokevirtual 123, 3) := by decide +kernel
theorem dX6_remembered_33 : decode cX6_remembered 33 = .ok (.goto 4, 3) := by decide +kernel
theorem dX6_remembered_36 : decode cX6_remembered 36 = .ok (.iconst (-1), 1) := by decide +kernel
theorem dX6_remembered_37 : decode cX6_remembered 37 = .ok (.ireturn, 1) := by decide +kernel
theorem dX6_weight_0 : decode cX6_weight 0 = .ok (.aload_n 0, 1) := by decide +kernel
theorem dX6_weight_1 : decode cX6_weight 1 = .ok (.getfield 19, 3) := by decide +kernel
theorem dX6_weight_4 : decode cX6_weight 4 = .ok (.getfield 126, 3) := by decide +kernel
theorem dX6_weight_7 : decode cX6_weight 7 = .ok (.ireturn, 1) := by decide +kernel
set_option maxRecDepth 20000 in
theorem ggX6_count_X6_needQuestion : GoodIn wsX6_count wsX6_needQuestion := goodIn_ca (goodIn_r _ [5, 6, 7] (by decide +kernel) (by decide +kernel)) (goodIn_sub (fun _ h => List.mem_cons_of_mem _ (List.mem_append_right _ h)) (by decide +kernel))
set_option maxRecDepth 20000 in
theorem gX6_count_X6_needQuestion : GoodIn wsX6_count (va_wsS RX6 129 yX6_needQuestion wsX6_needQuestion) := goodIn_app (goodIn_of _ (by decide +kernel)) ggX6_count_X6_needQuestion
set_option maxRecDepth 20000 in
theorem ggX6_count_X4_countAnswers : GoodIn wsX6_count wsX4_countAnswers := goodIn_r _ [12, 13, 14, 15, 16, 11, 17, 18, 19, 20, 21, 29, 30, 31, 32, 33, 34, 35, 36, 37, 38] (by decide +kernel) (by decide +kernel)
set_option maxRecDepth 20000 in
theorem gX6_count_X4_countAnswers : GoodIn wsX6_count (wsV RX6 132 RX4 yX4_countAnswers wsX4_countAnswers) := goodIn_app (goodIn_of _ (by decide +kernel)) ggX6_count_X4_countAnswers
theorem dX6_count_0 : decode cX6_count 0 = .ok (.iload_n 1, 1) := by decide +kernel
theorem dX6_count_1 : decode cX6_count 1 = .ok (.invokestatic 129, 3) := by decide +kernel
theorem dX6_count_4 : decode cX6_count 4 = .ok (.aload_n 0, 1) := by decide +kernel
theorem dX6_count_5 : decode cX6_count 5 = .ok (.getfield 19, 3) := by decide +kernel
theorem dX6_count_8 : decode cX6_count 8 = .ok (.iload_n 1, 1) := by decide +kernel
theorem dX6_count_9 : decode cX6_count 9 = .ok (.invokevirtual 132, 3) := by decide +kernel
theorem dX6_count_12 : decode cX6_count 12 = .ok (.ireturn, 1) := by decide +kernel
set_option maxRecDepth 20000 in
theorem ggX6_cost_X6_needQuestion : GoodIn wsX6_cost wsX6_needQuestion := goodIn_ca (goodIn_r _ [5, 6, 7] (by decide +kernel) (by decide +kernel)) (goodIn_sub (fun _ h => List.mem_cons_of_mem _ (List.mem_append_left _ (List.mem_append_right _ h))) (by decide +kernel))
set_option maxRecDepth 20000 in
theorem gX6_cost_X6_needQuestion : GoodIn wsX6_cost (va_wsS RX6 129 yX6_needQuestion wsX6_needQuestion) := goodIn_app (goodIn_of _ (by decide +kernel)) ggX6_cost_X6_needQuestion
set_option maxRecDepth 20000 in
theorem ggX6_cost_X6_needOrderOrNone : GoodIn wsX6_cost wsX6_needOrderOrNone := goodIn_ca (goodIn_r _ [10, 11, 12, 4, 13, 14, 15] (by decide +kernel) (by decide +kernel)) (goodIn_sub (fun _ h => List.mem_cons_of_mem _ (List.mem_append_right _ h)) (by decide +kernel))
set_option maxRecDepth 20000 in
theorem gX6_cost_X6_needOrderOrNone : GoodIn wsX6_cost (va_wsS RX6 112 yX6_needOrderOrNone wsX6_needOrderOrNone) := goodIn_app (goodIn_of _ (by decide +kernel)) ggX6_cost_X6_needOrderOrNone
set_option maxRecDepth 20000 in
theorem ggX6_cost_X4_costNow : GoodIn wsX6_cost wsX4_costNow := goodIn_r _ [20, 21, 22, 23, 24, 25, 26, 27, 28, 19, 29, 30, 31, 32, 33, 34, 35, 36, 37, 38, 39, 40, 41, 42, 43, 44, 45, 46, 47, 48, 49, 50, 51, 52, 53, 54, 55, 56, 57, 58, 59, 60, 61, 62, 63, 64, 65, 66, 67, 76, 77, 78, 79, 80, 81, 82, 83, 84, 85] (by decide +kernel) (by decide +kernel)
set_option maxRecDepth 20000 in
theorem gX6_cost_X4_costNow : GoodIn wsX6_cost (wsV RX6 135 RX4 yX4_costNow wsX4_costNow) := goodIn_app (goodIn_of _ (by decide +kernel)) ggX6_cost_X4_costNow
set_option maxRecDepth 20000 in
theorem ggX6_cost_X4_costBy : GoodIn wsX6_cost wsX4_costBy := goodIn_r _ [34, 21, 35, 36, 37, 38, 39, 40, 41, 42, 43, 44, 45, 46, 47, 48, 19, 49, 50, 51, 52, 53, 54, 55, 56, 57, 58, 59, 60, 61, 62, 63, 64, 65, 66, 67, 76, 77, 78, 79, 80, 81, 82, 83, 84, 85] (by decide +kernel) (by decide +kernel)
set_option maxRecDepth 20000 in
theorem gX6_cost_X4_costBy : GoodIn wsX6_cost (wsV RX6 138 RX4 yX4_costBy wsX4_costBy) := goodIn_app (goodIn_of _ (by decide +kernel)) ggX6_cost_X4_costBy
theorem dX6_cost_0 : decode cX6_cost 0 = .ok (.iload_n 1, 1) := by decide +kernel
theorem dX6_cost_1 : decode cX6_cost 1 = .ok (.invokestatic 129, 3) := by decide +kernel
theorem dX6_cost_4 : decode cX6_cost 4 = .ok (.iload_n 2, 1) := by decide +kernel
theorem dX6_cost_5 : decode cX6_cost 5 = .ok (.invokestatic 112, 3) := by decide +kernel
theorem dX6_cost_8 : decode cX6_cost 8 = .ok (.iload_n 2, 1) := by decide +kernel
theorem dX6_cost_9 : decode cX6_cost 9 = .ok (.iconst (-1), 1) := by decide +kernel
theorem dX6_cost_10 : decode cX6_cost 10 = .ok (.if_icmp .ne 14, 3) := by decide +kernel
theorem dX6_cost_13 : decode cX6_cost 13 = .ok (.aload_n 0, 1) := by decide +kernel
theorem dX6_cost_14 : decode cX6_cost 14 = .ok (.getfield 19, 3) := by decide +kernel
theorem dX6_cost_17 : decode cX6_cost 17 = .ok (.iload_n 1, 1) := by decide +kernel
theorem dX6_cost_18 : decode cX6_cost 18 = .ok (.invokevirtual 135, 3) := by decide +kernel
theorem dX6_cost_21 : decode cX6_cost 21 = .ok (.goto 12, 3) := by decide +kernel
theorem dX6_cost_24 : decode cX6_cost 24 = .ok (.aload_n 0, 1) := by decide +kernel
theorem dX6_cost_25 : decode cX6_cost 25 = .ok (.getfield 19, 3) := by decide +kernel
theorem dX6_cost_28 : decode cX6_cost 28 = .ok (.iload_n 1, 1) := by decide +kernel
theorem dX6_cost_29 : decode cX6_cost 29 = .ok (.iload_n 2, 1) := by decide +kernel
theorem dX6_cost_30 : decode cX6_cost 30 = .ok (.invokevirtual 138, 3) := by decide +kernel
theorem dX6_cost_33 : decode cX6_cost 33 = .ok (.ireturn, 1) := by decide +kernel
set_option maxRecDepth 20000 in
theorem ggX6_by_X6_needQuestion : GoodIn wsX6_by wsX6_needQuestion := goodIn_ca (goodIn_r _ [5, 6, 7] (by decide +kernel) (by decide +kernel)) (goodIn_sub (fun _ h => List.mem_cons_of_mem _ (List.mem_append_right _ h)) (by decide +kernel))
set_option maxRecDepth 20000 in
theorem gX6_by_X6_needQuestion : GoodIn wsX6_by (va_wsS RX6 129 yX6_needQuestion wsX6_needQuestion) := goodIn_app (goodIn_of _ (by decide +kernel)) ggX6_by_X6_needQuestion
set_option maxRecDepth 20000 in
theorem ggX6_by_X4_answeringOrder : GoodIn wsX6_by wsX4_answeringOrder := goodIn_r _ [12, 13, 14, 15, 16, 11, 17, 18, 19, 20, 21, 22, 23, 24, 25, 26, 27, 28, 29, 30, 31, 32, 33, 34, 35, 36, 37, 38, 39, 40, 41, 42, 43, 44, 45, 46, 47, 48, 49, 50, 51, 52, 53, 54, 55, 63, 64, 65, 66, 67, 68, 69, 70, 71, 72] (by decide +kernel) (by decide +kernel)
set_option maxRecDepth 20000 in
theorem gX6_by_X4_answeringOrder : GoodIn wsX6_by (wsV RX6 142 RX4 yX4_answeringOrder wsX4_answeringOrder) := goodIn_app (goodIn_of _ (by decide +kernel)) ggX6_by_X4_answeringOrder
theorem dX6_by_0 : decode cX6_by 0 = .ok (.iload_n 1, 1) := by decide +kernel
theorem dX6_by_1 : decode cX6_by 1 = .ok (.invokestatic 129, 3) := by decide +kernel
theorem dX6_by_4 : decode cX6_by 4 = .ok (.aload_n 0, 1) := by decide +kernel
theorem dX6_by_5 : decode cX6_by 5 = .ok (.getfield 19, 3) := by decide +kernel
theorem dX6_by_8 : decode cX6_by 8 = .ok (.iload_n 1, 1) := by decide +kernel
theorem dX6_by_9 : decode cX6_by 9 = .ok (.invokevirtual 142, 3) := by decide +kernel
theorem dX6_by_12 : decode cX6_by 12 = .ok (.ireturn, 1) := by decide +kernel
set_option maxRecDepth 20000 in
theorem ggX6_reach_X6_needQuestion : GoodIn wsX6_reach wsX6_needQuestion := goodIn_ca (goodIn_r _ [4, 5, 6] (by decide +kernel) (by decide +kernel)) (goodIn_sub (fun _ h => List.mem_cons_of_mem _ (List.mem_append_left _ (List.mem_append_right _ h))) (by decide +kernel))
set_option maxRecDepth 20000 in
theorem gX6_reach_X6_needQuestion : GoodIn wsX6_reach (va_wsS RX6 129 yX6_needQuestion wsX6_needQuestion) := goodIn_app (goodIn_of _ (by decide +kernel)) ggX6_reach_X6_needQuestion
set_option maxRecDepth 20000 in
theorem ggX6_reach_X6_needOrder : GoodIn wsX6_reach wsX6_needOrder := goodIn_ca (goodIn_r _ [9, 10, 11] (by decide +kernel) (by decide +kernel)) (goodIn_sub (fun _ h => List.mem_cons_of_mem _ (List.mem_append_right _ h)) (by decide +kernel))
set_option maxRecDepth 20000 in
theorem gX6_reach_X6_needOrder : GoodIn wsX6_reach (va_wsS RX6 145 yX6_needOrder wsX6_needOrder) := goodIn_app (goodIn_of _ (by decide +kernel)) ggX6_reach_X6_needOrder
set_option maxRecDepth 20000 in
theorem ggX6_reach_X2_reachOf : GoodIn wsX6_reach wsX2_reachOf := goodIn_r _ [15, 16, 17, 14, 18, 19, 20, 21, 22] (by decide +kernel) (by decide +kernel)
set_option maxRecDepth 20000 in
theorem gX6_reach_X2_reachOf : GoodIn wsX6_reach (va_wsS RX6 148 yX2_reachOf wsX2_reachOf) := goodIn_app (goodIn_of _ (by decide +kernel)) ggX6_reach_X2_reachOf
theorem dX6_reach_0 : decode cX6_reach 0 = .ok (.iload_n 1, 1) := by decide +kernel
theorem dX6_reach_1 : decode cX6_reach 1 = .ok (.invokestatic 129, 3) := by decide +kernel
theorem dX6_reach_4 : decode cX6_reach 4 = .ok (.iload_n 2, 1) := by decide +kernel
theorem dX6_reach_5 : decode cX6_reach 5 = .ok (.invokestatic 145, 3) := by decide +kernel
theorem dX6_reach_8 : decode cX6_reach 8 = .ok (.iload_n 1, 1) := by decide +kernel
theorem dX6_reach_9 : decode cX6_reach 9 = .ok (.iload_n 2, 1) := by decide +kernel
theorem dX6_reach_10 : decode cX6_reach 10 = .ok (.invokestatic 148, 3) := by decide +kernel
theorem dX6_reach_13 : decode cX6_reach 13 = .ok (.ireturn, 1) := by decide +kernel
set_option maxRecDepth 20000 in
theorem ggX6_answer_X6_needQuestion : GoodIn wsX6_answer wsX6_needQuestion := goodIn_ca (goodIn_r _ [5, 6, 7] (by decide +kernel) (by decide +kernel)) (goodIn_sub (fun _ h => List.mem_cons_of_mem _ (List.mem_append_right _ h)) (by decide +kernel))
set_option maxRecDepth 20000 in
theorem gX6_answer_X6_needQuestion : GoodIn wsX6_answer (va_wsS RX6 129 yX6_needQuestion wsX6_needQuestion) := goodIn_app (goodIn_of _ (by decide +kernel)) ggX6_answer_X6_needQuestion
set_option maxRecDepth 20000 in
theorem ggX6_answer_X6_needPlace : GoodIn wsX6_answer wsX6_needPlace := goodIn_ca (goodIn_r _ [10, 6, 7] (by decide +kernel) (by decide +kernel)) (goodIn_sub (fun _ h => List.mem_cons_of_mem _ (List.mem_append_right _ h)) (by decide +kernel))
set_option maxRecDepth 20000 in
theorem gX6_answer_X6_needPlace : GoodIn wsX6_answer (va_wsS RX6 116 yX6_needPlace wsX6_needPlace) := goodIn_app (goodIn_of _ (by decide +kernel)) ggX6_answer_X6_needPlace
set_option maxRecDepth 20000 in
theorem ggX6_answer_X4_answeringOrder : GoodIn wsX6_answer wsX4_answeringOrder := goodIn_r _ [15, 16, 17, 18, 19, 14, 20, 21, 22, 23, 24, 25, 26, 27, 28, 29, 30, 31, 32, 33, 34, 35, 36, 37, 38, 39, 40, 41, 42, 43, 44, 45, 46, 47, 48, 49, 50, 51, 52, 53, 54, 55, 56, 57, 58, 84, 85, 86, 87, 88, 89, 90, 91, 92, 93] (by decide +kernel) (by decide +kernel)
set_option maxRecDepth 20000 in
theorem gX6_answer_X4_answeringOrder : GoodIn wsX6_answer (wsV RX6 142 RX4 yX4_answeringOrder wsX4_answeringOrder) := goodIn_app (goodIn_of _ (by decide +kernel)) ggX6_answer_X4_answeringOrder
set_option maxRecDepth 20000 in
theorem ggX6_answer_X4_answerAt : GoodIn wsX6_answer wsX4_answerAt := goodIn_r _ [62, 16, 51, 52, 53, 14, 54, 55, 56, 57, 58, 63, 64, 65, 66, 67, 68, 69, 70, 71, 72, 28, 73, 30, 31, 32, 33, 74, 75, 76, 84, 85, 86, 87, 88, 89, 90, 91, 92, 93] (by decide +kernel) (by decide +kernel)
set_option maxRecDepth 20000 in
theorem gX6_answer_X4_answerAt : GoodIn wsX6_answer (wsV RX6 119 RX4 yX4_answerAt wsX4_answerAt) := goodIn_app (goodIn_of _ (by decide +kernel)) ggX6_answer_X4_answerAt
theorem dX6_answer_0 : decode cX6_answer 0 = .ok (.iload_n 1, 1) := by decide +kernel
theorem dX6_answer_1 : decode cX6_answer 1 = .ok (.invokestatic 129, 3) := by decide +kernel
theorem dX6_answer_4 : decode cX6_answer 4 = .ok (.iload_n 2, 1) := by decide +kernel
theorem dX6_answer_5 : decode cX6_answer 5 = .ok (.invokestatic 116, 3) := by decide +kernel
theorem dX6_answer_8 : decode cX6_answer 8 = .ok (.aload_n 0, 1) := by decide +kernel
theorem dX6_answer_9 : decode cX6_answer 9 = .ok (.getfield 19, 3) := by decide +kernel
theorem dX6_answer_12 : decode cX6_answer 12 = .ok (.iload_n 1, 1) := by decide +kernel
theorem dX6_answer_13 : decode cX6_answer 13 = .ok (.aload_n 0, 1) := by decide +kernel
theorem dX6_answer_14 : decode cX6_answer 14 = .ok (.getfield 19, 3) := by decide +kernel
theorem dX6_answer_17 : decode cX6_answer 17 = .ok (.iload_n 1, 1) := by decide +kernel
theorem dX6_answer_18 : decode cX6_answer 18 = .ok (.invokevirtual 142, 3) := by decide +kernel
theorem dX6_answer_21 : decode cX6_answer 21 = .ok (.iload_n 2, 1) := by decide +kernel
theorem dX6_answer_22 : decode cX6_answer 22 = .ok (.invokevirtual 119, 3) := by decide +kernel
theorem dX6_answer_25 : decode cX6_answer 25 = .ok (.ireturn, 1) := by decide +kernel
set_option maxRecDepth 20000 in
theorem ggX6_add_X6_needTriple : GoodIn wsX6_add wsX6_needTriple := goodIn_ca (goodIn_r _ [8, 9, 10] (by decide +kernel) (by decide +kernel)) (goodIn_sub (fun _ h => List.mem_cons_of_mem _ (List.mem_append_right _ h)) (by decide +kernel))
set_option maxRecDepth 20000 in
theorem gX6_add_X6_needTriple : GoodIn wsX6_add (va_wsS RX6 167 yX6_needTriple wsX6_needTriple) := goodIn_app (goodIn_of _ (by decide +kernel)) ggX6_add_X6_needTriple
set_option maxRecDepth 20000 in
theorem ggX6_add_X4_canPut : GoodIn wsX6_add wsX4_canPut := goodIn_r _ [15, 16, 17, 18, 19, 20, 14, 21, 22, 23, 24, 25, 79, 80, 81, 82, 83, 84, 85, 86, 87, 88] (by decide +kernel) (by decide +kernel)
set_option maxRecDepth 20000 in
theorem gX6_add_X4_canPut : GoodIn wsX6_add (wsV RX6 170 RX4 yX4_canPut wsX4_canPut) := goodIn_app (goodIn_of _ (by decide +kernel)) ggX6_add_X4_canPut
set_option maxRecDepth 20000 in
theorem ggX6_add_X1_push : GoodIn wsX6_add wsX1_push := goodIn_r _ [30, 31, 32, 33, 34, 35, 29, 36, 37, 38, 39, 40, 14, 41, 16, 17, 42, 43, 44, 45, 46, 47, 48, 49, 50, 51, 52, 89, 90, 91, 79, 80, 81, 82, 83, 84, 85, 86, 87, 88] (by decide +kernel) (by decide +kernel)
set_option maxRecDepth 20000 in
theorem gX6_add_X1_push : GoodIn wsX6_add (wsV RX6 176 RX1 yX1_push wsX1_push) := goodIn_app (goodIn_of _ (by decide +kernel)) ggX6_add_X1_push
set_option maxRecDepth 20000 in
theorem ggX6_add_X4_put : GoodIn wsX6_add wsX4_put := goodIn_r _ [56, 16, 17, 18, 19, 20, 14, 21, 22, 23, 24, 25, 57, 58, 59, 60, 43, 42, 61, 62, 63, 64, 65, 66, 67, 68, 69, 70, 71, 79, 80, 81, 82, 83, 84, 85, 86, 87, 88] (by decide +kernel) (by decide +kernel)
set_option maxRecDepth 20000 in
theorem gX6_add_X4_put : GoodIn wsX6_add (wsV RX6 180 RX4 yX4_put wsX4_put) := goodIn_app (goodIn_of _ (by decide +kernel)) ggX6_add_X4_put
theorem dX6_add_0 : decode cX6_add 0 = .ok (.iload_n 1, 1) := by decide +kernel
theorem dX6_add_1 : decode cX6_add 1 = .ok (.invokestatic 167, 3) := by decide +kernel
theorem dX6_add_4 : decode cX6_add 4 = .ok (.aload_n 0, 1) := by decide +kernel
theorem dX6_add_5 : decode cX6_add 5 = .ok (.getfield 19, 3) := by decide +kernel
theorem dX6_add_8 : decode cX6_add 8 = .ok (.iload_n 1, 1) := by decide +kernel
theorem dX6_add_9 : decode cX6_add 9 = .ok (.invokevirtual 170, 3) := by decide +kernel
theorem dX6_add_12 : decode cX6_add 12 = .ok (.ifCond .ne 13, 3) := by decide +kernel
theorem dX6_add_15 : decode cX6_add 15 = .ok (.new 61, 3) := by decide +kernel
theorem dX6_add_18 : decode cX6_add 18 = .ok (.dup, 1) := by decide +kernel
theorem dX6_add_19 : decode cX6_add 19 = .ok (.ldc 174, 2) := by decide +kernel
theorem dX6_add_21 : decode cX6_add 21 = .ok (.invokespecial 65, 3) := by decide +kernel
theorem dX6_add_24 : decode cX6_add 24 = .ok (.athrow, 1) := by decide +kernel
theorem dX6_add_25 : decode cX6_add 25 = .ok (.aload_n 0, 1) := by decide +kernel
theorem dX6_add_26 : decode cX6_add 26 = .ok (.getfield 29, 3) := by decide +kernel
theorem dX6_add_29 : decode cX6_add 29 = .ok (.aload_n 0, 1) := by decide +kernel
theorem dX6_add_30 : decode cX6_add 30 = .ok (.getfield 19, 3) := by decide +kernel
theorem dX6_add_33 : decode cX6_add 33 = .ok (.invokevirtual 176, 3) := by decide +kernel
theorem dX6_add_36 : decode cX6_add 36 = .ok (.aload_n 0, 1) := by decide +kernel
theorem dX6_add_37 : decode cX6_add 37 = .ok (.getfield 19, 3) := by decide +kernel
theorem dX6_add_40 : decode cX6_add 40 = .ok (.iload_n 1, 1) := by decide +kernel
theorem dX6_add_41 : decode cX6_add 41 = .ok (.invokevirtual 180, 3) := by decide +kernel
theorem dX6_add_44 : decode cX6_add 44 = .ok (.ireturn, 1) := by decide +kernel
set_option maxRecDepth 20000 in
theorem ggX6_remove_X6_needTriple : GoodIn wsX6_remove wsX6_needTriple := goodIn_ca (goodIn_r _ [6, 7, 8] (by decide +kernel) (by decide +kernel)) (goodIn_sub (fun _ h => List.mem_cons_of_mem _ (List.mem_append_right _ h)) (by decide +kernel))
set_option maxRecDepth 20000 in
theorem gX6_remove_X6_needTriple : GoodIn wsX6_remove (va_wsS RX6 167 yX6_needTriple wsX6_needTriple) := goodIn_app (goodIn_of _ (by decide +kernel)) ggX6_remove_X6_needTriple
set_option maxRecDepth 20000 in
theorem ggX6_remove_X1_push : GoodIn wsX6_remove wsX1_push := goodIn_r _ [13, 14, 15, 16, 17, 18, 12, 19, 20, 21, 22, 23, 24, 25, 26, 27, 28, 29, 30, 31, 32, 33, 34, 35, 36, 37, 38, 73, 74, 75, 76, 77, 78, 79, 80, 81, 82, 83, 84, 85] (by decide +kernel) (by decide +kernel)
set_option maxRecDepth 20000 in
theorem gX6_remove_X1_push : GoodIn wsX6_remove (wsV RX6 176 RX1 yX1_push wsX1_push) := goodIn_app (goodIn_of _ (by decide +kernel)) ggX6_remove_X1_push
set_option maxRecDepth 20000 in
theorem ggX6_remove_X4_take : GoodIn wsX6_remove wsX4_take := goodIn_r _ [42, 26, 27, 43, 44, 45, 24, 46, 47, 48, 49, 50, 51, 52, 53, 54, 29, 28, 55, 56, 57, 58, 59, 60, 61, 62, 63, 64, 65, 76, 77, 78, 79, 80, 81, 82, 83, 84, 85] (by decide +kernel) (by decide +kernel)
set_option maxRecDepth 20000 in
theorem gX6_remove_X4_take : GoodIn wsX6_remove (wsV RX6 189 RX4 yX4_take wsX4_take) := goodIn_app (goodIn_of _ (by decide +kernel)) ggX6_remove_X4_take
theorem dX6_remove_0 : decode cX6_remove 0 = .ok (.iload_n 1, 1) := by decide +kernel
theorem dX6_remove_1 : decode cX6_remove 1 = .ok (.invokestatic 167, 3) := by decide +kernel
theorem dX6_remove_4 : decode cX6_remove 4 = .ok (.aload_n 0, 1) := by decide +kernel
theorem dX6_remove_5 : decode cX6_remove 5 = .ok (.getfield 29, 3) := by decide +kernel
end
section
theorem dX6_remove_8 : decode cX6_remove 8 = .ok (.aload_n 0, 1) := by decide +kernel
theorem dX6_remove_9 : decode cX6_remove 9 = .ok (.getfield 19, 3) := by decide +kernel
theorem dX6_remove_12 : decode cX6_remove 12 = .ok (.invokevirtual 176, 3) := by decide +kernel
theorem dX6_remove_15 : decode cX6_remove 15 = .ok (.aload_n 0, 1) := by decide +kernel
theorem dX6_remove_16 : decode cX6_remove 16 = .ok (.getfield 19, 3) := by decide +kernel
theorem dX6_remove_19 : decode cX6_remove 19 = .ok (.iload_n 1, 1) := by decide +kernel
theorem dX6_remove_20 : decode cX6_remove 20 = .ok (.invokevirtual 189, 3) := by decide +kernel
theorem dX6_remove_23 : decode cX6_remove 23 = .ok (.ireturn, 1) := by decide +kernel
set_option maxRecDepth 20000 in
theorem ggX6_ask_X6_needQuestion : GoodIn wsX6_ask wsX6_needQuestion := goodIn_ca (goodIn_r _ [6, 7, 8] (by decide +kernel) (by decide +kernel)) (goodIn_sub (fun _ h => List.mem_cons_of_mem _ (List.mem_append_right _ h)) (by decide +kernel))
set_option maxRecDepth 20000 in
theorem gX6_ask_X6_needQuestion : GoodIn wsX6_ask (va_wsS RX6 129 yX6_needQuestion wsX6_needQuestion) := goodIn_app (goodIn_of _ (by decide +kernel)) ggX6_ask_X6_needQuestion
set_option maxRecDepth 20000 in
theorem ggX6_ask_X1_push : GoodIn wsX6_ask wsX1_push := goodIn_r _ [13, 14, 15, 16, 17, 18, 12, 19, 20, 21, 22, 23, 24, 25, 26, 27, 28, 29, 30, 31, 32, 33, 34, 35, 36, 37, 38, 102, 103, 104, 105, 106, 107, 108, 109, 110, 111, 112, 113, 114] (by decide +kernel) (by decide +kernel)
set_option maxRecDepth 20000 in
theorem gX6_ask_X1_push : GoodIn wsX6_ask (wsV RX6 176 RX1 yX1_push wsX1_push) := goodIn_app (goodIn_of _ (by decide +kernel)) ggX6_ask_X1_push
set_option maxRecDepth 20000 in
theorem ggX6_ask_X4_noteQuestion : GoodIn wsX6_ask wsX4_noteQuestion := goodIn_r _ [42, 31, 32, 33, 34, 43, 44, 45, 24, 46, 26, 47, 48, 49, 50, 51, 52, 53, 54, 28, 55, 56, 57, 58, 59, 60, 61, 62, 63, 64, 65, 66, 67, 68, 69, 70, 71, 72, 73, 74, 75, 76, 77, 78, 79, 80, 81, 82, 83, 84, 85, 86, 87, 27, 88, 89, 90, 91, 92, 93, 94, 105, 106, 107, 108, 109, 110, 111, 112, 113, 114] (by decide +kernel) (by decide +kernel)
set_option maxRecDepth 20000 in
theorem gX6_ask_X4_noteQuestion : GoodIn wsX6_ask (wsV RX6 192 RX4 yX4_noteQuestion wsX4_noteQuestion) := goodIn_app (goodIn_of _ (by decide +kernel)) ggX6_ask_X4_noteQuestion
theorem dX6_ask_0 : decode cX6_ask 0 = .ok (.iload_n 1, 1) := by decide +kernel
theorem dX6_ask_1 : decode cX6_ask 1 = .ok (.invokestatic 129, 3) := by decide +kernel
theorem dX6_ask_4 : decode cX6_ask 4 = .ok (.aload_n 0, 1) := by decide +kernel
theorem dX6_ask_5 : decode cX6_ask 5 = .ok (.getfield 29, 3) := by decide +kernel
theorem dX6_ask_8 : decode cX6_ask 8 = .ok (.aload_n 0, 1) := by decide +kernel
theorem dX6_ask_9 : decode cX6_ask 9 = .ok (.getfield 19, 3) := by decide +kernel
theorem dX6_ask_12 : decode cX6_ask 12 = .ok (.invokevirtual 176, 3) := by decide +kernel
theorem dX6_ask_15 : decode cX6_ask 15 = .ok (.aload_n 0, 1) := by decide +kernel
theorem dX6_ask_16 : decode cX6_ask 16 = .ok (.getfield 19, 3) := by decide +kernel
theorem dX6_ask_19 : decode cX6_ask 19 = .ok (.iload_n 1, 1) := by decide +kernel
theorem dX6_ask_20 : decode cX6_ask 20 = .ok (.invokevirtual 192, 3) := by decide +kernel
theorem dX6_ask_23 : decode cX6_ask 23 = .ok (.ireturn, 1) := by decide +kernel
set_option maxRecDepth 20000 in
theorem ggX6_build_X6_needOrder : GoodIn wsX6_build wsX6_needOrder := goodIn_ca (goodIn_r _ [8, 9, 10] (by decide +kernel) (by decide +kernel)) (goodIn_sub (fun _ h => List.mem_cons_of_mem _ (List.mem_append_right _ h)) (by decide +kernel))
set_option maxRecDepth 20000 in
theorem gX6_build_X6_needOrder : GoodIn wsX6_build (va_wsS RX6 145 yX6_needOrder wsX6_needOrder) := goodIn_app (goodIn_of _ (by decide +kernel)) ggX6_build_X6_needOrder
set_option maxRecDepth 20000 in
theorem ggX6_build_X4_keeps : GoodIn wsX6_build wsX4_keeps := goodIn_r _ [15, 16, 60, 61, 62, 63, 64, 65, 66, 67, 68, 69] (by decide +kernel) (by decide +kernel)
set_option maxRecDepth 20000 in
theorem gX6_build_X4_keeps : GoodIn wsX6_build (wsV RX6 195 RX4 yX4_keeps wsX4_keeps) := goodIn_app (goodIn_of _ (by decide +kernel)) ggX6_build_X4_keeps
set_option maxRecDepth 20000 in
theorem ggX6_build_X1_push : GoodIn wsX6_build wsX1_push := goodIn_r _ [21, 22, 23, 24, 25, 26, 20, 27, 28, 29, 30, 31, 14, 32, 33, 34, 16, 35, 36, 37, 38, 39, 40, 41, 42, 43, 44, 70, 71, 72, 60, 61, 62, 63, 64, 65, 66, 67, 68, 69] (by decide +kernel) (by decide +kernel)
set_option maxRecDepth 20000 in
theorem gX6_build_X1_push : GoodIn wsX6_build (wsV RX6 176 RX1 yX1_push wsX1_push) := goodIn_app (goodIn_of _ (by decide +kernel)) ggX6_build_X1_push
set_option maxRecDepth 20000 in
theorem ggX6_build_X4_keep : GoodIn wsX6_build wsX4_keep := goodIn_r _ [48, 33, 36, 16, 49, 50, 51, 14, 52, 60, 61, 62, 63, 64, 65, 66, 67, 68, 69] (by decide +kernel) (by decide +kernel)
set_option maxRecDepth 20000 in
theorem gX6_build_X4_keep : GoodIn wsX6_build (wsV RX6 200 RX4 yX4_keep wsX4_keep) := goodIn_app (goodIn_of _ (by decide +kernel)) ggX6_build_X4_keep
theorem dX6_build_0 : decode cX6_build 0 = .ok (.iload_n 1, 1) := by decide +kernel
theorem dX6_build_1 : decode cX6_build 1 = .ok (.invokestatic 145, 3) := by decide +kernel
theorem dX6_build_4 : decode cX6_build 4 = .ok (.aload_n 0, 1) := by decide +kernel
theorem dX6_build_5 : decode cX6_build 5 = .ok (.getfield 19, 3) := by decide +kernel
theorem dX6_build_8 : decode cX6_build 8 = .ok (.iload_n 1, 1) := by decide +kernel
theorem dX6_build_9 : decode cX6_build 9 = .ok (.invokevirtual 195, 3) := by decide +kernel
theorem dX6_build_12 : decode cX6_build 12 = .ok (.ifCond .eq 13, 3) := by decide +kernel
theorem dX6_build_15 : decode cX6_build 15 = .ok (.new 61, 3) := by decide +kernel
theorem dX6_build_18 : decode cX6_build 18 = .ok (.dup, 1) := by decide +kernel
theorem dX6_build_19 : decode cX6_build 19 = .ok (.ldc 198, 2) := by decide +kernel
theorem dX6_build_21 : decode cX6_build 21 = .ok (.invokespecial 65, 3) := by decide +kernel
theorem dX6_build_24 : decode cX6_build 24 = .ok (.athrow, 1) := by decide +kernel
theorem dX6_build_25 : decode cX6_build 25 = .ok (.aload_n 0, 1) := by decide +kernel
theorem dX6_build_26 : decode cX6_build 26 = .ok (.getfield 29, 3) := by decide +kernel
theorem dX6_build_29 : decode cX6_build 29 = .ok (.aload_n 0, 1) := by decide +kernel
theorem dX6_build_30 : decode cX6_build 30 = .ok (.getfield 19, 3) := by decide +kernel
theorem dX6_build_33 : decode cX6_build 33 = .ok (.invokevirtual 176, 3) := by decide +kernel
theorem dX6_build_36 : decode cX6_build 36 = .ok (.aload_n 0, 1) := by decide +kernel
theorem dX6_build_37 : decode cX6_build 37 = .ok (.getfield 19, 3) := by decide +kernel
theorem dX6_build_40 : decode cX6_build 40 = .ok (.iload_n 1, 1) := by decide +kernel
theorem dX6_build_41 : decode cX6_build 41 = .ok (.invokevirtual 200, 3) := by decide +kernel
theorem dX6_build_44 : decode cX6_build 44 = .ok (.ireturn, 1) := by decide +kernel
set_option maxRecDepth 20000 in
theorem ggX6_drop_X6_needOrder : GoodIn wsX6_drop wsX6_needOrder := goodIn_ca (goodIn_r _ [8, 9, 10] (by decide +kernel) (by decide +kernel)) (goodIn_sub (fun _ h => List.mem_cons_of_mem _ (List.mem_append_right _ h)) (by decide +kernel))
set_option maxRecDepth 20000 in
theorem gX6_drop_X6_needOrder : GoodIn wsX6_drop (va_wsS RX6 145 yX6_needOrder wsX6_needOrder) := goodIn_app (goodIn_of _ (by decide +kernel)) ggX6_drop_X6_needOrder
set_option maxRecDepth 20000 in
theorem ggX6_drop_X4_keeps : GoodIn wsX6_drop wsX4_keeps := goodIn_r _ [15, 16, 63, 64, 65, 66, 67, 68, 69, 70, 71, 72] (by decide +kernel) (by decide +kernel)
set_option maxRecDepth 20000 in
theorem gX6_drop_X4_keeps : GoodIn wsX6_drop (wsV RX6 195 RX4 yX4_keeps wsX4_keeps) := goodIn_app (goodIn_of _ (by decide +kernel)) ggX6_drop_X4_keeps
set_option maxRecDepth 20000 in
theorem ggX6_drop_X1_push : GoodIn wsX6_drop wsX1_push := goodIn_r _ [21, 22, 23, 24, 25, 26, 20, 27, 28, 29, 30, 31, 14, 32, 33, 34, 16, 35, 36, 37, 38, 39, 40, 41, 42, 43, 44, 73, 74, 75, 63, 64, 65, 66, 67, 68, 69, 70, 71, 72] (by decide +kernel) (by decide +kernel)
set_option maxRecDepth 20000 in
theorem gX6_drop_X1_push : GoodIn wsX6_drop (wsV RX6 176 RX1 yX1_push wsX1_push) := goodIn_app (goodIn_of _ (by decide +kernel)) ggX6_drop_X1_push
set_option maxRecDepth 20000 in
theorem ggX6_drop_X4_discard : GoodIn wsX6_drop wsX4_discard := goodIn_r _ [48, 16, 49, 50, 51, 52, 53, 54, 55, 63, 64, 65, 66, 67, 68, 69, 70, 71, 72] (by decide +kernel) (by decide +kernel)
set_option maxRecDepth 20000 in
theorem gX6_drop_X4_discard : GoodIn wsX6_drop (wsV RX6 205 RX4 yX4_discard wsX4_discard) := goodIn_app (goodIn_of _ (by decide +kernel)) ggX6_drop_X4_discard
theorem dX6_drop_0 : decode cX6_drop 0 = .ok (.iload_n 1, 1) := by decide +kernel
theorem dX6_drop_1 : decode cX6_drop 1 = .ok (.invokestatic 145, 3) := by decide +kernel
theorem dX6_drop_4 : decode cX6_drop 4 = .ok (.aload_n 0, 1) := by decide +kernel
theorem dX6_drop_5 : decode cX6_drop 5 = .ok (.getfield 19, 3) := by decide +kernel
theorem dX6_drop_8 : decode cX6_drop 8 = .ok (.iload_n 1, 1) := by decide +kernel
theorem dX6_drop_9 : decode cX6_drop 9 = .ok (.invokevirtual 195, 3) := by decide +kernel
theorem dX6_drop_12 : decode cX6_drop 12 = .ok (.ifCond .ne 13, 3) := by decide +kernel
theorem dX6_drop_15 : decode cX6_drop 15 = .ok (.new 61, 3) := by decide +kernel
theorem dX6_drop_18 : decode cX6_drop 18 = .ok (.dup, 1) := by decide +kernel
theorem dX6_drop_19 : decode cX6_drop 19 = .ok (.ldc 203, 2) := by decide +kernel
theorem dX6_drop_21 : decode cX6_drop 21 = .ok (.invokespecial 65, 3) := by decide +kernel
theorem dX6_drop_24 : decode cX6_drop 24 = .ok (.athrow, 1) := by decide +kernel
theorem dX6_drop_25 : decode cX6_drop 25 = .ok (.aload_n 0, 1) := by decide +kernel
theorem dX6_drop_26 : decode cX6_drop 26 = .ok (.getfield 29, 3) := by decide +kernel
theorem dX6_drop_29 : decode cX6_drop 29 = .ok (.aload_n 0, 1) := by decide +kernel
theorem dX6_drop_30 : decode cX6_drop 30 = .ok (.getfield 19, 3) := by decide +kernel
theorem dX6_drop_33 : decode cX6_drop 33 = .ok (.invokevirtual 176, 3) := by decide +kernel
theorem dX6_drop_36 : decode cX6_drop 36 = .ok (.aload_n 0, 1) := by decide +kernel
theorem dX6_drop_37 : decode cX6_drop 37 = .ok (.getfield 19, 3) := by decide +kernel
theorem dX6_drop_40 : decode cX6_drop 40 = .ok (.iload_n 1, 1) := by decide +kernel
theorem dX6_drop_41 : decode cX6_drop 41 = .ok (.invokevirtual 205, 3) := by decide +kernel
theorem dX6_drop_44 : decode cX6_drop 44 = .ok (.ireturn, 1) := by decide +kernel
set_option maxRecDepth 20000 in
theorem ggX6_tidy_X1_push : GoodIn wsX6_tidy wsX1_push := goodIn_r _ [8, 9, 10, 11, 12, 13, 7, 14, 15, 16, 17, 18, 19, 20, 21, 22, 23, 24, 25, 26, 27, 28, 29, 30, 31, 32, 33, 143, 144, 145, 146, 147, 148, 149, 150, 151, 152, 153, 154, 155] (by decide +kernel) (by decide +kernel)
set_option maxRecDepth 20000 in
theorem gX6_tidy_X1_push : GoodIn wsX6_tidy (wsV RX6 176 RX1 yX1_push wsX1_push) := goodIn_app (goodIn_of _ (by decide +kernel)) ggX6_tidy_X1_push
set_option maxRecDepth 20000 in
theorem ggX6_tidy_X0_follow : GoodIn wsX6_tidy wsX0_follow := goodIn_r _ [38, 39, 40, 41, 37, 42, 43, 44, 45, 46, 47, 48, 49, 50, 51, 19, 52, 21, 53, 54, 55, 56, 28, 29, 57, 58, 59, 60, 61, 62, 63, 64, 65, 66, 67, 68, 69, 70, 71, 72, 73, 74, 75, 76, 77, 78, 79, 80, 81, 82, 83, 84, 85, 86, 22, 87, 88, 89, 90, 91, 92, 93, 94, 95, 96, 97, 98, 99, 100, 101, 102, 103, 104, 105, 106, 107, 108, 109, 110, 111, 112, 113, 114, 115, 116, 117, 118, 119, 120, 25, 23, 121, 122, 123, 124, 125, 126, 127, 128, 129, 130, 131, 132, 133, 134, 135, 146, 147, 148, 149, 150, 151, 152, 153, 154, 155, 156, 157, 158, 159, 160, 161] (by decide +kernel) (by decide +kernel)
set_option maxRecDepth 20000 in
theorem gX6_tidy_X0_follow : GoodIn wsX6_tidy (wsV RX6 208 RX0 yX0_follow wsX0_follow) := goodIn_app (goodIn_of _ (by decide +kernel)) ggX6_tidy_X0_follow
theorem dX6_tidy_0 : decode cX6_tidy 0 = .ok (.aload_n 0, 1) := by decide +kernel
theorem dX6_tidy_1 : decode cX6_tidy 1 = .ok (.getfield 29, 3) := by decide +kernel
theorem dX6_tidy_4 : decode cX6_tidy 4 = .ok (.aload_n 0, 1) := by decide +kernel
theorem dX6_tidy_5 : decode cX6_tidy 5 = .ok (.getfield 19, 3) := by decide +kernel
theorem dX6_tidy_8 : decode cX6_tidy 8 = .ok (.invokevirtual 176, 3) := by decide +kernel
theorem dX6_tidy_11 : decode cX6_tidy 11 = .ok (.aload_n 0, 1) := by decide +kernel
theorem dX6_tidy_12 : decode cX6_tidy 12 = .ok (.getfield 36, 3) := by decide +kernel
theorem dX6_tidy_15 : decode cX6_tidy 15 = .ok (.aload_n 0, 1) := by decide +kernel
theorem dX6_tidy_16 : decode cX6_tidy 16 = .ok (.getfield 19, 3) := by decide +kernel
theorem dX6_tidy_19 : decode cX6_tidy 19 = .ok (.invokevirtual 208, 3) := by decide +kernel
theorem dX6_tidy_22 : decode cX6_tidy 22 = .ok (.ireturn, 1) := by decide +kernel
set_option maxRecDepth 20000 in
theorem ggX6_setWeight_X1_push : GoodIn wsX6_setWeight wsX1_push := goodIn_r _ [9, 10, 11, 12, 13, 14, 8, 15, 16, 17, 18, 19, 20, 21, 22, 23, 24, 25, 26, 27, 28, 29, 30, 31, 32, 33, 34, 52, 53, 54, 42, 43, 44, 45, 46, 47, 48, 49, 50, 51] (by decide +kernel) (by decide +kernel)
set_option maxRecDepth 20000 in
theorem gX6_setWeight_X1_push : GoodIn wsX6_setWeight (wsV RX6 176 RX1 yX1_push wsX1_push) := goodIn_app (goodIn_of _ (by decide +kernel)) ggX6_setWeight_X1_push
theorem dX6_setWeight_0 : decode cX6_setWeight 0 = .ok (.iload_n 1, 1) := by decide +kernel
theorem dX6_setWeight_1 : decode cX6_setWeight 1 = .ok (.ifCond .lt 9, 3) := by decide +kernel
theorem dX6_setWeight_4 : decode cX6_setWeight 4 = .ok (.iload_n 1, 1) := by decide +kernel
theorem dX6_setWeight_5 : decode cX6_setWeight 5 = .ok (.bipush 99, 2) := by decide +kernel
theorem dX6_setWeight_7 : decode cX6_setWeight 7 = .ok (.if_icmp .le 13, 3) := by decide +kernel
theorem dX6_setWeight_10 : decode cX6_setWeight 10 = .ok (.new 50, 3) := by decide +kernel
theorem dX6_setWeight_13 : decode cX6_setWeight 13 = .ok (.dup, 1) := by decide +kernel
theorem dX6_setWeight_14 : decode cX6_setWeight 14 = .ok (.ldc 212, 2) := by decide +kernel
theorem dX6_setWeight_16 : decode cX6_setWeight 16 = .ok (.invokespecial 54, 3) := by decide +kernel
theorem dX6_setWeight_19 : decode cX6_setWeight 19 = .ok (.athrow, 1) := by decide +kernel
theorem dX6_setWeight_20 : decode cX6_setWeight 20 = .ok (.aload_n 0, 1) := by decide +kernel
theorem dX6_setWeight_21 : decode cX6_setWeight 21 = .ok (.getfield 29, 3) := by decide +kernel
theorem dX6_setWeight_24 : decode cX6_setWeight 24 = .ok (.aload_n 0, 1) := by decide +kernel
theorem dX6_setWeight_25 : decode cX6_setWeight 25 = .ok (.getfield 19, 3) := by decide +kernel
theorem dX6_setWeight_28 : decode cX6_setWeight 28 = .ok (.invokevirtual 176, 3) := by decide +kernel
theorem dX6_setWeight_31 : decode cX6_setWeight 31 = .ok (.aload_n 0, 1) := by decide +kernel
theorem dX6_setWeight_32 : decode cX6_setWeight 32 = .ok (.getfield 19, 3) := by decide +kernel
theorem dX6_setWeight_35 : decode cX6_setWeight 35 = .ok (.getfield 126, 3) := by decide +kernel
theorem dX6_setWeight_38 : decode cX6_setWeight 38 = .ok (.istore_n 2, 1) := by decide +kernel
theorem dX6_setWeight_39 : decode cX6_setWeight 39 = .ok (.aload_n 0, 1) := by decide +kernel
theorem dX6_setWeight_40 : decode cX6_setWeight 40 = .ok (.getfield 19, 3) := by decide +kernel
theorem dX6_setWeight_43 : decode cX6_setWeight 43 = .ok (.iload_n 1, 1) := by decide +kernel
theorem dX6_setWeight_44 : decode cX6_setWeight 44 = .ok (.putfield 126, 3) := by decide +kernel
theorem dX6_setWeight_47 : decode cX6_setWeight 47 = .ok (.iload_n 2, 1) := by decide +kernel
theorem dX6_setWeight_48 : decode cX6_setWeight 48 = .ok (.ireturn, 1) := by decide +kernel
set_option maxRecDepth 20000 in
theorem ggX6_undo_X1_pop : GoodIn wsX6_undo wsX1_pop := goodIn_r _ [9, 10, 11, 12, 13, 8, 14, 15, 16, 17, 18, 19, 20, 21, 22, 23, 24, 25, 26, 27, 28, 29, 30, 31, 32, 33, 34, 42, 43, 44, 45, 46, 47, 48, 49, 50, 51, 52, 53, 54] (by decide +kernel) (by decide +kernel)
set_option maxRecDepth 20000 in
theorem gX6_undo_X1_pop : GoodIn wsX6_undo (wsV RX6 217 RX1 yX1_pop wsX1_pop) := goodIn_app (goodIn_of _ (by decide +kernel)) ggX6_undo_X1_pop
theorem dX6_undo_0 : decode cX6_undo 0 = .ok (.aload_n 0, 1) := by decide +kernel
theorem dX6_undo_1 : decode cX6_undo 1 = .ok (.getfield 29, 3) := by decide +kernel
theorem dX6_undo_4 : decode cX6_undo 4 = .ok (.getfield 214, 3) := by decide +kernel
theorem dX6_undo_7 : decode cX6_undo 7 = .ok (.ifCond .ne 13, 3) := by decide +kernel
theorem dX6_undo_10 : decode cX6_undo 10 = .ok (.new 61, 3) := by decide +kernel
theorem dX6_undo_13 : decode cX6_undo 13 = .ok (.dup, 1) := by decide +kernel
theorem dX6_undo_14 : decode cX6_undo 14 = .ok (.ldc 215, 2) := by decide +kernel
theorem dX6_undo_16 : decode cX6_undo 16 = .ok (.invokespecial 65, 3) := by decide +kernel
theorem dX6_undo_19 : decode cX6_undo 19 = .ok (.athrow, 1) := by decide +kernel
theorem dX6_undo_20 : decode cX6_undo 20 = .ok (.aload_n 0, 1) := by decide +kernel
theorem dX6_undo_21 : decode cX6_undo 21 = .ok (.getfield 29, 3) := by decide +kernel
theorem dX6_undo_24 : decode cX6_undo 24 = .ok (.aload_n 0, 1) := by decide +kernel
theorem dX6_undo_25 : decode cX6_undo 25 = .ok (.getfield 19, 3) := by decide +kernel
theorem dX6_undo_28 : decode cX6_undo 28 = .ok (.invokevirtual 217, 3) := by decide +kernel
theorem dX6_undo_31 : decode cX6_undo 31 = .ok (.ireturn, 1) := by decide +kernel
set_option maxRecDepth 20000 in
theorem ggX6_value_X6_needOrder : GoodIn wsX6_value wsX6_needOrder := goodIn_ca (goodIn_r _ [6, 7, 8] (by decide +kernel) (by decide +kernel)) (goodIn_sub (fun _ h => List.mem_cons_of_mem _ (List.mem_append_right _ h)) (by decide +kernel))
set_option maxRecDepth 20000 in
theorem gX6_value_X6_needOrder : GoodIn wsX6_value (va_wsS RX6 145 yX6_needOrder wsX6_needOrder) := goodIn_app (goodIn_of _ (by decide +kernel)) ggX6_value_X6_needOrder
set_option maxRecDepth 20000 in
theorem ggX6_value_X0_learn : GoodIn wsX6_value wsX0_learn := goodIn_r _ [13, 14, 15, 16, 17, 18, 19, 20, 21, 22, 23, 24, 25, 26, 27, 28, 29, 30, 31, 32, 33, 34, 35, 36, 37, 38, 39, 40, 41, 42, 43, 44, 45, 46, 47, 48, 49, 50, 51, 52, 53, 54, 55, 56, 57, 58, 59, 60, 61, 62, 63, 64, 65, 66, 67, 68, 69, 70, 71, 72, 96, 97, 98, 99, 100, 101, 102, 103, 104, 105, 106, 107, 108, 109, 110, 111] (by decide +kernel) (by decide +kernel)
set_option maxRecDepth 20000 in
theorem gX6_value_X0_learn : GoodIn wsX6_value (wsV RX6 220 RX0 yX0_learn wsX0_learn) := goodIn_app (goodIn_of _ (by decide +kernel)) ggX6_value_X0_learn
set_option maxRecDepth 20000 in
theorem ggX6_value_X0_worth : GoodIn wsX6_value wsX0_worth := goodIn_r _ [76, 16, 17, 77, 78, 79, 12, 80, 14, 15, 81, 82, 83, 84, 85, 86, 87, 88, 19, 106, 107, 108, 109, 110, 111] (by decide +kernel) (by decide +kernel)
set_option maxRecDepth 20000 in
theorem gX6_value_X0_worth : GoodIn wsX6_value (wsV RX6 223 RX0 yX0_worth wsX0_worth) := goodIn_app (goodIn_of _ (by decide +kernel)) ggX6_value_X0_worth
theorem dX6_value_0 : decode cX6_value 0 = .ok (.iload_n 1, 1) := by decide +kernel
theorem dX6_value_1 : decode cX6_value 1 = .ok (.invokestatic 145, 3) := by decide +kernel
theorem dX6_value_4 : decode cX6_value 4 = .ok (.aload_n 0, 1) := by decide +kernel
theorem dX6_value_5 : decode cX6_value 5 = .ok (.getfield 36, 3) := by decide +kernel
theorem dX6_value_8 : decode cX6_value 8 = .ok (.aload_n 0, 1) := by decide +kernel
theorem dX6_value_9 : decode cX6_value 9 = .ok (.getfield 19, 3) := by decide +kernel
theorem dX6_value_12 : decode cX6_value 12 = .ok (.invokevirtual 220, 3) := by decide +kernel
theorem dX6_value_15 : decode cX6_value 15 = .ok (.aload_n 0, 1) := by decide +kernel
theorem dX6_value_16 : decode cX6_value 16 = .ok (.getfield 36, 3) := by decide +kernel
theorem dX6_value_19 : decode cX6_value 19 = .ok (.iload_n 1, 1) := by decide +kernel
theorem dX6_value_20 : decode cX6_value 20 = .ok (.invokevirtual 223, 3) := by decide +kernel
theorem dX6_value_23 : decode cX6_value 23 = .ok (.ireturn, 1) := by decide +kernel
set_option maxRecDepth 20000 in
theorem ggX6_advised_X0_learn : GoodIn wsX6_advised wsX0_learn := goodIn_r _ [7, 8, 9, 10, 11, 12, 13, 14, 15, 16, 17, 18, 19, 20, 21, 22, 23, 24, 25, 26, 27, 28, 29, 30, 31, 32, 33, 34, 35, 36, 37, 38, 39, 40, 41, 42, 43, 44, 45, 46, 47, 48, 49, 50, 51, 52, 53, 54, 55, 56, 57, 58, 59, 60, 61, 62, 63, 64, 65, 66, 94, 95, 96, 97, 98, 99, 100, 101, 102, 103, 104, 105, 106, 107, 108, 109] (by decide +kernel) (by decide +kernel)
set_option maxRecDepth 20000 in
theorem gX6_advised_X0_learn : GoodIn wsX6_advised (wsV RX6 220 RX0 yX0_learn wsX0_learn) := goodIn_app (goodIn_of _ (by decide +kernel)) ggX6_advised_X0_learn
set_option maxRecDepth 20000 in
theorem ggX6_advised_X0_orderToBuild : GoodIn wsX6_advised wsX0_orderToBuild := goodIn_r _ [70, 10, 71, 72, 73, 6, 74, 11, 75, 76, 77, 78, 8, 9, 79, 80, 81, 82, 83, 84, 85, 86, 13, 104, 105, 106, 107, 108, 109] (by decide +kernel) (by decide +kernel)
set_option maxRecDepth 20000 in
theorem gX6_advised_X0_orderToBuild : GoodIn wsX6_advised (wsV RX6 226 RX0 yX0_orderToBuild wsX0_orderToBuild) := goodIn_app (goodIn_of _ (by decide +kernel)) ggX6_advised_X0_orderToBuild
theorem dX6_advised_0 : decode cX6_advised 0 = .ok (.aload_n 0, 1) := by decide +kernel
theorem dX6_advised_1 : decode cX6_advised 1 = .ok (.getfield 36, 3) := by decide +kernel
theorem dX6_advised_4 : decode cX6_advised 4 = .ok (.aload_n 0, 1) := by decide +kernel
theorem dX6_advised_5 : decode cX6_advised 5 = .ok (.getfield 19, 3) := by decide +kernel
theorem dX6_advised_8 : decode cX6_advised 8 = .ok (.invokevirtual 220, 3) := by decide +kernel
theorem dX6_advised_11 : decode cX6_advised 11 = .ok (.aload_n 0, 1) := by decide +kernel
theorem dX6_advised_12 : decode cX6_advised 12 = .ok (.getfield 36, 3) := by decide +kernel
theorem dX6_advised_15 : decode cX6_advised 15 = .ok (.invokevirtual 226, 3) := by decide +kernel
theorem dX6_advised_18 : decode cX6_advised 18 = .ok (.ireturn, 1) := by decide +kernel
set_option maxRecDepth 20000 in
theorem ggX6_spare_X0_learn : GoodIn wsX6_spare wsX0_learn := goodIn_r _ [7, 8, 9, 10, 11, 12, 13, 14, 15, 16, 17, 18, 19, 20, 21, 22, 23, 24, 25, 26, 27, 28, 29, 30, 31, 32, 33, 34, 35, 36, 37, 38, 39, 40, 41, 42, 43, 44, 45, 46, 47, 48, 49, 50, 51, 52, 53, 54, 55, 56, 57, 58, 59, 60, 61, 62, 63, 64, 65, 66, 94, 95, 96, 97, 98, 99, 100, 101, 102, 103, 104, 105, 106, 107, 108, 109] (by decide +kernel) (by decide +kernel)
set_option maxRecDepth 20000 in
theorem gX6_spare_X0_learn : GoodIn wsX6_spare (wsV RX6 220 RX0 yX0_learn wsX0_learn) := goodIn_app (goodIn_of _ (by decide +kernel)) ggX6_spare_X0_learn
set_option maxRecDepth 20000 in
theorem ggX6_spare_X0_orderToDrop : GoodIn wsX6_spare wsX0_orderToDrop := goodIn_r _ [70, 10, 71, 72, 73, 6, 74, 11, 75, 76, 77, 78, 8, 9, 79, 80, 81, 82, 83, 84, 85, 86, 13, 104, 105, 106, 107, 108, 109] (by decide +kernel) (by decide +kernel)
set_option maxRecDepth 20000 in
theorem gX6_spare_X0_orderToDrop : GoodIn wsX6_spare (wsV RX6 229 RX0 yX0_orderToDrop wsX0_orderToDrop) := goodIn_app (goodIn_of _ (by decide +kernel)) ggX6_spare_X0_orderToDrop
theorem dX6_spare_0 : decode cX6_spare 0 = .ok (.aload_n 0, 1) := by decide +kernel
theorem dX6_spare_1 : decode cX6_spare 1 = .ok (.getfield 36, 3) := by decide +kernel
theorem dX6_spare_4 : decode cX6_spare 4 = .ok (.aload_n 0, 1) := by decide +kernel
theorem dX6_spare_5 : decode cX6_spare 5 = .ok (.getfield 19, 3) := by decide +kernel
theorem dX6_spare_8 : decode cX6_spare 8 = .ok (.invokevirtual 220, 3) := by decide +kernel
theorem dX6_spare_11 : decode cX6_spare 11 = .ok (.aload_n 0, 1) := by decide +kernel
theorem dX6_spare_12 : decode cX6_spare 12 = .ok (.getfield 36, 3) := by decide +kernel
theorem dX6_spare_15 : decode cX6_spare 15 = .ok (.invokevirtual 229, 3) := by decide +kernel
theorem dX6_spare_18 : decode cX6_spare 18 = .ok (.ireturn, 1) := by decide +kernel
set_option maxRecDepth 20000 in
theorem ggX6_needed_X0_learn : GoodIn wsX6_needed wsX0_learn := goodIn_r _ [7, 8, 9, 10, 11, 12, 13, 14, 15, 16, 17, 18, 19, 20, 21, 22, 23, 24, 25, 26, 27, 28, 29, 30, 31, 32, 33, 34, 35, 36, 37, 38, 39, 40, 41, 42, 43, 44, 45, 46, 47, 48, 49, 50, 51, 52, 53, 54, 55, 56, 57, 58, 59, 60, 61, 62, 63, 64, 65, 66, 89, 90, 91, 92, 93, 94, 95, 96, 97, 98, 99, 100, 101, 102, 103, 104] (by decide +kernel) (by decide +kernel)
set_option maxRecDepth 20000 in
theorem gX6_needed_X0_learn : GoodIn wsX6_needed (wsV RX6 220 RX0 yX0_learn wsX0_learn) := goodIn_app (goodIn_of _ (by decide +kernel)) ggX6_needed_X0_learn
set_option maxRecDepth 20000 in
theorem ggX6_needed_X0_smallestCover : GoodIn wsX6_needed wsX0_smallestCover := goodIn_r _ [70, 71, 72, 73, 74, 75, 76, 77, 78, 79, 80, 6, 81, 8, 12, 99, 100, 101, 102, 103, 104] (by decide +kernel) (by decide +kernel)
set_option maxRecDepth 20000 in
theorem gX6_needed_X0_smallestCover : GoodIn wsX6_needed (wsV RX6 232 RX0 yX0_smallestCover wsX0_smallestCover) := goodIn_app (goodIn_of _ (by decide +kernel)) ggX6_needed_X0_smallestCover
theorem dX6_needed_0 : decode cX6_needed 0 = .ok (.aload_n 0, 1) := by decide +kernel
theorem dX6_needed_1 : decode cX6_needed 1 = .ok (.getfield 36, 3) := by decide +kernel
theorem dX6_needed_4 : decode cX6_needed 4 = .ok (.aload_n 0, 1) := by decide +kernel
theorem dX6_needed_5 : decode cX6_needed 5 = .ok (.getfield 19, 3) := by decide +kernel
theorem dX6_needed_8 : decode cX6_needed 8 = .ok (.invokevirtual 220, 3) := by decide +kernel
theorem dX6_needed_11 : decode cX6_needed 11 = .ok (.aload_n 0, 1) := by decide +kernel
theorem dX6_needed_12 : decode cX6_needed 12 = .ok (.getfield 36, 3) := by decide +kernel
theorem dX6_needed_15 : decode cX6_needed 15 = .ok (.invokevirtual 232, 3) := by decide +kernel
theorem dX6_needed_18 : decode cX6_needed 18 = .ok (.ireturn, 1) := by decide +kernel
set_option maxRecDepth 20000 in
theorem ggX6_ifKept_X0_learn : GoodIn wsX6_ifKept wsX0_learn := goodIn_r _ [9, 10, 11, 12, 13, 14, 15, 16, 17, 18, 19, 20, 21, 22, 23, 24, 25, 26, 27, 28, 29, 30, 31, 32, 33, 34, 35, 36, 37, 38, 39, 40, 41, 42, 43, 44, 45, 46, 47, 48, 49, 50, 51, 52, 53, 54, 55, 56, 57, 58, 59, 60, 61, 62, 63, 64, 65, 66, 67, 68, 88, 89, 90, 91, 92, 93, 94, 95, 96, 97, 98, 99, 100, 101, 102, 103] (by decide +kernel) (by decide +kernel)
set_option maxRecDepth 20000 in
theorem gX6_ifKept_X0_learn : GoodIn wsX6_ifKept (wsV RX6 220 RX0 yX0_learn wsX0_learn) := goodIn_app (goodIn_of _ (by decide +kernel)) ggX6_ifKept_X0_learn
set_option maxRecDepth 20000 in
theorem ggX6_ifKept_X0_costWith : GoodIn wsX6_ifKept wsX0_costWith := goodIn_r _ [72, 10, 11, 73, 74, 75, 76, 77, 78, 79, 8, 80, 15, 98, 99, 100, 101, 102, 103] (by decide +kernel) (by decide +kernel)
set_option maxRecDepth 20000 in
theorem gX6_ifKept_X0_costWith : GoodIn wsX6_ifKept (wsV RX6 237 RX0 yX0_costWith wsX0_costWith) := goodIn_app (goodIn_of _ (by decide +kernel)) ggX6_ifKept_X0_costWith
theorem dX6_ifKept_0 : decode cX6_ifKept 0 = .ok (.iload_n 1, 1) := by decide +kernel
theorem dX6_ifKept_1 : decode cX6_ifKept 1 = .ok (.ifCond .lt 9, 3) := by decide +kernel
theorem dX6_ifKept_4 : decode cX6_ifKept 4 = .ok (.iload_n 1, 1) := by decide +kernel
theorem dX6_ifKept_5 : decode cX6_ifKept 5 = .ok (.bipush 64, 2) := by decide +kernel
theorem dX6_ifKept_7 : decode cX6_ifKept 7 = .ok (.if_icmp .lt 13, 3) := by decide +kernel
theorem dX6_ifKept_10 : decode cX6_ifKept 10 = .ok (.new 50, 3) := by decide +kernel
theorem dX6_ifKept_13 : decode cX6_ifKept 13 = .ok (.dup, 1) := by decide +kernel
theorem dX6_ifKept_14 : decode cX6_ifKept 14 = .ok (.ldc 235, 2) := by decide +kernel
theorem dX6_ifKept_16 : decode cX6_ifKept 16 = .ok (.invokespecial 54, 3) := by decide +kernel
theorem dX6_ifKept_19 : decode cX6_ifKept 19 = .ok (.athrow, 1) := by decide +kernel
theorem dX6_ifKept_20 : decode cX6_ifKept 20 = .ok (.aload_n 0, 1) := by decide +kernel
theorem dX6_ifKept_21 : decode cX6_ifKept 21 = .ok (.getfield 36, 3) := by decide +kernel
theorem dX6_ifKept_24 : decode cX6_ifKept 24 = .ok (.aload_n 0, 1) := by decide +kernel
theorem dX6_ifKept_25 : decode cX6_ifKept 25 = .ok (.getfield 19, 3) := by decide +kernel
theorem dX6_ifKept_28 : decode cX6_ifKept 28 = .ok (.invokevirtual 220, 3) := by decide +kernel
theorem dX6_ifKept_31 : decode cX6_ifKept 31 = .ok (.aload_n 0, 1) := by decide +kernel
theorem dX6_ifKept_32 : decode cX6_ifKept 32 = .ok (.getfield 36, 3) := by decide +kernel
theorem dX6_ifKept_35 : decode cX6_ifKept 35 = .ok (.iload_n 1, 1) := by decide +kernel
theorem dX6_ifKept_36 : decode cX6_ifKept 36 = .ok (.invokevirtual 237, 3) := by decide +kernel
theorem dX6_ifKept_39 : decode cX6_ifKept 39 = .ok (.ireturn, 1) := by decide +kernel
set_option maxRecDepth 20000 in
theorem ggX6_bestSet_X0_learn : GoodIn wsX6_bestSet wsX0_learn := goodIn_r _ [7, 8, 9, 10, 11, 12, 13, 14, 15, 16, 17, 18, 19, 20, 21, 22, 23, 24, 25, 26, 27, 28, 29, 30, 31, 32, 33, 34, 35, 36, 37, 38, 39, 40, 41, 42, 43, 44, 45, 46, 47, 48, 49, 50, 51, 52, 53, 54, 55, 56, 57, 58, 59, 60, 61, 62, 63, 64, 65, 66, 97, 98, 99, 100, 101, 102, 103, 104, 105, 106, 107, 108, 109, 110, 111, 112] (by decide +kernel) (by decide +kernel)
set_option maxRecDepth 20000 in
theorem gX6_bestSet_X0_learn : GoodIn wsX6_bestSet (wsV RX6 220 RX0 yX0_learn wsX0_learn) := goodIn_app (goodIn_of _ (by decide +kernel)) ggX6_bestSet_X0_learn
set_option maxRecDepth 20000 in
theorem ggX6_bestSet_X0_cheapestSet : GoodIn wsX6_bestSet wsX0_cheapestSet := goodIn_r _ [70, 11, 71, 72, 73, 6, 74, 8, 9, 75, 76, 77, 78, 79, 80, 81, 82, 13, 83, 84, 85, 86, 87, 88, 89, 107, 108, 109, 110, 111, 112] (by decide +kernel) (by decide +kernel)
set_option maxRecDepth 20000 in
theorem gX6_bestSet_X0_cheapestSet : GoodIn wsX6_bestSet (wsV RX6 240 RX0 yX0_cheapestSet wsX0_cheapestSet) := goodIn_app (goodIn_of _ (by decide +kernel)) ggX6_bestSet_X0_cheapestSet
theorem dX6_bestSet_0 : decode cX6_bestSet 0 = .ok (.aload_n 0, 1) := by decide +kernel
theorem dX6_bestSet_1 : decode cX6_bestSet 1 = .ok (.getfield 36, 3) := by decide +kernel
theorem dX6_bestSet_4 : decode cX6_bestSet 4 = .ok (.aload_n 0, 1) := by decide +kernel
theorem dX6_bestSet_5 : decode cX6_bestSet 5 = .ok (.getfield 19, 3) := by decide +kernel
theorem dX6_bestSet_8 : decode cX6_bestSet 8 = .ok (.invokevirtual 220, 3) := by decide +kernel
theorem dX6_bestSet_11 : decode cX6_bestSet 11 = .ok (.aload_n 0, 1) := by decide +kernel
theorem dX6_bestSet_12 : decode cX6_bestSet 12 = .ok (.getfield 36, 3) := by decide +kernel
theorem dX6_bestSet_15 : decode cX6_bestSet 15 = .ok (.invokevirtual 240, 3) := by decide +kernel
theorem dX6_bestSet_18 : decode cX6_bestSet 18 = .ok (.ireturn, 1) := by decide +kernel
theorem dX6_needTriple_0 : decode cX6_needTriple 0 = .ok (.iload_n 0, 1) := by decide +kernel
theorem dX6_needTriple_1 : decode cX6_needTriple 1 = .ok (.ifCond .lt 10, 3) := by decide +kernel
theorem dX6_needTriple_4 : decode cX6_needTriple 4 = .ok (.iload_n 0, 1) := by decide +kernel
theorem dX6_needTriple_5 : decode cX6_needTriple 5 = .ok (.sipush 999, 3) := by decide +kernel
theorem dX6_needTriple_8 : decode cX6_needTriple 8 = .ok (.if_icmp .le 14, 3) := by decide +kernel
theorem dX6_needTriple_11 : decode cX6_needTriple 11 = .ok (.new 50, 3) := by decide +kernel
theorem dX6_needTriple_14 : decode cX6_needTriple 14 = .ok (.dup, 1) := by decide +kernel
theorem dX6_needTriple_15 : decode cX6_needTriple 15 = .ok (.ldc_w 304, 3) := by decide +kernel
theorem dX6_needTriple_18 : decode cX6_needTriple 18 = .ok (.invokespecial 54, 3) := by decide +kernel
theorem dX6_needTriple_21 : decode cX6_needTriple 21 = .ok (.athrow, 1) := by decide +kernel
theorem dX6_needTriple_22 : decode cX6_needTriple 22 = .ok (.return_, 1) := by decide +kernel
theorem dX6_needQuestion_0 : decode cX6_needQuestion 0 = .ok (.iload_n 0, 1) := by decide +kernel
theorem dX6_needQuestion_1 : decode cX6_needQuestion 1 = .ok (.ifCond .lt 10, 3) := by decide +kernel
theorem dX6_needQuestion_4 : decode cX6_needQuestion 4 = .ok (.iload_n 0, 1) := by decide +kernel
theorem dX6_needQuestion_5 : decode cX6_needQuestion 5 = .ok (.sipush 1330, 3) := by decide +kernel
theorem dX6_needQuestion_8 : decode cX6_needQuestion 8 = .ok (.if_icmp .le 14, 3) := by decide +kernel
theorem dX6_needQuestion_11 : decode cX6_needQuestion 11 = .ok (.new 50, 3) := by decide +kernel
theorem dX6_needQuestion_14 : decode cX6_needQuestion 14 = .ok (.dup, 1) := by decide +kernel
theorem dX6_needQuestion_15 : decode cX6_needQuestion 15 = .ok (.ldc_w 306, 3) := by decide +kernel
theorem dX6_needQuestion_18 : decode cX6_needQuestion 18 = .ok (.invokespecial 54, 3) := by decide +kernel
theorem dX6_needQuestion_21 : decode cX6_needQuestion 21 = .ok (.athrow, 1) := by decide +kernel
theorem dX6_needQuestion_22 : decode cX6_needQuestion 22 = .ok (.return_, 1) := by decide +kernel
theorem dX6_needPlace_0 : decode cX6_needPlace 0 = .ok (.iload_n 0, 1) := by decide +kernel
theorem dX6_needPlace_1 : decode cX6_needPlace 1 = .ok (.ifCond .ge 14, 3) := by decide +kernel
theorem dX6_needPlace_4 : decode cX6_needPlace 4 = .ok (.new 50, 3) := by decide +kernel
theorem dX6_needPlace_7 : decode cX6_needPlace 7 = .ok (.dup, 1) := by decide +kernel
theorem dX6_needPlace_8 : decode cX6_needPlace 8 = .ok (.ldc_w 308, 3) := by decide +kernel
theorem dX6_needPlace_11 : decode cX6_needPlace 11 = .ok (.invokespecial 54, 3) := by decide +kernel
theorem dX6_needPlace_14 : decode cX6_needPlace 14 = .ok (.athrow, 1) := by decide +kernel
theorem dX6_needPlace_15 : decode cX6_needPlace 15 = .ok (.return_, 1) := by decide +kernel
theorem dX6_needOrder_0 : decode cX6_needOrder 0 = .ok (.iload_n 0, 1) := by decide +kernel
theorem dX6_needOrder_1 : decode cX6_needOrder 1 = .ok (.ifCond .lt 9, 3) := by decide +kernel
theorem dX6_needOrder_4 : decode cX6_needOrder 4 = .ok (.iload_n 0, 1) := by decide +kernel
theorem dX6_needOrder_5 : decode cX6_needOrder 5 = .ok (.bipush 6, 2) := by decide +kernel
theorem dX6_needOrder_7 : decode cX6_needOrder 7 = .ok (.if_icmp .lt 14, 3) := by decide +kernel
theorem dX6_needOrder_10 : decode cX6_needOrder 10 = .ok (.new 310, 3) := by decide +kernel
theorem dX6_needOrder_13 : decode cX6_needOrder 13 = .ok (.dup, 1) := by decide +kernel
theorem dX6_needOrder_14 : decode cX6_needOrder 14 = .ok (.ldc_w 312, 3) := by decide +kernel
theorem dX6_needOrder_17 : decode cX6_needOrder 17 = .ok (.invokespecial 314, 3) := by decide +kernel
theorem dX6_needOrder_20 : decode cX6_needOrder 20 = .ok (.athrow, 1) := by decide +kernel
theorem dX6_needOrder_21 : decode cX6_needOrder 21 = .ok (.return_, 1) := by decide +kernel
set_option maxRecDepth 20000 in
theorem ggX6_needOrderOrNone_X6_needOrder : GoodIn wsX6_needOrderOrNone wsX6_needOrder := goodIn_ca (goodIn_r _ [4, 5, 6] (by decide +kernel) (by decide +kernel)) (goodIn_sub (fun _ h => List.mem_cons_of_mem _ (List.mem_append_right _ h)) (by decide +kernel))
set_option maxRecDepth 20000 in
theorem gX6_needOrderOrNone_X6_needOrder : GoodIn wsX6_needOrderOrNone (va_wsS RX6 145 yX6_needOrder wsX6_needOrder) := goodIn_app (goodIn_of _ (by decide +kernel)) ggX6_needOrderOrNone_X6_needOrder
theorem dX6_needOrderOrNone_0 : decode cX6_needOrderOrNone 0 = .ok (.iload_n 0, 1) := by decide +kernel
theorem dX6_needOrderOrNone_1 : decode cX6_needOrderOrNone 1 = .ok (.iconst (-1), 1) := by decide +kernel
theorem dX6_needOrderOrNone_2 : decode cX6_needOrderOrNone 2 = .ok (.if_icmp .eq 7, 3) := by decide +kernel
theorem dX6_needOrderOrNone_5 : decode cX6_needOrderOrNone 5 = .ok (.iload_n 0, 1) := by decide +kernel
theorem dX6_needOrderOrNone_6 : decode cX6_needOrderOrNone 6 = .ok (.invokestatic 145, 3) := by decide +kernel
theorem dX6_needOrderOrNone_9 : decode cX6_needOrderOrNone 9 = .ok (.return_, 1) := by decide +kernel
theorem dJ6_bitCount_0f7a4_0 : decode cJ6_bitCount_0f7a4 0 = .ok (.iload_n 0, 1) := by decide +kernel
theorem dJ6_bitCount_0f7a4_1 : decode cJ6_bitCount_0f7a4 1 = .ok (.iload_n 0, 1) := by decide +kernel
theorem dJ6_bitCount_0f7a4_2 : decode cJ6_bitCount_0f7a4 2 = .ok (.iconst 1, 1) := by decide +kernel
theorem dJ6_bitCount_0f7a4_3 : decode cJ6_bitCount_0f7a4 3 = .ok (.iushr, 1) := by decide +kernel
theorem dJ6_bitCount_0f7a4_4 : decode cJ6_bitCount_0f7a4 4 = .ok (.ldc_w 265, 3) := by decide +kernel
theorem dJ6_bitCount_0f7a4_7 : decode cJ6_bitCount_0f7a4 7 = .ok (.iand, 1) := by decide +kernel
theorem dJ6_bitCount_0f7a4_8 : decode cJ6_bitCount_0f7a4 8 = .ok (.isub, 1) := by decide +kernel
theorem dJ6_bitCount_0f7a4_9 : decode cJ6_bitCount_0f7a4 9 = .ok (.istore_n 0, 1) := by decide +kernel
theorem dJ6_bitCount_0f7a4_10 : decode cJ6_bitCount_0f7a4 10 = .ok (.iload_n 0, 1) := by decide +kernel
theorem dJ6_bitCount_0f7a4_11 : decode cJ6_bitCount_0f7a4 11 = .ok (.ldc_w 266, 3) := by decide +kernel
theorem dJ6_bitCount_0f7a4_14 : decode cJ6_bitCount_0f7a4 14 = .ok (.iand, 1) := by decide +kernel
theorem dJ6_bitCount_0f7a4_15 : decode cJ6_bitCount_0f7a4 15 = .ok (.iload_n 0, 1) := by decide +kernel
theorem dJ6_bitCount_0f7a4_16 : decode cJ6_bitCount_0f7a4 16 = .ok (.iconst 2, 1) := by decide +kernel
theorem dJ6_bitCount_0f7a4_17 : decode cJ6_bitCount_0f7a4 17 = .ok (.iushr, 1) := by decide +kernel
theorem dJ6_bitCount_0f7a4_18 : decode cJ6_bitCount_0f7a4 18 = .ok (.ldc_w 266, 3) := by decide +kernel
theorem dJ6_bitCount_0f7a4_21 : decode cJ6_bitCount_0f7a4 21 = .ok (.iand, 1) := by decide +kernel
theorem dJ6_bitCount_0f7a4_22 : decode cJ6_bitCount_0f7a4 22 = .ok (.iadd, 1) := by decide +kernel
theorem dJ6_bitCount_0f7a4_23 : decode cJ6_bitCount_0f7a4 23 = .ok (.istore_n 0, 1) := by decide +kernel
theorem dJ6_bitCount_0f7a4_24 : decode cJ6_bitCount_0f7a4 24 = .ok (.iload_n 0, 1) := by decide +kernel
theorem dJ6_bitCount_0f7a4_25 : decode cJ6_bitCount_0f7a4 25 = .ok (.iload_n 0, 1) := by decide +kernel
theorem dJ6_bitCount_0f7a4_26 : decode cJ6_bitCount_0f7a4 26 = .ok (.iconst 4, 1) := by decide +kernel
theorem dJ6_bitCount_0f7a4_27 : decode cJ6_bitCount_0f7a4 27 = .ok (.iushr, 1) := by decide +kernel
theorem dJ6_bitCount_0f7a4_28 : decode cJ6_bitCount_0f7a4 28 = .ok (.iadd, 1) := by decide +kernel
theorem dJ6_bitCount_0f7a4_29 : decode cJ6_bitCount_0f7a4 29 = .ok (.ldc_w 267, 3) := by decide +kernel
theorem dJ6_bitCount_0f7a4_32 : decode cJ6_bitCount_0f7a4 32 = .ok (.iand, 1) := by decide +kernel
theorem dJ6_bitCount_0f7a4_33 : decode cJ6_bitCount_0f7a4 33 = .ok (.istore_n 0, 1) := by decide +kernel
theorem dJ6_bitCount_0f7a4_34 : decode cJ6_bitCount_0f7a4 34 = .ok (.iload_n 0, 1) := by decide +kernel
theorem dJ6_bitCount_0f7a4_35 : decode cJ6_bitCount_0f7a4 35 = .ok (.iload_n 0, 1) := by decide +kernel
theorem dJ6_bitCount_0f7a4_36 : decode cJ6_bitCount_0f7a4 36 = .ok (.bipush 8, 2) := by decide +kernel
theorem dJ6_bitCount_0f7a4_38 : decode cJ6_bitCount_0f7a4 38 = .ok (.iushr, 1) := by decide +kernel
theorem dJ6_bitCount_0f7a4_39 : decode cJ6_bitCount_0f7a4 39 = .ok (.iadd, 1) := by decide +kernel
theorem dJ6_bitCount_0f7a4_40 : decode cJ6_bitCount_0f7a4 40 = .ok (.istore_n 0, 1) := by decide +kernel
theorem dJ6_bitCount_0f7a4_41 : decode cJ6_bitCount_0f7a4 41 = .ok (.iload_n 0, 1) := by decide +kernel
theorem dJ6_bitCount_0f7a4_42 : decode cJ6_bitCount_0f7a4 42 = .ok (.iload_n 0, 1) := by decide +kernel
theorem dJ6_bitCount_0f7a4_43 : decode cJ6_bitCount_0f7a4 43 = .ok (.bipush 16, 2) := by decide +kernel
theorem dJ6_bitCount_0f7a4_45 : decode cJ6_bitCount_0f7a4 45 = .ok (.iushr, 1) := by decide +kernel
theorem dJ6_bitCount_0f7a4_46 : decode cJ6_bitCount_0f7a4 46 = .ok (.iadd, 1) := by decide +kernel
theorem dJ6_bitCount_0f7a4_47 : decode cJ6_bitCount_0f7a4 47 = .ok (.istore_n 0, 1) := by decide +kernel
theorem dJ6_bitCount_0f7a4_48 : decode cJ6_bitCount_0f7a4 48 = .ok (.iload_n 0, 1) := by decide +kernel
theorem dJ6_bitCount_0f7a4_49 : decode cJ6_bitCount_0f7a4 49 = .ok (.bipush 63, 2) := by decide +kernel
theorem dJ6_bitCount_0f7a4_51 : decode cJ6_bitCount_0f7a4 51 = .ok (.iand, 1) := by decide +kernel
theorem dJ6_bitCount_0f7a4_52 : decode cJ6_bitCount_0f7a4 52 = .ok (.ireturn, 1) := by decide +kernel
theorem dJ9_min_7cf53_0 : decode cJ9_min_7cf53 0 = .ok (.iload_n 0, 1) := by decide +kernel
theorem dJ9_min_7cf53_1 : decode cJ9_min_7cf53 1 = .ok (.iload_n 1, 1) := by decide +kernel
theorem dJ9_min_7cf53_2 : decode cJ9_min_7cf53 2 = .ok (.if_icmp .gt 7, 3) := by decide +kernel
theorem dJ9_min_7cf53_5 : decode cJ9_min_7cf53 5 = .ok (.iload_n 0, 1) := by decide +kernel
theorem dJ9_min_7cf53_6 : decode cJ9_min_7cf53 6 = .ok (.goto 4, 3) := by decide +kernel
theorem dJ9_min_7cf53_9 : decode cJ9_min_7cf53 9 = .ok (.iload_n 1, 1) := by decide +kernel
theorem dJ9_min_7cf53_10 : decode cJ9_min_7cf53 10 = .ok (.ireturn, 1) := by decide +kernel
theorem dL_cell_0 : decode cL_cell 0 = .ok (.iload_n 1, 1) := by decide +kernel
theorem dL_cell_1 : decode cL_cell 1 = .ok (.aload_n 0, 1) := by decide +kernel
theorem dL_cell_2 : decode cL_cell 2 = .ok (.arraylength, 1) := by decide +kernel
theorem dL_cell_3 : decode cL_cell 3 = .ok (.if_icmp .ge 9, 3) := by decide +kernel
theorem dL_cell_6 : decode cL_cell 6 = .ok (.aload_n 0, 1) := by decide +kernel
theorem dL_cell_7 : decode cL_cell 7 = .ok (.iload_n 1, 1) := by decide +kernel
theorem dL_cell_8 : decode cL_cell 8 = .ok (.iaload, 1) := by decide +kernel
theorem dL_cell_9 : decode cL_cell 9 = .ok (.goto 15, 3) := by decide +kernel
theorem dL_cell_12 : decode cL_cell 12 = .ok (.sipush 7919, 3) := by decide +kernel
theorem dL_cell_15 : decode cL_cell 15 = .ok (.iload_n 1, 1) := by decide +kernel
theorem dL_cell_16 : decode cL_cell 16 = .ok (.iconst 3, 1) := by decide +kernel
theorem dL_cell_17 : decode cL_cell 17 = .ok (.iadd, 1) := by decide +kernel
theorem dL_cell_18 : decode cL_cell 18 = .ok (.imul, 1) := by decide +kernel
theorem dL_cell_19 : decode cL_cell 19 = .ok (.iload_n 1, 1) := by decide +kernel
theorem dL_cell_20 : decode cL_cell 20 = .ok (.bipush 11, 2) := by decide +kernel
theorem dL_cell_22 : decode cL_cell 22 = .ok (.iadd, 1) := by decide +kernel
theorem dL_cell_23 : decode cL_cell 23 = .ok (.imul, 1) := by decide +kernel
theorem dL_cell_24 : decode cL_cell 24 = .ok (.ireturn, 1) := by decide +kernel
theorem dL_low_0 : decode cL_low 0 = .ok (.iload_n 0, 1) := by decide +kernel
theorem dL_low_1 : decode cL_low 1 = .ok (.ldc 7, 2) := by decide +kernel
theorem dL_low_3 : decode cL_low 3 = .ok (.iand, 1) := by decide +kernel
theorem dL_low_4 : decode cL_low 4 = .ok (.iload_n 1, 1) := by decide +kernel
theorem dL_low_5 : decode cL_low 5 = .ok (.irem, 1) := by decide +kernel
theorem dL_low_6 : decode cL_low 6 = .ok (.ireturn, 1) := by decide +kernel
theorem dL_digits_0 : decode cL_digits 0 = .ok (.bipush 100, 2) := by decide +kernel
theorem dL_digits_2 : decode cL_digits 2 = .ok (.iload_n 0, 1) := by decide +kernel
theorem dL_digits_3 : decode cL_digits 3 = .ok (.iconst 3, 1) := by decide +kernel
theorem dL_digits_4 : decode cL_digits 4 = .ok (.iand, 1) := by decide +kernel
theorem dL_digits_5 : decode cL_digits 5 = .ok (.imul, 1) := by decide +kernel
theorem dL_digits_6 : decode cL_digits 6 = .ok (.bipush 10, 2) := by decide +kernel
theorem dL_digits_8 : decode cL_digits 8 = .ok (.iload_n 0, 1) := by decide +kernel
theorem dL_digits_9 : decode cL_digits 9 = .ok (.iconst 2, 1) := by decide +kernel
theorem dL_digits_10 : decode cL_digits 10 = .ok (.ishr, 1) := by decide +kernel
theorem dL_digits_11 : decode cL_digits 11 = .ok (.iconst 3, 1) := by decide +kernel
theorem dL_digits_12 : decode cL_digits 12 = .ok (.iand, 1) := by decide +kernel
theorem dL_digits_13 : decode cL_digits 13 = .ok (.imul, 1) := by decide +kernel
theorem dL_digits_14 : decode cL_digits 14 = .ok (.iadd, 1) := by decide +kernel
theorem dL_digits_15 : decode cL_digits 15 = .ok (.iload_n 0, 1) := by decide +kernel
theorem dL_digits_16 : decode cL_digits 16 = .ok (.iconst 4, 1) := by decide +kernel
theorem dL_digits_17 : decode cL_digits 17 = .ok (.ishr, 1) := by decide +kernel
theorem dL_digits_18 : decode cL_digits 18 = .ok (.iconst 3, 1) := by decide +kernel
theorem dL_digits_19 : decode cL_digits 19 = .ok (.iand, 1) := by decide +kernel
theorem dL_digits_20 : decode cL_digits 20 = .ok (.iadd, 1) := by decide +kernel
theorem dL_digits_21 : decode cL_digits 21 = .ok (.ireturn, 1) := by decide +kernel
theorem dL_question_0 : decode cL_question 0 = .ok (.iload_n 0, 1) := by decide +kernel
theorem dL_question_1 : decode cL_question 1 = .ok (.bipush 6, 2) := by decide +kernel
theorem dL_question_3 : decode cL_question 3 = .ok (.ishr, 1) := by decide +kernel
theorem dL_question_4 : decode cL_question 4 = .ok (.iconst 1, 1) := by decide +kernel
theorem dL_question_5 : decode cL_question 5 = .ok (.iand, 1) := by decide +kernel
theorem dL_question_6 : decode cL_question 6 = .ok (.ifCond .ne 8, 3) := by decide +kernel
theorem dL_question_9 : decode cL_question 9 = .ok (.bipush 10, 2) := by decide +kernel
theorem dL_question_11 : decode cL_question 11 = .ok (.goto 6, 3) := by decide +kernel
theorem dL_question_14 : decode cL_question 14 = .ok (.iload_n 0, 1) := by decide +kernel
theorem dL_question_15 : decode cL_question 15 = .ok (.iconst 3, 1) := by decide +kernel
theorem dL_question_16 : decode cL_question 16 = .ok (.iand, 1) := by decide +kernel
theorem dL_question_17 : decode cL_question 17 = .ok (.istore_n 1, 1) := by decide +kernel
theorem dL_question_18 : decode cL_question 18 = .ok (.iload_n 0, 1) := by decide +kernel
theorem dL_question_19 : decode cL_question 19 = .ok (.bipush 7, 2) := by decide +kernel
theorem dL_question_21 : decode cL_question 21 = .ok (.ishr, 1) := by decide +kernel
theorem dL_question_22 : decode cL_question 22 = .ok (.iconst 1, 1) := by decide +kernel
theorem dL_question_23 : decode cL_question 23 = .ok (.iand, 1) := by decide +kernel
theorem dL_question_24 : decode cL_question 24 = .ok (.ifCond .ne 8, 3) := by decide +kernel
theorem dL_question_27 : decode cL_question 27 = .ok (.bipush 10, 2) := by decide +kernel
theorem dL_question_29 : decode cL_question 29 = .ok (.goto 8, 3) := by decide +kernel
theorem dL_question_32 : decode cL_question 32 = .ok (.iload_n 0, 1) := by decide +kernel
theorem dL_question_33 : decode cL_question 33 = .ok (.iconst 2, 1) := by decide +kernel
theorem dL_question_34 : decode cL_question 34 = .ok (.ishr, 1) := by decide +kernel
theorem dL_question_35 : decode cL_question 35 = .ok (.iconst 3, 1) := by decide +kernel
theorem dL_question_36 : decode cL_question 36 = .ok (.iand, 1) := by decide +kernel
theorem dL_question_37 : decode cL_question 37 = .ok (.istore_n 2, 1) := by decide +kernel
theorem dL_question_38 : decode cL_question 38 = .ok (.iload_n 0, 1) := by decide +kernel
theorem dL_question_39 : decode cL_question 39 = .ok (.bipush 8, 2) := by decide +kernel
theorem dL_question_41 : decode cL_question 41 = .ok (.ishr, 1) := by decide +kernel
theorem dL_question_42 : decode cL_question 42 = .ok (.iconst 1, 1) := by decide +kernel
theorem dL_question_43 : decode cL_question 43 = .ok (.iand, 1) := by decide +kernel
theorem dL_question_44 : decode cL_question 44 = .ok (.ifCond .ne 8, 3) := by decide +kernel
theorem dL_question_47 : decode cL_question 47 = .ok (.bipush 10, 2) := by decide +kernel
theorem dL_question_49 : decode cL_question 49 = .ok (.goto 8, 3) := by decide +kernel
theorem dL_question_52 : decode cL_question 52 = .ok (.iload_n 0, 1) := by decide +kernel
theorem dL_question_53 : decode cL_question 53 = .ok (.iconst 4, 1) := by decide +kernel
theorem dL_question_54 : decode cL_question 54 = .ok (.ishr, 1) := by decide +kernel
theorem dL_question_55 : decode cL_question 55 = .ok (.iconst 3, 1) := by decide +kernel
theorem dL_question_56 : decode cL_question 56 = .ok (.iand, 1) := by decide +kernel
theorem dL_question_57 : decode cL_question 57 = .ok (.istore_n 3, 1) := by decide +kernel
theorem dL_question_58 : decode cL_question 58 = .ok (.bipush 121, 2) := by decide +kernel
theorem dL_question_60 : decode cL_question 60 = .ok (.iload_n 1, 1) := by decide +kernel
theorem dL_question_61 : decode cL_question 61 = .ok (.imul, 1) := by decide +kernel
theorem dL_question_62 : decode cL_question 62 = .ok (.bipush 11, 2) := by decide +kernel
theorem dL_question_64 : decode cL_question 64 = .ok (.iload_n 2, 1) := by decide +kernel
theorem dL_question_65 : decode cL_question 65 = .ok (.imul, 1) := by decide +kernel
theorem dL_question_66 : decode cL_question 66 = .ok (.iadd, 1) := by decide +kernel
theorem dL_question_67 : decode cL_question 67 = .ok (.iload_n 3, 1) := by decide +kernel
theorem dL_question_68 : decode cL_question 68 = .ok (.iadd, 1) := by decide +kernel
theorem dL_question_69 : decode cL_question 69 = .ok (.ireturn, 1) := by decide +kernel
set_option maxRecDepth 20000 in
theorem ggL_does_L_low : GoodIn wsL_does wsL_low := goodIn_r _ [4, 5] (by decide +kernel) (by decide +kernel)
set_option maxRecDepth 20000 in
theorem gL_does_L_low : GoodIn wsL_does (va_wsS RL 8 yL_low wsL_low) := goodIn_app (goodIn_of _ (by decide +kernel)) ggL_does_L_low
set_option maxRecDepth 20000 in
theorem ggL_does_X6_about : GoodIn wsL_does wsX6_about := goodIn_ca (goodIn_r _ [10, 11, 12, 13, 14, 15, 16, 17, 18, 19, 237, 238, 239, 240, 241, 242, 243, 244, 245, 246, 247, 248, 249, 250, 251, 252, 253] (by decide +kernel) (by decide +kernel)) (goodIn_sub (fun _ h => List.mem_cons_of_mem _ (List.mem_append_left _ (List.mem_append_left _ (List.mem_append_right _ h)))) (by decide +kernel))
set_option maxRecDepth 20000 in
theorem gL_does_X6_about : GoodIn wsL_does (wsV RL 14 RX6 yX6_about wsX6_about) := goodIn_app (goodIn_of _ (by decide +kernel)) ggL_does_X6_about
set_option maxRecDepth 20000 in
theorem ggL_does_L_digits : GoodIn wsL_does wsL_digits := goodIn_r _ [22] (by decide +kernel) (by decide +kernel)
set_option maxRecDepth 20000 in
theorem gL_does_L_digits : GoodIn wsL_does (va_wsS RL 20 yL_digits wsL_digits) := goodIn_app (goodIn_of _ (by decide +kernel)) ggL_does_L_digits
set_option maxRecDepth 20000 in
theorem ggL_does_X6_add : GoodIn wsL_does wsX6_add := goodIn_ca (goodIn_ca (goodIn_r _ [26, 27, 28, 13, 29, 30, 31, 9, 32, 11, 12, 33, 34, 35, 17, 36, 19, 37, 38, 39, 40, 41, 42, 43, 44, 45, 46, 47, 48, 49, 50, 51, 52, 53, 54, 55, 56, 57, 58, 59, 60, 61, 62, 63, 64, 65, 66, 67, 68, 69, 70, 71, 72, 73, 74, 75, 76, 77, 78, 79, 80, 81, 82, 83, 84, 85, 86, 87, 88, 15, 16, 18, 237, 238, 239, 240, 241, 242, 243, 244, 245, 246, 247, 248, 249, 250, 251, 252, 253, 254, 255, 256] (by decide +kernel) (by decide +kernel)) (goodIn_sub (fun _ h => List.mem_cons_of_mem _ (List.mem_append_left _ (List.mem_append_right _ h))) (by decide +kernel))) (goodIn_sub (fun _ h => List.mem_cons_of_mem _ (List.mem_append_left _ (List.mem_append_left _ (List.mem_append_right _ h)))) (by decide +kernel))
set_option maxRecDepth 20000 in
theorem gL_does_X6_add : GoodIn wsL_does (wsV RL 23 RX6 yX6_add wsX6_add) := goodIn_app (goodIn_of _ (by decide +kernel)) ggL_does_X6_add
set_option maxRecDepth 20000 in
theorem ggL_does_X6_remove : GoodIn wsL_does wsX6_remove := goodIn_ca (goodIn_r _ [92, 29, 13, 30, 31, 9, 32, 11, 12, 46, 47, 48, 49, 50, 51, 52, 53, 54, 55, 56, 57, 58, 59, 60, 17, 61, 19, 37, 62, 63, 64, 65, 66, 67, 68, 69, 70, 71, 72, 93, 94, 95, 96, 38, 39, 40, 41, 42, 43, 44, 45, 77, 78, 79, 80, 81, 82, 83, 84, 85, 86, 87, 88, 15, 16, 18, 237, 238, 239, 240, 241, 242, 243, 254, 255, 256, 244, 245, 246, 247, 248, 249, 250, 251, 252, 253] (by decide +kernel) (by decide +kernel)) (goodIn_sub (fun _ h => List.mem_cons_of_mem _ (List.mem_append_left _ (List.mem_append_left _ (List.mem_append_right _ h)))) (by decide +kernel))
set_option maxRecDepth 20000 in
theorem gL_does_X6_remove : GoodIn wsL_does (wsV RL 26 RX6 yX6_remove wsX6_remove) := goodIn_app (goodIn_of _ (by decide +kernel)) ggL_does_X6_remove
set_option maxRecDepth 20000 in
theorem ggL_does_X6_build : GoodIn wsL_does wsX6_build := goodIn_ca (goodIn_ca (goodIn_r _ [100, 27, 28, 13, 29, 101, 102, 9, 103, 104, 105, 106, 107, 108, 17, 109, 62, 46, 47, 48, 49, 50, 51, 52, 53, 54, 55, 56, 57, 58, 59, 60, 61, 19, 37, 63, 64, 65, 66, 67, 68, 69, 70, 71, 72, 110, 111, 112, 113, 88, 15, 16, 18, 237, 238, 239, 240, 241, 242, 243, 244, 245, 246, 247, 248, 249, 250, 251, 252, 253, 254, 255, 256] (by decide +kernel) (by decide +kernel)) (goodIn_sub (fun _ h => List.mem_cons_of_mem _ (List.mem_append_left _ (List.mem_append_right _ h))) (by decide +kernel))) (goodIn_sub (fun _ h => List.mem_cons_of_mem _ (List.mem_append_right _ h)) (by decide +kernel))
set_option maxRecDepth 20000 in
theorem gL_does_X6_build : GoodIn wsL_does (wsV RL 29 RX6 yX6_build wsX6_build) := goodIn_app (goodIn_of _ (by decide +kernel)) ggL_does_X6_build
set_option maxRecDepth 20000 in
theorem ggL_does_X6_drop : GoodIn wsL_does wsX6_drop := goodIn_ca (goodIn_ca (goodIn_r _ [117, 27, 28, 13, 29, 101, 102, 9, 103, 104, 105, 106, 107, 108, 17, 109, 62, 46, 47, 48, 49, 50, 51, 52, 53, 54, 55, 56, 57, 58, 59, 60, 61, 19, 37, 63, 64, 65, 66, 67, 68, 69, 70, 71, 72, 118, 119, 120, 121, 81, 82, 83, 84, 85, 86, 87, 237, 238, 239, 240, 241, 242, 243, 244, 245, 246, 247, 248, 249, 250, 251, 252, 253, 254, 255, 256] (by decide +kernel) (by decide +kernel)) (goodIn_sub (fun _ h => List.mem_cons_of_mem _ (List.mem_append_left _ (List.mem_append_right _ h))) (by decide +kernel))) (goodIn_sub (fun _ h => List.mem_cons_of_mem _ (List.mem_append_right _ h)) (by decide +kernel))
set_option maxRecDepth 20000 in
theorem gL_does_X6_drop : GoodIn wsL_does (wsV RL 32 RX6 yX6_drop wsX6_drop) := goodIn_app (goodIn_of _ (by decide +kernel)) ggL_does_X6_drop
set_option maxRecDepth 20000 in
theorem ggL_does_X6_setWeight : GoodIn wsL_does wsX6_setWeight := goodIn_ca (goodIn_r _ [125, 11, 12, 29, 13, 46, 47, 48, 49, 50, 51, 52, 53, 54, 55, 56, 57, 58, 59, 60, 17, 61, 19, 37, 62, 63, 64, 65, 66, 67, 68, 69, 70, 71, 72, 237, 238, 239, 240, 241, 242, 243, 244, 245, 246, 247, 248, 249, 250, 251, 252, 253, 254, 255, 256] (by decide +kernel) (by decide +kernel)) (goodIn_sub (fun _ h => List.mem_cons_of_mem _ (List.mem_append_left _ (List.mem_append_left _ (List.mem_append_right _ h)))) (by decide +kernel))
set_option maxRecDepth 20000 in
theorem gL_does_X6_setWeight : GoodIn wsL_does (wsV RL 35 RX6 yX6_setWeight wsX6_setWeight) := goodIn_app (goodIn_of _ (by decide +kernel)) ggL_does_X6_setWeight
set_option maxRecDepth 20000 in
theorem ggL_does_X6_tidy : GoodIn wsL_does wsX6_tidy := goodIn_r _ [129, 29, 13, 130, 46, 47, 48, 49, 50, 51, 52, 53, 54, 55, 56, 57, 58, 59, 60, 17, 61, 19, 37, 62, 63, 64, 65, 66, 67, 68, 69, 70, 71, 72, 131, 132, 133, 134, 135, 136, 137, 138, 139, 140, 141, 142, 143, 144, 145, 146, 15, 16, 18, 147, 148, 149, 150, 151, 152, 153, 154, 155, 156, 157, 158, 159, 160, 161, 162, 163, 164, 165, 88, 166, 167, 168, 169, 170, 171, 172, 173, 174, 175, 42, 43, 44, 45, 176, 177, 178, 179, 180, 181, 182, 183, 184, 185, 186, 187, 188, 189, 190, 191, 192, 193, 194, 195, 196, 197, 198, 199, 200, 201, 202, 203, 204, 205, 206, 111, 112, 113, 207, 208, 209, 210, 211, 119, 120, 121, 81, 82, 83, 84, 85, 86, 87, 237, 238, 239, 240, 241, 242, 243, 254, 255, 256, 244, 245, 246, 247, 248, 249, 250, 251, 252, 253, 257, 258, 259, 260, 261, 262] (by decide +kernel) (by decide +kernel)
set_option maxRecDepth 20000 in
theorem gL_does_X6_tidy : GoodIn wsL_does (wsV RL 38 RX6 yX6_tidy wsX6_tidy) := goodIn_app (goodIn_of _ (by decide +kernel)) ggL_does_X6_tidy
set_option maxRecDepth 20000 in
theorem ggL_does_L_question : GoodIn wsL_does wsL_question := goodIn_r _ [214] (by decide +kernel) (by decide +kernel)
set_option maxRecDepth 20000 in
theorem gL_does_L_question : GoodIn wsL_does (va_wsS RL 42 yL_question wsL_question) := goodIn_app (goodIn_of _ (by decide +kernel)) ggL_does_L_question
set_option maxRecDepth 20000 in
theorem ggL_does_X6_ask : GoodIn wsL_does wsX6_ask := goodIn_ca (goodIn_r _ [218, 29, 13, 219, 220, 9, 221, 11, 12, 46, 47, 48, 49, 50, 51, 52, 53, 54, 55, 56, 57, 58, 59, 60, 17, 61, 19, 37, 62, 63, 64, 65, 66, 67, 68, 69, 70, 71, 72, 222, 223, 224, 225, 226, 227, 228, 229, 230, 199, 200, 201, 231, 107, 108, 109, 232, 152, 153, 154, 155, 156, 157, 158, 159, 160, 161, 162, 163, 164, 165, 88, 15, 16, 18, 166, 167, 168, 169, 170, 171, 172, 173, 174, 175, 42, 43, 44, 45, 176, 177, 178, 233, 234, 235, 236, 237, 238, 239, 240, 241, 242, 243, 254, 255, 256, 244, 245, 246, 247, 248, 249, 250, 251, 252, 253] (by decide +kernel) (by decide +kernel)) (goodIn_sub (fun _ h => List.mem_cons_of_mem _ (List.mem_append_left _ (List.mem_append_left _ (List.mem_append_right _ h)))) (by decide +kernel))
set_option maxRecDepth 20000 in
theorem gL_does_X6_ask : GoodIn wsL_does (wsV RL 45 RX6 yX6_ask wsX6_ask) := goodIn_app (goodIn_of _ (by decide +kernel)) ggL_does_X6_ask
theorem dL_does_0 : decode cL_does 0 = .ok (.iload_n 1, 1) := by decide +kernel
theorem dL_does_1 : decode cL_does 1 = .ok (.iconst 4, 1) := by decide +kernel
theorem dL_does_2 : decode cL_does 2 = .ok (.ishr, 1) := by decide +kernel
theorem dL_does_3 : decode cL_does 3 = .ok (.bipush 6, 2) := by decide +kernel
theorem dL_does_5 : decode cL_does 5 = .ok (.invokestatic 8, 3) := by decide +kernel
theorem dL_does_8 : decode cL_does 8 = .ok (.istore_n 2, 1) := by decide +kernel
theorem dL_does_9 : decode cL_does 9 = .ok (.iload_n 1, 1) := by decide +kernel
theorem dL_does_10 : decode cL_does 10 = .ok (.bipush 15, 2) := by decide +kernel
theorem dL_does_12 : decode cL_does 12 = .ok (.iand, 1) := by decide +kernel
theorem dL_does_13 : decode cL_does 13 = .ok (.tableswitch 135 0 9 #[55, 55, 55, 55, 55, 80, 91, 91, 117, 130], 55) := by decide +kernel
theorem dL_does_68 : decode cL_does 68 = .ok (.aload_n 0, 1) := by decide +kernel
theorem dL_does_69 : decode cL_does 69 = .ok (.iconst 0, 1) := by decide +kernel
theorem dL_does_70 : decode cL_does 70 = .ok (.invokevirtual 14, 3) := by decide +kernel
theorem dL_does_73 : decode cL_does 73 = .ok (.bipush 40, 2) := by decide +kernel
theorem dL_does_75 : decode cL_does 75 = .ok (.if_icmp .ge 16, 3) := by decide +kernel
theorem dL_does_78 : decode cL_does 78 = .ok (.aload_n 0, 1) := by decide +kernel
theorem dL_does_79 : decode cL_does 79 = .ok (.iload_n 1, 1) := by decide +kernel
theorem dL_does_80 : decode cL_does 80 = .ok (.iconst 4, 1) := by decide +kernel
theorem dL_does_81 : decode cL_does 81 = .ok (.ishr, 1) := by decide +kernel
theorem dL_does_82 : decode cL_does 82 = .ok (.invokestatic 20, 3) := by decide +kernel
theorem dL_does_85 : decode cL_does 85 = .ok (.invokevirtual 23, 3) := by decide +kernel
theorem dL_does_88 : decode cL_does 88 = .ok (.goto 4, 3) := by decide +kernel
theorem dL_does_91 : decode cL_does 91 = .ok (.iconst 0, 1) := by decide +kernel
theorem dL_does_92 : decode cL_does 92 = .ok (.ireturn, 1) := by decide +kernel
theorem dL_does_93 : decode cL_does 93 = .ok (.aload_n 0, 1) := by decide +kernel
theorem dL_does_94 : decode cL_does 94 = .ok (.iload_n 1, 1) := by decide +kernel
theorem dL_does_95 : decode cL_does 95 = .ok (.iconst 4, 1) := by decide +kernel
theorem dL_does_96 : decode cL_does 96 = .ok (.ishr, 1) := by decide +kernel
theorem dL_does_97 : decode cL_does 97 = .ok (.invokestatic 20, 3) := by decide +kernel
theorem dL_does_100 : decode cL_does 100 = .ok (.invokevirtual 26, 3) := by decide +kernel
theorem dL_does_103 : decode cL_does 103 = .ok (.ireturn, 1) := by decide +kernel
theorem dL_does_104 : decode cL_does 104 = .ok (.aload_n 0, 1) := by decide +kernel
theorem dL_does_105 : decode cL_does 105 = .ok (.iconst 1, 1) := by decide +kernel
theorem dL_does_106 : decode cL_does 106 = .ok (.invokevirtual 14, 3) := by decide +kernel
theorem dL_does_109 : decode cL_does 109 = .ok (.iload_n 2, 1) := by decide +kernel
theorem dL_does_110 : decode cL_does 110 = .ok (.ishr, 1) := by decide +kernel
theorem dL_does_111 : decode cL_does 111 = .ok (.iconst 1, 1) := by decide +kernel
theorem dL_does_112 : decode cL_does 112 = .ok (.iand, 1) := by decide +kernel
theorem dL_does_113 : decode cL_does 113 = .ok (.ifCond .ne 11, 3) := by decide +kernel
theorem dL_does_116 : decode cL_does 116 = .ok (.aload_n 0, 1) := by decide +kernel
theorem dL_does_117 : decode cL_does 117 = .ok (.iload_n 2, 1) := by decide +kernel
theorem dL_does_118 : decode cL_does 118 = .ok (.invokevirtual 29, 3) := by decide +kernel
theorem dL_does_121 : decode cL_does 121 = .ok (.goto 8, 3) := by decide +kernel
theorem dL_does_124 : decode cL_does 124 = .ok (.aload_n 0, 1) := by decide +kernel
theorem dL_does_125 : decode cL_does 125 = .ok (.iload_n 2, 1) := by decide +kernel
theorem dL_does_126 : decode cL_does 126 = .ok (.invokevirtual 32, 3) := by decide +kernel
theorem dL_does_129 : decode cL_does 129 = .ok (.ireturn, 1) := by decide +kernel
theorem dL_does_130 : decode cL_does 130 = .ok (.aload_n 0, 1) := by decide +kernel
theorem dL_does_131 : decode cL_does 131 = .ok (.iload_n 1, 1) := by decide +kernel
theorem dL_does_132 : decode cL_does 132 = .ok (.iconst 4, 1) := by decide +kernel
theorem dL_does_133 : decode cL_does 133 = .ok (.ishr, 1) := by decide +kernel
theorem dL_does_134 : decode cL_does 134 = .ok (.bipush 12, 2) := by decide +kernel
theorem dL_does_136 : decode cL_does 136 = .ok (.invokestatic 8, 3) := by decide +kernel
theorem dL_does_139 : decode cL_does 139 = .ok (.invokevirtual 35, 3) := by decide +kernel
theorem dL_does_142 : decode cL_does 142 = .ok (.ireturn, 1) := by decide +kernel
theorem dL_does_143 : decode cL_does 143 = .ok (.aload_n 0, 1) := by decide +kernel
theorem dL_does_144 : decode cL_does 144 = .ok (.invokevirtual 38, 3) := by decide +kernel
theorem dL_does_147 : decode cL_does 147 = .ok (.ireturn, 1) := by decide +kernel
theorem dL_does_148 : decode cL_does 148 = .ok (.aload_n 0, 1) := by decide +kernel
theorem dL_does_149 : decode cL_does 149 = .ok (.iload_n 1, 1) := by decide +kernel
theorem dL_does_150 : decode cL_does 150 = .ok (.iconst 4, 1) := by decide +kernel
theorem dL_does_151 : decode cL_does 151 = .ok (.ishr, 1) := by decide +kernel
theorem dL_does_152 : decode cL_does 152 = .ok (.invokestatic 42, 3) := by decide +kernel
theorem dL_does_155 : decode cL_does 155 = .ok (.invokevirtual 45, 3) := by decide +kernel
theorem dL_does_158 : decode cL_does 158 = .ok (.ireturn, 1) := by decide +kernel
theorem dL_bits_0 : decode cL_bits 0 = .ok (.iconst 0, 1) := by decide +kernel
theorem dL_bits_1 : decode cL_bits 1 = .ok (.istore_n 1, 1) := by decide +kernel
theorem dL_bits_2 : decode cL_bits 2 = .ok (.iconst 0, 1) := by decide +kernel
theorem dL_bits_3 : decode cL_bits 3 = .ok (.istore_n 2, 1) := by decide +kernel
theorem dL_bits_4 : decode cL_bits 4 = .ok (.iload_n 2, 1) := by decide +kernel
theorem dL_bits_5 : decode cL_bits 5 = .ok (.bipush 6, 2) := by decide +kernel
theorem dL_bits_7 : decode cL_bits 7 = .ok (.if_icmp .ge 17, 3) := by decide +kernel
theorem dL_bits_10 : decode cL_bits 10 = .ok (.iload_n 1, 1) := by decide +kernel
theorem dL_bits_11 : decode cL_bits 11 = .ok (.iload_n 0, 1) := by decide +kernel
theorem dL_bits_12 : decode cL_bits 12 = .ok (.iload_n 2, 1) := by decide +kernel
theorem dL_bits_13 : decode cL_bits 13 = .ok (.ishr, 1) := by decide +kernel
theorem dL_bits_14 : decode cL_bits 14 = .ok (.iconst 1, 1) := by decide +kernel
theorem dL_bits_15 : decode cL_bits 15 = .ok (.iand, 1) := by decide +kernel
theorem dL_bits_16 : decode cL_bits 16 = .ok (.iadd, 1) := by decide +kernel
theorem dL_bits_17 : decode cL_bits 17 = .ok (.istore_n 1, 1) := by decide +kernel
theorem dL_bits_18 : decode cL_bits 18 = .ok (.iinc 2 1, 3) := by decide +kernel
theorem dL_bits_21 : decode cL_bits 21 = .ok (.goto (-17), 3) := by decide +kernel
theorem dL_bits_24 : decode cL_bits 24 = .ok (.iload_n 1, 1) := by decide +kernel
theorem dL_bits_25 : decode cL_bits 25 = .ok (.ireturn, 1) := by decide +kernel
set_option maxRecDepth 20000 in
theorem ggL_isAnsweredSo_X6_about : GoodIn wsL_isAnsweredSo wsX6_about := goodIn_ca (goodIn_r _ [5, 6, 7, 8, 9, 10, 11, 12, 13, 14, 120, 121, 122, 123, 124, 125, 126, 127, 128, 129, 130, 131, 132, 133, 134, 135, 136] (by decide +kernel) (by decide +kernel)) (goodIn_sub (fun _ h => List.mem_cons_of_mem _ (List.mem_append_left _ (List.mem_append_right _ h))) (by decide +kernel))
set_option maxRecDepth 20000 in
theorem gL_isAnsweredSo_X6_about : GoodIn wsL_isAnsweredSo (wsV RL 14 RX6 yX6_about wsX6_about) := goodIn_app (goodIn_of _ (by decide +kernel)) ggL_isAnsweredSo_X6_about
set_option maxRecDepth 20000 in
theorem ggL_isAnsweredSo_X6_cost : GoodIn wsL_isAnsweredSo wsX6_cost := goodIn_ca (goodIn_ca (goodIn_r _ [18, 8, 19, 20, 4, 21, 6, 7, 22, 23, 24, 25, 26, 27, 28, 29, 30, 31, 32, 12, 33, 14, 34, 35, 36, 37, 38, 39, 40, 41, 42, 43, 44, 45, 46, 47, 48, 49, 50, 51, 52, 53, 54, 55, 56, 57, 58, 10, 11, 13, 59, 60, 61, 62, 63, 64, 65, 66, 67, 68, 69, 70, 71, 72, 73, 74, 75, 76, 77, 120, 121, 122, 123, 124, 125, 126, 127, 128, 129, 130, 131, 132, 133, 134, 135, 136] (by decide +kernel) (by decide +kernel)) (goodIn_sub (fun _ h => List.mem_cons_of_mem _ (List.mem_append_left _ (List.mem_append_right _ h))) (by decide +kernel))) (goodIn_sub (fun _ h => List.mem_cons_of_mem _ (List.mem_append_right _ h)) (by decide +kernel))
set_option maxRecDepth 20000 in
theorem gL_isAnsweredSo_X6_cost : GoodIn wsL_isAnsweredSo (wsV RL 48 RX6 yX6_cost wsX6_cost) := goodIn_app (goodIn_of _ (by decide +kernel)) ggL_isAnsweredSo_X6_cost
set_option maxRecDepth 20000 in
theorem ggL_isAnsweredSo_X6_count : GoodIn wsL_isAnsweredSo wsX6_count := goodIn_ca (goodIn_r _ [81, 8, 19, 20, 4, 21, 6, 7, 82, 66, 67, 12, 68, 14, 69, 70, 71, 72, 73, 74, 75, 76, 120, 121, 122, 123, 124, 125, 126, 127, 128, 129, 130, 131, 132, 133, 134, 135, 136] (by decide +kernel) (by decide +kernel)) (goodIn_sub (fun _ h => List.mem_cons_of_mem _ (List.mem_append_left _ (List.mem_append_right _ h))) (by decide +kernel))
set_option maxRecDepth 20000 in
theorem gL_isAnsweredSo_X6_count : GoodIn wsL_isAnsweredSo (wsV RL 51 RX6 yX6_count wsX6_count) := goodIn_app (goodIn_of _ (by decide +kernel)) ggL_isAnsweredSo_X6_count
set_option maxRecDepth 20000 in
theorem ggL_isAnsweredSo_X6_by : GoodIn wsL_isAnsweredSo wsX6_by := goodIn_ca (goodIn_r _ [86, 8, 19, 20, 4, 21, 6, 7, 87, 88, 89, 12, 90, 14, 38, 39, 40, 41, 42, 43, 44, 45, 46, 47, 48, 49, 50, 51, 52, 53, 54, 55, 56, 57, 58, 10, 11, 13, 59, 60, 61, 62, 63, 64, 65, 66, 67, 68, 69, 70, 71, 72, 73, 74, 75, 76, 120, 121, 122, 123, 124, 125, 126, 127, 128, 129, 130, 131, 132, 133, 134, 135, 136] (by decide +kernel) (by decide +kernel)) (goodIn_sub (fun _ h => List.mem_cons_of_mem _ (List.mem_append_left _ (List.mem_append_right _ h))) (by decide +kernel))
set_option maxRecDepth 20000 in
theorem gL_isAnsweredSo_X6_by : GoodIn wsL_isAnsweredSo (wsV RL 54 RX6 yX6_by wsX6_by) := goodIn_app (goodIn_of _ (by decide +kernel)) ggL_isAnsweredSo_X6_by
set_option maxRecDepth 20000 in
theorem ggL_isAnsweredSo_X6_answer : GoodIn wsL_isAnsweredSo wsX6_answer := goodIn_ca (goodIn_r _ [94, 8, 19, 20, 4, 21, 6, 7, 95, 96, 97, 87, 88, 89, 12, 90, 14, 38, 39, 40, 41, 42, 43, 44, 45, 46, 47, 48, 49, 50, 51, 52, 53, 54, 55, 56, 57, 58, 10, 11, 13, 59, 60, 61, 62, 63, 64, 65, 66, 67, 68, 69, 70, 71, 72, 73, 74, 75, 76, 98, 99, 100, 101, 102, 103, 104, 105, 106, 107, 108, 109, 110, 111, 112, 113, 114, 115, 120, 121, 122, 123, 124, 125, 126, 127, 128, 129, 130, 131, 132, 133, 134, 135, 136] (by decide +kernel) (by decide +kernel)) (goodIn_sub (fun _ h => List.mem_cons_of_mem _ (List.mem_append_left _ (List.mem_append_right _ h))) (by decide +kernel))
set_option maxRecDepth 20000 in
theorem gL_isAnsweredSo_X6_answer : GoodIn wsL_isAnsweredSo (wsV RL 57 RX6 yX6_answer wsX6_answer) := goodIn_app (goodIn_of _ (by decide +kernel)) ggL_isAnsweredSo_X6_answer
set_option maxRecDepth 20000 in
theorem ggL_isAnsweredSo_X6_triple : GoodIn wsL_isAnsweredSo wsX6_triple := goodIn_ca (goodIn_ca (goodIn_r _ [119, 8, 22, 23, 4, 24, 25, 26, 27, 28, 29, 95, 96, 97, 6, 7, 98, 99, 100, 12, 101, 14, 69, 70, 71, 72, 73, 74, 75, 76, 102, 103, 104, 105, 106, 107, 108, 109, 110, 111, 49, 112, 51, 52, 53, 54, 113, 114, 115, 120, 121, 122, 123, 124, 125, 126, 127, 128, 129, 130, 131, 132, 133, 134, 135, 136] (by decide +kernel) (by decide +kernel)) (goodIn_sub (fun _ h => List.mem_cons_of_mem _ (List.mem_append_right _ h)) (by decide +kernel))) (goodIn_sub (fun _ h => List.mem_cons_of_mem _ (List.mem_append_left _ (List.mem_append_right _ h))) (by decide +kernel))
set_option maxRecDepth 20000 in
theorem gL_isAnsweredSo_X6_triple : GoodIn wsL_isAnsweredSo (wsV RL 60 RX6 yX6_triple wsX6_triple) := goodIn_app (goodIn_of _ (by decide +kernel)) ggL_isAnsweredSo_X6_triple
theorem dL_isAnsweredSo_0 : decode cL_isAnsweredSo 0 = .ok (.aload_n 0, 1) := by decide +kernel
theorem dL_isAnsweredSo_1 : decode cL_isAnsweredSo 1 = .ok (.iconst 0, 1) := by decide +kernel
theorem dL_isAnsweredSo_2 : decode cL_isAnsweredSo 2 = .ok (.invokevirtual 14, 3) := by decide +kernel
theorem dL_isAnsweredSo_5 : decode cL_isAnsweredSo 5 = .ok (.istore_n 2, 1) := by decide +kernel
theorem dL_isAnsweredSo_6 : decode cL_isAnsweredSo 6 = .ok (.iload_n 2, 1) := by decide +kernel
theorem dL_isAnsweredSo_7 : decode cL_isAnsweredSo 7 = .ok (.istore_n 3, 1) := by decide +kernel
theorem dL_isAnsweredSo_8 : decode cL_isAnsweredSo 8 = .ok (.iconst (-1), 1) := by decide +kernel
theorem dL_isAnsweredSo_9 : decode cL_isAnsweredSo 9 = .ok (.istore 4, 2) := by decide +kernel
theorem dL_isAnsweredSo_11 : decode cL_isAnsweredSo 11 = .ok (.iconst 0, 1) := by decide +kernel
theorem dL_isAnsweredSo_12 : decode cL_isAnsweredSo 12 = .ok (.istore 5, 2) := by decide +kernel
theorem dL_isAnsweredSo_14 : decode cL_isAnsweredSo 14 = .ok (.iload 5, 2) := by decide +kernel
theorem dL_isAnsweredSo_16 : decode cL_isAnsweredSo 16 = .ok (.bipush 6, 2) := by decide +kernel
theorem dL_isAnsweredSo_18 : decode cL_isAnsweredSo 18 = .ok (.if_icmp .ge 71, 3) := by decide +kernel
theorem dL_isAnsweredSo_21 : decode cL_isAnsweredSo 21 = .ok (.aload_n 0, 1) := by decide +kernel
theorem dL_isAnsweredSo_22 : decode cL_isAnsweredSo 22 = .ok (.iload_n 1, 1) := by decide +kernel
theorem dL_isAnsweredSo_23 : decode cL_isAnsweredSo 23 = .ok (.iload 5, 2) := by decide +kernel
theorem dL_isAnsweredSo_25 : decode cL_isAnsweredSo 25 = .ok (.invokevirtual 48, 3) := by decide +kernel
theorem dL_isAnsweredSo_28 : decode cL_isAnsweredSo 28 = .ok (.istore 6, 2) := by decide +kernel
theorem dL_isAnsweredSo_30 : decode cL_isAnsweredSo 30 = .ok (.aload_n 0, 1) := by decide +kernel
theorem dL_isAnsweredSo_31 : decode cL_isAnsweredSo 31 = .ok (.iconst 1, 1) := by decide +kernel
theorem dL_isAnsweredSo_32 : decode cL_isAnsweredSo 32 = .ok (.invokevirtual 14, 3) := by decide +kernel
theorem dL_isAnsweredSo_35 : decode cL_isAnsweredSo 35 = .ok (.iload 5, 2) := by decide +kernel
theorem dL_isAnsweredSo_37 : decode cL_isAnsweredSo 37 = .ok (.ishr, 1) := by decide +kernel
theorem dL_isAnsweredSo_38 : decode cL_isAnsweredSo 38 = .ok (.iconst 1, 1) := by decide +kernel
theorem dL_isAnsweredSo_39 : decode cL_isAnsweredSo 39 = .ok (.iand, 1) := by decide +kernel
theorem dL_isAnsweredSo_40 : decode cL_isAnsweredSo 40 = .ok (.iconst 1, 1) := by decide +kernel
theorem dL_isAnsweredSo_41 : decode cL_isAnsweredSo 41 = .ok (.if_icmp .ne 13, 3) := by decide +kernel
theorem dL_isAnsweredSo_44 : decode cL_isAnsweredSo 44 = .ok (.iload 6, 2) := by decide +kernel
theorem dL_isAnsweredSo_46 : decode cL_isAnsweredSo 46 = .ok (.iload_n 3, 1) := by decide +kernel
theorem dL_isAnsweredSo_47 : decode cL_isAnsweredSo 47 = .ok (.if_icmp .ge 7, 3) := by decide +kernel
theorem dL_isAnsweredSo_50 : decode cL_isAnsweredSo 50 = .ok (.iconst 1, 1) := by decide +kernel
theorem dL_isAnsweredSo_51 : decode cL_isAnsweredSo 51 = .ok (.goto 4, 3) := by decide +kernel
theorem dL_isAnsweredSo_54 : decode cL_isAnsweredSo 54 = .ok (.iconst 0, 1) := by decide +kernel
theorem dL_isAnsweredSo_55 : decode cL_isAnsweredSo 55 = .ok (.istore 7, 2) := by decide +kernel
theorem dL_isAnsweredSo_57 : decode cL_isAnsweredSo 57 = .ok (.iload 7, 2) := by decide +kernel
theorem dL_isAnsweredSo_59 : decode cL_isAnsweredSo 59 = .ok (.ifCond .eq 8, 3) := by decide +kernel
theorem dL_isAnsweredSo_62 : decode cL_isAnsweredSo 62 = .ok (.iload 5, 2) := by decide +kernel
theorem dL_isAnsweredSo_64 : decode cL_isAnsweredSo 64 = .ok (.goto 5, 3) := by decide +kernel
theorem dL_isAnsweredSo_67 : decode cL_isAnsweredSo 67 = .ok (.iload 4, 2) := by decide +kernel
theorem dL_isAnsweredSo_69 : decode cL_isAnsweredSo 69 = .ok (.istore 4, 2) := by decide +kernel
theorem dL_isAnsweredSo_71 : decode cL_isAnsweredSo 71 = .ok (.iload 7, 2) := by decide +kernel
theorem dL_isAnsweredSo_73 : decode cL_isAnsweredSo 73 = .ok (.ifCond .eq 8, 3) := by decide +kernel
theorem dL_isAnsweredSo_76 : decode cL_isAnsweredSo 76 = .ok (.iload 6, 2) := by decide +kernel
theorem dL_isAnsweredSo_78 : decode cL_isAnsweredSo 78 = .ok (.goto 4, 3) := by decide +kernel
theorem dL_isAnsweredSo_81 : decode cL_isAnsweredSo 81 = .ok (.iload_n 3, 1) := by decide +kernel
theorem dL_isAnsweredSo_82 : decode cL_isAnsweredSo 82 = .ok (.istore_n 3, 1) := by decide +kernel
theorem dL_isAnsweredSo_83 : decode cL_isAnsweredSo 83 = .ok (.iinc 5 1, 3) := by decide +kernel
theorem dL_isAnsweredSo_86 : decode cL_isAnsweredSo 86 = .ok (.goto (-72), 3) := by decide +kernel
theorem dL_isAnsweredSo_89 : decode cL_isAnsweredSo 89 = .ok (.aload_n 0, 1) := by decide +kernel
theorem dL_isAnsweredSo_90 : decode cL_isAnsweredSo 90 = .ok (.iload_n 1, 1) := by decide +kernel
theorem dL_isAnsweredSo_91 : decode cL_isAnsweredSo 91 = .ok (.invokevirtual 51, 3) := by decide +kernel
theorem dL_isAnsweredSo_94 : decode cL_isAnsweredSo 94 = .ok (.istore 5, 2) := by decide +kernel
theorem dL_isAnsweredSo_96 : decode cL_isAnsweredSo 96 = .ok (.aload_n 0, 1) := by decide +kernel
theorem dL_isAnsweredSo_97 : decode cL_isAnsweredSo 97 = .ok (.iload_n 1, 1) := by decide +kernel
theorem dL_isAnsweredSo_98 : decode cL_isAnsweredSo 98 = .ok (.iconst (-1), 1) := by decide +kernel
theorem dL_isAnsweredSo_99 : decode cL_isAnsweredSo 99 = .ok (.invokevirtual 48, 3) := by decide +kernel
theorem dL_isAnsweredSo_102 : decode cL_isAnsweredSo 102 = .ok (.iload_n 3, 1) := by decide +kernel
theorem dL_isAnsweredSo_103 : decode cL_isAnsweredSo 103 = .ok (.if_icmp .ne 24, 3) := by decide +kernel
theorem dL_isAnsweredSo_106 : decode cL_isAnsweredSo 106 = .ok (.aload_n 0, 1) := by decide +kernel
theorem dL_isAnsweredSo_107 : decode cL_isAnsweredSo 107 = .ok (.iload_n 1, 1) := by decide +kernel
theorem dL_isAnsweredSo_108 : decode cL_isAnsweredSo 108 = .ok (.invokevirtual 54, 3) := by decide +kernel
theorem dL_isAnsweredSo_111 : decode cL_isAnsweredSo 111 = .ok (.iload 4, 2) := by decide +kernel
theorem dL_isAnsweredSo_113 : decode cL_isAnsweredSo 113 = .ok (.if_icmp .ne 14, 3) := by decide +kernel
theorem dL_isAnsweredSo_116 : decode cL_isAnsweredSo 116 = .ok (.aload_n 0, 1) := by decide +kernel
theorem dL_isAnsweredSo_117 : decode cL_isAnsweredSo 117 = .ok (.iload_n 1, 1) := by decide +kernel
theorem dL_isAnsweredSo_118 : decode cL_isAnsweredSo 118 = .ok (.iload 5, 2) := by decide +kernel
theorem dL_isAnsweredSo_120 : decode cL_isAnsweredSo 120 = .ok (.invokevirtual 57, 3) := by decide +kernel
theorem dL_isAnsweredSo_123 : decode cL_isAnsweredSo 123 = .ok (.iconst (-1), 1) := by decide +kernel
theorem dL_isAnsweredSo_124 : decode cL_isAnsweredSo 124 = .ok (.if_icmp .eq 5, 3) := by decide +kernel
theorem dL_isAnsweredSo_127 : decode cL_isAnsweredSo 127 = .ok (.iconst 0, 1) := by decide +kernel
theorem dL_isAnsweredSo_128 : decode cL_isAnsweredSo 128 = .ok (.ireturn, 1) := by decide +kernel
theorem dL_isAnsweredSo_129 : decode cL_isAnsweredSo 129 = .ok (.iconst 0, 1) := by decide +kernel
theorem dL_isAnsweredSo_130 : decode cL_isAnsweredSo 130 = .ok (.istore 6, 2) := by decide +kernel
theorem dL_isAnsweredSo_132 : decode cL_isAnsweredSo 132 = .ok (.iconst 0, 1) := by decide +kernel
theorem dL_isAnsweredSo_133 : decode cL_isAnsweredSo 133 = .ok (.istore 7, 2) := by decide +kernel
theorem dL_isAnsweredSo_135 : decode cL_isAnsweredSo 135 = .ok (.iload 7, 2) := by decide +kernel
theorem dL_isAnsweredSo_137 : decode cL_isAnsweredSo 137 = .ok (.iload 5, 2) := by decide +kernel
theorem dL_isAnsweredSo_139 : decode cL_isAnsweredSo 139 = .ok (.if_icmp .ge 56, 3) := by decide +kernel
theorem dL_isAnsweredSo_142 : decode cL_isAnsweredSo 142 = .ok (.aload_n 0, 1) := by decide +kernel
theorem dL_isAnsweredSo_143 : decode cL_isAnsweredSo 143 = .ok (.iload_n 1, 1) := by decide +kernel
theorem dL_isAnsweredSo_144 : decode cL_isAnsweredSo 144 = .ok (.iload 7, 2) := by decide +kernel
theorem dL_isAnsweredSo_146 : decode cL_isAnsweredSo 146 = .ok (.invokevirtual 57, 3) := by decide +kernel
theorem dL_isAnsweredSo_149 : decode cL_isAnsweredSo 149 = .ok (.istore 8, 2) := by decide +kernel
theorem dL_isAnsweredSo_151 : decode cL_isAnsweredSo 151 = .ok (.iload 6, 2) := by decide +kernel
theorem dL_isAnsweredSo_153 : decode cL_isAnsweredSo 153 = .ok (.iload_n 2, 1) := by decide +kernel
theorem dL_isAnsweredSo_154 : decode cL_isAnsweredSo 154 = .ok (.if_icmp .ge 22, 3) := by decide +kernel
theorem dL_isAnsweredSo_157 : decode cL_isAnsweredSo 157 = .ok (.aload_n 0, 1) := by decide +kernel
theorem dL_isAnsweredSo_158 : decode cL_isAnsweredSo 158 = .ok (.iload 4, 2) := by decide +kernel
theorem dL_isAnsweredSo_160 : decode cL_isAnsweredSo 160 = .ok (.iload 6, 2) := by decide +kernel
theorem dL_isAnsweredSo_162 : decode cL_isAnsweredSo 162 = .ok (.invokevirtual 60, 3) := by decide +kernel
theorem dL_isAnsweredSo_165 : decode cL_isAnsweredSo 165 = .ok (.iload 8, 2) := by decide +kernel
theorem dL_isAnsweredSo_167 : decode cL_isAnsweredSo 167 = .ok (.if_icmp .eq 9, 3) := by decide +kernel
theorem dL_isAnsweredSo_170 : decode cL_isAnsweredSo 170 = .ok (.iinc 6 1, 3) := by decide +kernel
theorem dL_isAnsweredSo_173 : decode cL_isAnsweredSo 173 = .ok (.goto (-22), 3) := by decide +kernel
theorem dL_isAnsweredSo_176 : decode cL_isAnsweredSo 176 = .ok (.iload 8, 2) := by decide +kernel
theorem dL_isAnsweredSo_178 : decode cL_isAnsweredSo 178 = .ok (.ifCond .lt 9, 3) := by decide +kernel
theorem dL_isAnsweredSo_181 : decode cL_isAnsweredSo 181 = .ok (.iload 6, 2) := by decide +kernel
theorem dL_isAnsweredSo_183 : decode cL_isAnsweredSo 183 = .ok (.iload_n 2, 1) := by decide +kernel
theorem dL_isAnsweredSo_184 : decode cL_isAnsweredSo 184 = .ok (.if_icmp .ne 5, 3) := by decide +kernel
theorem dL_isAnsweredSo_187 : decode cL_isAnsweredSo 187 = .ok (.iconst 0, 1) := by decide +kernel
theorem dL_isAnsweredSo_188 : decode cL_isAnsweredSo 188 = .ok (.ireturn, 1) := by decide +kernel
theorem dL_isAnsweredSo_189 : decode cL_isAnsweredSo 189 = .ok (.iinc 7 1, 3) := by decide +kernel
theorem dL_isAnsweredSo_192 : decode cL_isAnsweredSo 192 = .ok (.goto (-57), 3) := by decide +kernel
theorem dL_isAnsweredSo_195 : decode cL_isAnsweredSo 195 = .ok (.iconst 1, 1) := by decide +kernel
theorem dL_isAnsweredSo_196 : decode cL_isAnsweredSo 196 = .ok (.ireturn, 1) := by decide +kernel
set_option maxRecDepth 20000 in
theorem ggL_isEnough_X6_about : GoodIn wsL_isEnough wsX6_about := goodIn_ca (goodIn_r _ [5, 6, 7, 8, 9, 10, 11, 12, 13, 14, 51, 52, 53, 54, 55, 56, 57, 58, 59, 60, 61, 62, 63, 64, 65, 66, 67] (by decide +kernel) (by decide +kernel)) (goodIn_sub (fun _ h => List.mem_cons_of_mem _ (List.mem_append_left _ (List.mem_append_right _ h))) (by decide +kernel))
set_option maxRecDepth 20000 in
theorem gL_isEnough_X6_about : GoodIn wsL_isEnough (wsV RL 14 RX6 yX6_about wsX6_about) := goodIn_app (goodIn_of _ (by decide +kernel)) ggL_isEnough_X6_about
set_option maxRecDepth 20000 in
theorem ggL_isEnough_X6_remembered : GoodIn wsL_isEnough wsX6_remembered := goodIn_ca (goodIn_r _ [18, 8, 19, 20, 4, 21, 6, 7, 22, 23, 24, 12, 25, 26, 27, 51, 52, 53, 54, 55, 56, 57, 58, 59, 60, 61, 62, 63, 64, 65, 66, 67] (by decide +kernel) (by decide +kernel)) (goodIn_sub (fun _ h => List.mem_cons_of_mem _ (List.mem_append_left _ (List.mem_append_right _ h))) (by decide +kernel))
set_option maxRecDepth 20000 in
theorem gL_isEnough_X6_remembered : GoodIn wsL_isEnough (wsV RL 63 RX6 yX6_remembered wsX6_remembered) := goodIn_app (goodIn_of _ (by decide +kernel)) ggL_isEnough_X6_remembered
set_option maxRecDepth 20000 in
theorem ggL_isEnough_X6_reach : GoodIn wsL_isEnough wsX6_reach := goodIn_ca (goodIn_ca (goodIn_r _ [31, 32, 33, 4, 34, 6, 7, 35, 36, 37, 38, 39, 40, 41, 42, 43, 44, 45, 46, 47, 48, 49, 50] (by decide +kernel) (by decide +kernel)) (goodIn_sub (fun _ h => List.mem_cons_of_mem _ (List.mem_append_left _ (List.mem_append_right _ h))) (by decide +kernel))) (goodIn_sub (fun _ h => List.mem_cons_of_mem _ (List.mem_append_right _ h)) (by decide +kernel))
set_option maxRecDepth 20000 in
theorem gL_isEnough_X6_reach : GoodIn wsL_isEnough (wsV RL 66 RX6 yX6_reach wsX6_reach) := goodIn_app (goodIn_of _ (by decide +kernel)) ggL_isEnough_X6_reach
theorem dL_isEnough_0 : decode cL_isEnough 0 = .ok (.iconst 1, 1) := by decide +kernel
theorem dL_isEnough_1 : decode cL_isEnough 1 = .ok (.istore_n 2, 1) := by decide +kernel
theorem dL_isEnough_2 : decode cL_isEnough 2 = .ok (.iconst 0, 1) := by decide +kernel
theorem dL_isEnough_3 : decode cL_isEnough 3 = .ok (.istore_n 3, 1) := by decide +kernel
theorem dL_isEnough_4 : decode cL_isEnough 4 = .ok (.iload_n 3, 1) := by decide +kernel
theorem dL_isEnough_5 : decode cL_isEnough 5 = .ok (.aload_n 0, 1) := by decide +kernel
theorem dL_isEnough_6 : decode cL_isEnough 6 = .ok (.bipush 6, 2) := by decide +kernel
theorem dL_isEnough_8 : decode cL_isEnough 8 = .ok (.invokevirtual 14, 3) := by decide +kernel
theorem dL_isEnough_11 : decode cL_isEnough 11 = .ok (.if_icmp .ge 137, 3) := by decide +kernel
theorem dL_isEnough_14 : decode cL_isEnough 14 = .ok (.aload_n 0, 1) := by decide +kernel
theorem dL_isEnough_15 : decode cL_isEnough 15 = .ok (.iload_n 3, 1) := by decide +kernel
theorem dL_isEnough_16 : decode cL_isEnough 16 = .ok (.invokevirtual 63, 3) := by decide +kernel
theorem dL_isEnough_19 : decode cL_isEnough 19 = .ok (.istore 4, 2) := by decide +kernel
theorem dL_isEnough_21 : decode cL_isEnough 21 = .ok (.iload 4, 2) := by decide +kernel
theorem dL_isEnough_23 : decode cL_isEnough 23 = .ok (.bipush 121, 2) := by decide +kernel
theorem dL_isEnough_25 : decode cL_isEnough 25 = .ok (.idiv, 1) := by decide +kernel
theorem dL_isEnough_26 : decode cL_isEnough 26 = .ok (.bipush 10, 2) := by decide +kernel
theorem dL_isEnough_28 : decode cL_isEnough 28 = .ok (.if_icmp .ge 7, 3) := by decide +kernel
theorem dL_isEnough_31 : decode cL_isEnough 31 = .ok (.iconst 1, 1) := by decide +kernel
theorem dL_isEnough_32 : decode cL_isEnough 32 = .ok (.goto 4, 3) := by decide +kernel
theorem dL_isEnough_35 : decode cL_isEnough 35 = .ok (.iconst 0, 1) := by decide +kernel
theorem dL_isEnough_36 : decode cL_isEnough 36 = .ok (.iload 4, 2) := by decide +kernel
theorem dL_isEnough_38 : decode cL_isEnough 38 = .ok (.bipush 11, 2) := by decide +kernel
theorem dL_isEnough_40 : decode cL_isEnough 40 = .ok (.idiv, 1) := by decide +kernel
theorem dL_isEnough_41 : decode cL_isEnough 41 = .ok (.bipush 11, 2) := by decide +kernel
theorem dL_isEnough_43 : decode cL_isEnough 43 = .ok (.irem, 1) := by decide +kernel
theorem dL_isEnough_44 : decode cL_isEnough 44 = .ok (.bipush 10, 2) := by decide +kernel
theorem dL_isEnough_46 : decode cL_isEnough 46 = .ok (.if_icmp .ge 7, 3) := by decide +kernel
theorem dL_isEnough_49 : decode cL_isEnough 49 = .ok (.iconst 1, 1) := by decide +kernel
theorem dL_isEnough_50 : decode cL_isEnough 50 = .ok (.goto 4, 3) := by decide +kernel
theorem dL_isEnough_53 : decode cL_isEnough 53 = .ok (.iconst 0, 1) := by decide +kernel
theorem dL_isEnough_54 : decode cL_isEnough 54 = .ok (.iadd, 1) := by decide +kernel
theorem dL_isEnough_55 : decode cL_isEnough 55 = .ok (.iload 4, 2) := by decide +kernel
theorem dL_isEnough_57 : decode cL_isEnough 57 = .ok (.bipush 11, 2) := by decide +kernel
theorem dL_isEnough_59 : decode cL_isEnough 59 = .ok (.irem, 1) := by decide +kernel
theorem dL_isEnough_60 : decode cL_isEnough 60 = .ok (.bipush 10, 2) := by decide +kernel
theorem dL_isEnough_62 : decode cL_isEnough 62 = .ok (.if_icmp .ge 7, 3) := by decide +kernel
theorem dL_isEnough_65 : decode cL_isEnough 65 = .ok (.iconst 1, 1) := by decide +kernel
theorem dL_isEnough_66 : decode cL_isEnough 66 = .ok (.goto 4, 3) := by decide +kernel
theorem dL_isEnough_69 : decode cL_isEnough 69 = .ok (.iconst 0, 1) := by decide +kernel
theorem dL_isEnough_70 : decode cL_isEnough 70 = .ok (.iadd, 1) := by decide +kernel
theorem dL_isEnough_71 : decode cL_isEnough 71 = .ok (.istore 5, 2) := by decide +kernel
theorem dL_isEnough_73 : decode cL_isEnough 73 = .ok (.iconst 0, 1) := by decide +kernel
theorem dL_isEnough_74 : decode cL_isEnough 74 = .ok (.istore 6, 2) := by decide +kernel
theorem dL_isEnough_76 : decode cL_isEnough 76 = .ok (.iconst 0, 1) := by decide +kernel
theorem dL_isEnough_77 : decode cL_isEnough 77 = .ok (.istore 7, 2) := by decide +kernel
theorem dL_isEnough_79 : decode cL_isEnough 79 = .ok (.iload 7, 2) := by decide +kernel
theorem dL_isEnough_81 : decode cL_isEnough 81 = .ok (.bipush 6, 2) := by decide +kernel
theorem dL_isEnough_83 : decode cL_isEnough 83 = .ok (.if_icmp .ge 44, 3) := by decide +kernel
theorem dL_isEnough_86 : decode cL_isEnough 86 = .ok (.iload 6, 2) := by decide +kernel
theorem dL_isEnough_88 : decode cL_isEnough 88 = .ok (.ifCond .ne 26, 3) := by decide +kernel
theorem dL_isEnough_91 : decode cL_isEnough 91 = .ok (.iload_n 1, 1) := by decide +kernel
theorem dL_isEnough_92 : decode cL_isEnough 92 = .ok (.iload 7, 2) := by decide +kernel
theorem dL_isEnough_94 : decode cL_isEnough 94 = .ok (.ishr, 1) := by decide +kernel
theorem dL_isEnough_95 : decode cL_isEnough 95 = .ok (.iconst 1, 1) := by decide +kernel
theorem dL_isEnough_96 : decode cL_isEnough 96 = .ok (.iand, 1) := by decide +kernel
theorem dL_isEnough_97 : decode cL_isEnough 97 = .ok (.iconst 1, 1) := by decide +kernel
theorem dL_isEnough_98 : decode cL_isEnough 98 = .ok (.if_icmp .ne 20, 3) := by decide +kernel
theorem dL_isEnough_101 : decode cL_isEnough 101 = .ok (.aload_n 0, 1) := by decide +kernel
theorem dL_isEnough_102 : decode cL_isEnough 102 = .ok (.iload 4, 2) := by decide +kernel
theorem dL_isEnough_104 : decode cL_isEnough 104 = .ok (.iload 7, 2) := by decide +kernel
theorem dL_isEnough_106 : decode cL_isEnough 106 = .ok (.invokevirtual 66, 3) := by decide +kernel
theorem dL_isEnough_109 : decode cL_isEnough 109 = .ok (.iload 5, 2) := by decide +kernel
theorem dL_isEnough_111 : decode cL_isEnough 111 = .ok (.if_icmp .ne 7, 3) := by decide +kernel
theorem dL_isEnough_114 : decode cL_isEnough 114 = .ok (.iconst 1, 1) := by decide +kernel
theorem dL_isEnough_115 : decode cL_isEnough 115 = .ok (.goto 4, 3) := by decide +kernel
theorem dL_isEnough_118 : decode cL_isEnough 118 = .ok (.iconst 0, 1) := by decide +kernel
theorem dL_isEnough_119 : decode cL_isEnough 119 = .ok (.istore 6, 2) := by decide +kernel
theorem dL_isEnough_121 : decode cL_isEnough 121 = .ok (.iinc 7 1, 3) := by decide +kernel
theorem dL_isEnough_124 : decode cL_isEnough 124 = .ok (.goto (-45), 3) := by decide +kernel
theorem dL_isEnough_127 : decode cL_isEnough 127 = .ok (.iload_n 2, 1) := by decide +kernel
theorem dL_isEnough_128 : decode cL_isEnough 128 = .ok (.ifCond .eq 12, 3) := by decide +kernel
theorem dL_isEnough_131 : decode cL_isEnough 131 = .ok (.iload 6, 2) := by decide +kernel
theorem dL_isEnough_133 : decode cL_isEnough 133 = .ok (.ifCond .eq 7, 3) := by decide +kernel
theorem dL_isEnough_136 : decode cL_isEnough 136 = .ok (.iconst 1, 1) := by decide +kernel
theorem dL_isEnough_137 : decode cL_isEnough 137 = .ok (.goto 4, 3) := by decide +kernel
theorem dL_isEnough_140 : decode cL_isEnough 140 = .ok (.iconst 0, 1) := by decide +kernel
theorem dL_isEnough_141 : decode cL_isEnough 141 = .ok (.istore_n 2, 1) := by decide +kernel
theorem dL_isEnough_142 : decode cL_isEnough 142 = .ok (.iinc 3 1, 3) := by decide +kernel
theorem dL_isEnough_145 : decode cL_isEnough 145 = .ok (.goto (-141), 3) := by decide +kernel
theorem dL_isEnough_148 : decode cL_isEnough 148 = .ok (.iload_n 2, 1) := by decide +kernel
theorem dL_isEnough_149 : decode cL_isEnough 149 = .ok (.ireturn, 1) := by decide +kernel
set_option maxRecDepth 20000 in
theorem ggL_isAdviceSo_X6_about : GoodIn wsL_isAdviceSo wsX6_about := goodIn_ca (goodIn_r _ [5, 6, 7, 8, 9, 10, 11, 12, 13, 14, 176, 177, 178, 179, 180, 181, 182, 183, 184, 185, 186, 187, 188, 189, 190, 191, 192] (by decide +kernel) (by decide +kernel)) (goodIn_sub (fun _ h => List.mem_cons_of_mem _ (List.mem_append_left _ (List.mem_append_right _ h))) (by decide +kernel))
set_option maxRecDepth 20000 in
theorem gL_isAdviceSo_X6_about : GoodIn wsL_isAdviceSo (wsV RL 14 RX6 yX6_about wsX6_about) := goodIn_app (goodIn_of _ (by decide +kernel)) ggL_isAdviceSo_X6_about
set_option maxRecDepth 20000 in
theorem ggL_isAdviceSo_X6_weight : GoodIn wsL_isAdviceSo wsX6_weight := goodIn_r _ [18, 8, 176, 177, 178, 179, 180, 181, 182, 183, 184, 185, 186, 187, 188, 189, 190, 191, 192] (by decide +kernel) (by decide +kernel)
set_option maxRecDepth 20000 in
theorem gL_isAdviceSo_X6_weight : GoodIn wsL_isAdviceSo (wsV RL 69 RX6 yX6_weight wsX6_weight) := goodIn_app (goodIn_of _ (by decide +kernel)) ggL_isAdviceSo_X6_weight
set_option maxRecDepth 20000 in
theorem ggL_isAdviceSo_X6_advised : GoodIn wsL_isAdviceSo wsX6_advised := goodIn_r _ [22, 23, 8, 24, 25, 26, 27, 28, 29, 30, 31, 32, 33, 34, 35, 10, 11, 12, 13, 14, 36, 37, 38, 39, 40, 41, 42, 43, 44, 45, 46, 47, 48, 49, 50, 51, 52, 53, 54, 55, 56, 57, 58, 59, 60, 61, 62, 63, 64, 65, 66, 67, 68, 69, 70, 71, 72, 73, 74, 75, 76, 77, 78, 79, 80, 81, 82, 83, 84, 85, 86, 87, 88, 89, 90, 91, 92, 93, 94, 95, 96, 97, 98, 99, 100, 101, 102, 176, 177, 178, 179, 180, 181, 182, 183, 184, 185, 186, 187, 188, 189, 190, 191, 192, 193, 194, 195, 196, 197, 198] (by decide +kernel) (by decide +kernel)
set_option maxRecDepth 20000 in
theorem gL_isAdviceSo_X6_advised : GoodIn wsL_isAdviceSo (wsV RL 72 RX6 yX6_advised wsX6_advised) := goodIn_app (goodIn_of _ (by decide +kernel)) ggL_isAdviceSo_X6_advised
set_option maxRecDepth 20000 in
theorem ggL_isAdviceSo_X6_spare : GoodIn wsL_isAdviceSo wsX6_spare := goodIn_r _ [106, 23, 8, 24, 25, 26, 27, 28, 29, 30, 31, 32, 33, 34, 35, 10, 11, 12, 13, 14, 36, 37, 38, 39, 40, 41, 42, 43, 44, 45, 46, 47, 48, 49, 50, 51, 52, 53, 54, 55, 56, 57, 58, 59, 60, 61, 62, 63, 64, 65, 66, 67, 68, 69, 70, 71, 72, 73, 74, 75, 76, 77, 78, 79, 80, 81, 82, 107, 108, 109, 110, 87, 88, 89, 90, 91, 92, 93, 94, 95, 96, 97, 98, 99, 100, 101, 102, 176, 177, 178, 179, 180, 181, 182, 183, 184, 185, 186, 187, 188, 189, 190, 191, 192, 193, 194, 195, 196, 197, 198] (by decide +kernel) (by decide +kernel)
set_option maxRecDepth 20000 in
theorem gL_isAdviceSo_X6_spare : GoodIn wsL_isAdviceSo (wsV RL 75 RX6 yX6_spare wsX6_spare) := goodIn_app (goodIn_of _ (by decide +kernel)) ggL_isAdviceSo_X6_spare
set_option maxRecDepth 20000 in
theorem ggL_isAdviceSo_X6_ifKept : GoodIn wsL_isAdviceSo wsX6_ifKept := goodIn_ca (goodIn_r _ [114, 6, 7, 23, 8, 24, 25, 26, 27, 28, 29, 30, 31, 32, 33, 34, 35, 10, 11, 12, 13, 14, 36, 37, 38, 39, 40, 41, 42, 43, 44, 45, 46, 47, 48, 49, 50, 51, 52, 53, 54, 55, 56, 57, 58, 59, 60, 61, 62, 63, 64, 65, 66, 67, 68, 69, 70, 71, 72, 73, 74, 75, 76, 77, 78, 79, 80, 81, 82, 115, 92, 93, 94, 95, 96, 97, 98, 99, 100, 101, 102, 176, 177, 178, 179, 180, 181, 182, 183, 184, 185, 186, 187, 188, 189, 190, 191, 192, 193, 194, 195, 196, 197, 198] (by decide +kernel) (by decide +kernel)) (goodIn_sub (fun _ h => List.mem_cons_of_mem _ (List.mem_append_left _ (List.mem_append_right _ h))) (by decide +kernel))
set_option maxRecDepth 20000 in
theorem gL_isAdviceSo_X6_ifKept : GoodIn wsL_isAdviceSo (wsV RL 78 RX6 yX6_ifKept wsX6_ifKept) := goodIn_app (goodIn_of _ (by decide +kernel)) ggL_isAdviceSo_X6_ifKept
set_option maxRecDepth 20000 in
theorem ggL_isAdviceSo_X6_value : GoodIn wsL_isAdviceSo wsX6_value := goodIn_ca (goodIn_r _ [119, 23, 8, 120, 121, 4, 122, 123, 124, 24, 25, 26, 27, 28, 29, 30, 31, 32, 33, 34, 35, 10, 11, 12, 13, 14, 36, 37, 38, 39, 40, 41, 42, 43, 44, 45, 46, 47, 48, 49, 50, 51, 52, 53, 54, 55, 56, 57, 58, 59, 60, 61, 62, 63, 64, 65, 66, 67, 68, 69, 70, 71, 72, 73, 74, 75, 76, 77, 78, 79, 80, 81, 82, 125, 88, 89, 90, 91, 92, 93, 94, 95, 96, 97, 98, 99, 100, 101, 102, 176, 177, 178, 179, 180, 181, 182, 183, 184, 185, 186, 187, 188, 189, 190, 191, 192, 193, 194, 195, 196, 197, 198] (by decide +kernel) (by decide +kernel)) (goodIn_sub (fun _ h => List.mem_cons_of_mem _ (List.mem_append_right _ h)) (by decide +kernel))
set_option maxRecDepth 20000 in
theorem gL_isAdviceSo_X6_value : GoodIn wsL_isAdviceSo (wsV RL 81 RX6 yX6_value wsX6_value) := goodIn_app (goodIn_of _ (by decide +kernel)) ggL_isAdviceSo_X6_value
set_option maxRecDepth 20000 in
theorem ggL_isAdviceSo_X6_bestSet : GoodIn wsL_isAdviceSo wsX6_bestSet := goodIn_r _ [129, 23, 8, 24, 25, 26, 27, 28, 29, 30, 31, 32, 33, 34, 35, 10, 11, 12, 13, 14, 36, 37, 38, 39, 40, 41, 42, 43, 44, 45, 46, 47, 48, 49, 50, 51, 52, 53, 54, 55, 56, 57, 58, 59, 60, 61, 62, 63, 64, 65, 66, 67, 68, 69, 70, 71, 72, 73, 74, 75, 76, 77, 78, 79, 80, 81, 82, 130, 131, 132, 133, 91, 92, 93, 94, 95, 96, 97, 98, 99, 100, 101, 102, 134, 135, 136, 137, 138, 139, 140, 176, 177, 178, 179, 180, 181, 182, 183, 184, 185, 186, 187, 188, 189, 190, 191, 192, 193, 194, 195, 196, 197, 198] (by decide +kernel) (by decide +kernel)
set_option maxRecDepth 20000 in
theorem gL_isAdviceSo_X6_bestSet : GoodIn wsL_isAdviceSo (wsV RL 84 RX6 yX6_bestSet wsX6_bestSet) := goodIn_app (goodIn_of _ (by decide +kernel)) ggL_isAdviceSo_X6_bestSet
set_option maxRecDepth 20000 in
theorem ggL_isAdviceSo_L_bits : GoodIn wsL_isAdviceSo wsL_bits := goodIn_r _ [144] (by decide +kernel) (by decide +kernel)
set_option maxRecDepth 20000 in
theorem gL_isAdviceSo_L_bits : GoodIn wsL_isAdviceSo (va_wsS RL 87 yL_bits wsL_bits) := goodIn_app (goodIn_of _ (by decide +kernel)) ggL_isAdviceSo_L_bits
set_option maxRecDepth 20000 in
theorem ggL_isAdviceSo_X6_needed : GoodIn wsL_isAdviceSo wsX6_needed := goodIn_r _ [148, 23, 8, 24, 25, 26, 27, 28, 29, 30, 31, 32, 33, 34, 35, 10, 11, 12, 13, 14, 36, 37, 38, 39, 40, 41, 42, 43, 44, 45, 46, 47, 48, 49, 50, 51, 52, 53, 54, 55, 56, 57, 58, 59, 60, 61, 62, 63, 64, 65, 66, 67, 68, 69, 70, 71, 72, 73, 74, 75, 76, 77, 78, 79, 80, 81, 82, 149, 150, 151, 152, 134, 135, 136, 137, 138, 139, 140, 153, 154, 155, 156, 176, 177, 178, 179, 180, 181, 182, 183, 184, 185, 186, 187, 188, 189, 190, 191, 192, 193, 194, 195, 196, 197, 198] (by decide +kernel) (by decide +kernel)
set_option maxRecDepth 20000 in
theorem gL_isAdviceSo_X6_needed : GoodIn wsL_isAdviceSo (wsV RL 90 RX6 yX6_needed wsX6_needed) := goodIn_app (goodIn_of _ (by decide +kernel)) ggL_isAdviceSo_X6_needed
set_option maxRecDepth 20000 in
theorem ggL_isAdviceSo_L_isEnough : GoodIn wsL_isAdviceSo wsL_isEnough := goodIn_ca (goodIn_ca (goodIn_r _ [159, 1, 2, 3, 4, 5, 6, 7, 8, 9, 10, 11, 12, 13, 14, 160, 161, 162, 163, 164, 165, 166, 167, 37, 38, 39, 40, 41, 168, 169, 170, 171, 172, 173, 174, 120, 121, 122, 123, 124, 175, 47, 48, 49, 50, 51, 52, 53, 54, 55, 56, 176, 177, 178, 179, 180, 181, 182, 183, 184, 185, 186, 187, 188, 189, 190, 191, 192] (by decide +kernel) (by decide +kernel)) (goodIn_sub (fun _ h => List.mem_cons_of_mem _ (List.mem_append_left _ (List.mem_append_right _ h))) (by decide +kernel))) (goodIn_sub (fun _ h => List.mem_cons_of_mem _ (List.mem_append_right _ h)) (by decide +kernel))
set_option maxRecDepth 20000 in
theorem gL_isAdviceSo_L_isEnough : GoodIn wsL_isAdviceSo (va_wsS RL 93 yL_isEnough wsL_isEnough) := goodIn_app (goodIn_of _ (by decide +kernel)) ggL_isAdviceSo_L_isEnough
theorem dL_isAdviceSo_0 : decode cL_isAdviceSo 0 = .ok (.aload_n 0, 1) := by decide +kernel
theorem dL_isAdviceSo_1 : decode cL_isAdviceSo 1 = .ok (.iconst 1, 1) := by decide +kernel
theorem dL_isAdviceSo_2 : decode cL_isAdviceSo 2 = .ok (.invokevirtual 14, 3) := by decide +kernel
theorem dL_isAdviceSo_5 : decode cL_isAdviceSo 5 = .ok (.istore_n 2, 1) := by decide +kernel
theorem dL_isAdviceSo_6 : decode cL_isAdviceSo 6 = .ok (.aload_n 0, 1) := by decide +kernel
theorem dL_isAdviceSo_7 : decode cL_isAdviceSo 7 = .ok (.invokevirtual 69, 3) := by decide +kernel
theorem dL_isAdviceSo_10 : decode cL_isAdviceSo 10 = .ok (.aload_n 0, 1) := by decide +kernel
theorem dL_isAdviceSo_11 : decode cL_isAdviceSo 11 = .ok (.bipush 7, 2) := by decide +kernel
theorem dL_isAdviceSo_13 : decode cL_isAdviceSo 13 = .ok (.invokevirtual 14, 3) := by decide +kernel
theorem dL_isAdviceSo_16 : decode cL_isAdviceSo 16 = .ok (.iconst 1, 1) := by decide +kernel
theorem dL_isAdviceSo_17 : decode cL_isAdviceSo 17 = .ok (.iadd, 1) := by decide +kernel
theorem dL_isAdviceSo_18 : decode cL_isAdviceSo 18 = .ok (.imul, 1) := by decide +kernel
theorem dL_isAdviceSo_19 : decode cL_isAdviceSo 19 = .ok (.istore_n 3, 1) := by decide +kernel
theorem dL_isAdviceSo_20 : decode cL_isAdviceSo 20 = .ok (.aload_n 0, 1) := by decide +kernel
theorem dL_isAdviceSo_21 : decode cL_isAdviceSo 21 = .ok (.invokevirtual 72, 3) := by decide +kernel
theorem dL_isAdviceSo_24 : decode cL_isAdviceSo 24 = .ok (.istore 4, 2) := by decide +kernel
theorem dL_isAdviceSo_26 : decode cL_isAdviceSo 26 = .ok (.aload_n 0, 1) := by decide +kernel
theorem dL_isAdviceSo_27 : decode cL_isAdviceSo 27 = .ok (.invokevirtual 75, 3) := by decide +kernel
theorem dL_isAdviceSo_30 : decode cL_isAdviceSo 30 = .ok (.istore 5, 2) := by decide +kernel
theorem dL_isAdviceSo_32 : decode cL_isAdviceSo 32 = .ok (.aload_n 0, 1) := by decide +kernel
end
section
theorem dL_isAdviceSo_33 : decode cL_isAdviceSo 33 = .ok (.iload_n 2, 1) := by decide +kernel
theorem dL_isAdviceSo_34 : decode cL_isAdviceSo 34 = .ok (.invokevirtual 78, 3) := by decide +kernel
theorem dL_isAdviceSo_37 : decode cL_isAdviceSo 37 = .ok (.istore 6, 2) := by decide +kernel
theorem dL_isAdviceSo_39 : decode cL_isAdviceSo 39 = .ok (.iload 4, 2) := by decide +kernel
theorem dL_isAdviceSo_41 : decode cL_isAdviceSo 41 = .ok (.iconst (-1), 1) := by decide +kernel
theorem dL_isAdviceSo_42 : decode cL_isAdviceSo 42 = .ok (.if_icmp .eq 21, 3) := by decide +kernel
theorem dL_isAdviceSo_45 : decode cL_isAdviceSo 45 = .ok (.iload_n 2, 1) := by decide +kernel
theorem dL_isAdviceSo_46 : decode cL_isAdviceSo 46 = .ok (.iload 4, 2) := by decide +kernel
theorem dL_isAdviceSo_48 : decode cL_isAdviceSo 48 = .ok (.ishr, 1) := by decide +kernel
theorem dL_isAdviceSo_49 : decode cL_isAdviceSo 49 = .ok (.iconst 1, 1) := by decide +kernel
theorem dL_isAdviceSo_50 : decode cL_isAdviceSo 50 = .ok (.iand, 1) := by decide +kernel
theorem dL_isAdviceSo_51 : decode cL_isAdviceSo 51 = .ok (.ifCond .ne 16, 3) := by decide +kernel
theorem dL_isAdviceSo_54 : decode cL_isAdviceSo 54 = .ok (.aload_n 0, 1) := by decide +kernel
theorem dL_isAdviceSo_55 : decode cL_isAdviceSo 55 = .ok (.iload 4, 2) := by decide +kernel
theorem dL_isAdviceSo_57 : decode cL_isAdviceSo 57 = .ok (.invokevirtual 81, 3) := by decide +kernel
theorem dL_isAdviceSo_60 : decode cL_isAdviceSo 60 = .ok (.ifCond .le 7, 3) := by decide +kernel
theorem dL_isAdviceSo_63 : decode cL_isAdviceSo 63 = .ok (.iconst 1, 1) := by decide +kernel
theorem dL_isAdviceSo_64 : decode cL_isAdviceSo 64 = .ok (.goto 4, 3) := by decide +kernel
theorem dL_isAdviceSo_67 : decode cL_isAdviceSo 67 = .ok (.iconst 0, 1) := by decide +kernel
theorem dL_isAdviceSo_68 : decode cL_isAdviceSo 68 = .ok (.istore 7, 2) := by decide +kernel
theorem dL_isAdviceSo_70 : decode cL_isAdviceSo 70 = .ok (.iload 7, 2) := by decide +kernel
theorem dL_isAdviceSo_72 : decode cL_isAdviceSo 72 = .ok (.ifCond .eq 32, 3) := by decide +kernel
theorem dL_isAdviceSo_75 : decode cL_isAdviceSo 75 = .ok (.iload 5, 2) := by decide +kernel
theorem dL_isAdviceSo_77 : decode cL_isAdviceSo 77 = .ok (.iconst (-1), 1) := by decide +kernel
theorem dL_isAdviceSo_78 : decode cL_isAdviceSo 78 = .ok (.if_icmp .eq 22, 3) := by decide +kernel
theorem dL_isAdviceSo_81 : decode cL_isAdviceSo 81 = .ok (.iload_n 2, 1) := by decide +kernel
theorem dL_isAdviceSo_82 : decode cL_isAdviceSo 82 = .ok (.iload 5, 2) := by decide +kernel
theorem dL_isAdviceSo_84 : decode cL_isAdviceSo 84 = .ok (.ishr, 1) := by decide +kernel
theorem dL_isAdviceSo_85 : decode cL_isAdviceSo 85 = .ok (.iconst 1, 1) := by decide +kernel
theorem dL_isAdviceSo_86 : decode cL_isAdviceSo 86 = .ok (.iand, 1) := by decide +kernel
theorem dL_isAdviceSo_87 : decode cL_isAdviceSo 87 = .ok (.iconst 1, 1) := by decide +kernel
theorem dL_isAdviceSo_88 : decode cL_isAdviceSo 88 = .ok (.if_icmp .ne 16, 3) := by decide +kernel
theorem dL_isAdviceSo_91 : decode cL_isAdviceSo 91 = .ok (.aload_n 0, 1) := by decide +kernel
theorem dL_isAdviceSo_92 : decode cL_isAdviceSo 92 = .ok (.iload 5, 2) := by decide +kernel
theorem dL_isAdviceSo_94 : decode cL_isAdviceSo 94 = .ok (.invokevirtual 81, 3) := by decide +kernel
theorem dL_isAdviceSo_97 : decode cL_isAdviceSo 97 = .ok (.ifCond .ge 7, 3) := by decide +kernel
theorem dL_isAdviceSo_100 : decode cL_isAdviceSo 100 = .ok (.iconst 1, 1) := by decide +kernel
theorem dL_isAdviceSo_101 : decode cL_isAdviceSo 101 = .ok (.goto 4, 3) := by decide +kernel
theorem dL_isAdviceSo_104 : decode cL_isAdviceSo 104 = .ok (.iconst 0, 1) := by decide +kernel
theorem dL_isAdviceSo_105 : decode cL_isAdviceSo 105 = .ok (.istore 7, 2) := by decide +kernel
theorem dL_isAdviceSo_107 : decode cL_isAdviceSo 107 = .ok (.iconst 0, 1) := by decide +kernel
theorem dL_isAdviceSo_108 : decode cL_isAdviceSo 108 = .ok (.istore 8, 2) := by decide +kernel
theorem dL_isAdviceSo_110 : decode cL_isAdviceSo 110 = .ok (.iload 8, 2) := by decide +kernel
theorem dL_isAdviceSo_112 : decode cL_isAdviceSo 112 = .ok (.bipush 6, 2) := by decide +kernel
theorem dL_isAdviceSo_114 : decode cL_isAdviceSo 114 = .ok (.if_icmp .ge 163, 3) := by decide +kernel
theorem dL_isAdviceSo_117 : decode cL_isAdviceSo 117 = .ok (.iload_n 2, 1) := by decide +kernel
theorem dL_isAdviceSo_118 : decode cL_isAdviceSo 118 = .ok (.iload 8, 2) := by decide +kernel
theorem dL_isAdviceSo_120 : decode cL_isAdviceSo 120 = .ok (.ishr, 1) := by decide +kernel
theorem dL_isAdviceSo_121 : decode cL_isAdviceSo 121 = .ok (.iconst 1, 1) := by decide +kernel
theorem dL_isAdviceSo_122 : decode cL_isAdviceSo 122 = .ok (.iand, 1) := by decide +kernel
theorem dL_isAdviceSo_123 : decode cL_isAdviceSo 123 = .ok (.iconst 1, 1) := by decide +kernel
theorem dL_isAdviceSo_124 : decode cL_isAdviceSo 124 = .ok (.if_icmp .ne 7, 3) := by decide +kernel
theorem dL_isAdviceSo_127 : decode cL_isAdviceSo 127 = .ok (.iconst 1, 1) := by decide +kernel
theorem dL_isAdviceSo_128 : decode cL_isAdviceSo 128 = .ok (.goto 4, 3) := by decide +kernel
theorem dL_isAdviceSo_131 : decode cL_isAdviceSo 131 = .ok (.iconst 0, 1) := by decide +kernel
theorem dL_isAdviceSo_132 : decode cL_isAdviceSo 132 = .ok (.istore 9, 2) := by decide +kernel
theorem dL_isAdviceSo_134 : decode cL_isAdviceSo 134 = .ok (.aload_n 0, 1) := by decide +kernel
theorem dL_isAdviceSo_135 : decode cL_isAdviceSo 135 = .ok (.iload 8, 2) := by decide +kernel
theorem dL_isAdviceSo_137 : decode cL_isAdviceSo 137 = .ok (.invokevirtual 81, 3) := by decide +kernel
theorem dL_isAdviceSo_140 : decode cL_isAdviceSo 140 = .ok (.istore 10, 2) := by decide +kernel
theorem dL_isAdviceSo_142 : decode cL_isAdviceSo 142 = .ok (.aload_n 0, 1) := by decide +kernel
theorem dL_isAdviceSo_143 : decode cL_isAdviceSo 143 = .ok (.iload 9, 2) := by decide +kernel
theorem dL_isAdviceSo_145 : decode cL_isAdviceSo 145 = .ok (.ifCond .eq 14, 3) := by decide +kernel
theorem dL_isAdviceSo_148 : decode cL_isAdviceSo 148 = .ok (.iload_n 2, 1) := by decide +kernel
theorem dL_isAdviceSo_149 : decode cL_isAdviceSo 149 = .ok (.iconst 1, 1) := by decide +kernel
theorem dL_isAdviceSo_150 : decode cL_isAdviceSo 150 = .ok (.iload 8, 2) := by decide +kernel
theorem dL_isAdviceSo_152 : decode cL_isAdviceSo 152 = .ok (.ishl, 1) := by decide +kernel
theorem dL_isAdviceSo_153 : decode cL_isAdviceSo 153 = .ok (.iconst (-1), 1) := by decide +kernel
theorem dL_isAdviceSo_154 : decode cL_isAdviceSo 154 = .ok (.ixor, 1) := by decide +kernel
theorem dL_isAdviceSo_155 : decode cL_isAdviceSo 155 = .ok (.iand, 1) := by decide +kernel
theorem dL_isAdviceSo_156 : decode cL_isAdviceSo 156 = .ok (.goto 9, 3) := by decide +kernel
theorem dL_isAdviceSo_159 : decode cL_isAdviceSo 159 = .ok (.iload_n 2, 1) := by decide +kernel
theorem dL_isAdviceSo_160 : decode cL_isAdviceSo 160 = .ok (.iconst 1, 1) := by decide +kernel
theorem dL_isAdviceSo_161 : decode cL_isAdviceSo 161 = .ok (.iload 8, 2) := by decide +kernel
theorem dL_isAdviceSo_163 : decode cL_isAdviceSo 163 = .ok (.ishl, 1) := by decide +kernel
theorem dL_isAdviceSo_164 : decode cL_isAdviceSo 164 = .ok (.ior, 1) := by decide +kernel
theorem dL_isAdviceSo_165 : decode cL_isAdviceSo 165 = .ok (.invokevirtual 78, 3) := by decide +kernel
theorem dL_isAdviceSo_168 : decode cL_isAdviceSo 168 = .ok (.istore 11, 2) := by decide +kernel
theorem dL_isAdviceSo_170 : decode cL_isAdviceSo 170 = .ok (.iload 7, 2) := by decide +kernel
theorem dL_isAdviceSo_172 : decode cL_isAdviceSo 172 = .ok (.ifCond .eq 32, 3) := by decide +kernel
theorem dL_isAdviceSo_175 : decode cL_isAdviceSo 175 = .ok (.iload 10, 2) := by decide +kernel
theorem dL_isAdviceSo_177 : decode cL_isAdviceSo 177 = .ok (.iload 9, 2) := by decide +kernel
theorem dL_isAdviceSo_179 : decode cL_isAdviceSo 179 = .ok (.ifCond .eq 11, 3) := by decide +kernel
theorem dL_isAdviceSo_182 : decode cL_isAdviceSo 182 = .ok (.iload 11, 2) := by decide +kernel
theorem dL_isAdviceSo_184 : decode cL_isAdviceSo 184 = .ok (.iload 6, 2) := by decide +kernel
theorem dL_isAdviceSo_186 : decode cL_isAdviceSo 186 = .ok (.isub, 1) := by decide +kernel
theorem dL_isAdviceSo_187 : decode cL_isAdviceSo 187 = .ok (.goto 8, 3) := by decide +kernel
theorem dL_isAdviceSo_190 : decode cL_isAdviceSo 190 = .ok (.iload 6, 2) := by decide +kernel
theorem dL_isAdviceSo_192 : decode cL_isAdviceSo 192 = .ok (.iload 11, 2) := by decide +kernel
theorem dL_isAdviceSo_194 : decode cL_isAdviceSo 194 = .ok (.isub, 1) := by decide +kernel
theorem dL_isAdviceSo_195 : decode cL_isAdviceSo 195 = .ok (.iload_n 3, 1) := by decide +kernel
theorem dL_isAdviceSo_196 : decode cL_isAdviceSo 196 = .ok (.isub, 1) := by decide +kernel
theorem dL_isAdviceSo_197 : decode cL_isAdviceSo 197 = .ok (.if_icmp .ne 7, 3) := by decide +kernel
theorem dL_isAdviceSo_200 : decode cL_isAdviceSo 200 = .ok (.iconst 1, 1) := by decide +kernel
theorem dL_isAdviceSo_201 : decode cL_isAdviceSo 201 = .ok (.goto 4, 3) := by decide +kernel
theorem dL_isAdviceSo_204 : decode cL_isAdviceSo 204 = .ok (.iconst 0, 1) := by decide +kernel
theorem dL_isAdviceSo_205 : decode cL_isAdviceSo 205 = .ok (.istore 7, 2) := by decide +kernel
theorem dL_isAdviceSo_207 : decode cL_isAdviceSo 207 = .ok (.iload 7, 2) := by decide +kernel
theorem dL_isAdviceSo_209 : decode cL_isAdviceSo 209 = .ok (.ifCond .eq 59, 3) := by decide +kernel
theorem dL_isAdviceSo_212 : decode cL_isAdviceSo 212 = .ok (.iload 9, 2) := by decide +kernel
theorem dL_isAdviceSo_214 : decode cL_isAdviceSo 214 = .ok (.ifCond .eq 28, 3) := by decide +kernel
theorem dL_isAdviceSo_217 : decode cL_isAdviceSo 217 = .ok (.iload 10, 2) := by decide +kernel
theorem dL_isAdviceSo_219 : decode cL_isAdviceSo 219 = .ok (.ifCond .ge 45, 3) := by decide +kernel
theorem dL_isAdviceSo_222 : decode cL_isAdviceSo 222 = .ok (.iload 5, 2) := by decide +kernel
theorem dL_isAdviceSo_224 : decode cL_isAdviceSo 224 = .ok (.iconst (-1), 1) := by decide +kernel
theorem dL_isAdviceSo_225 : decode cL_isAdviceSo 225 = .ok (.if_icmp .eq 43, 3) := by decide +kernel
theorem dL_isAdviceSo_228 : decode cL_isAdviceSo 228 = .ok (.aload_n 0, 1) := by decide +kernel
theorem dL_isAdviceSo_229 : decode cL_isAdviceSo 229 = .ok (.iload 5, 2) := by decide +kernel
theorem dL_isAdviceSo_231 : decode cL_isAdviceSo 231 = .ok (.invokevirtual 81, 3) := by decide +kernel
theorem dL_isAdviceSo_234 : decode cL_isAdviceSo 234 = .ok (.iload 10, 2) := by decide +kernel
theorem dL_isAdviceSo_236 : decode cL_isAdviceSo 236 = .ok (.if_icmp .gt 32, 3) := by decide +kernel
theorem dL_isAdviceSo_239 : decode cL_isAdviceSo 239 = .ok (.goto 25, 3) := by decide +kernel
theorem dL_isAdviceSo_242 : decode cL_isAdviceSo 242 = .ok (.iload 10, 2) := by decide +kernel
theorem dL_isAdviceSo_244 : decode cL_isAdviceSo 244 = .ok (.ifCond .le 20, 3) := by decide +kernel
theorem dL_isAdviceSo_247 : decode cL_isAdviceSo 247 = .ok (.iload 4, 2) := by decide +kernel
theorem dL_isAdviceSo_249 : decode cL_isAdviceSo 249 = .ok (.iconst (-1), 1) := by decide +kernel
theorem dL_isAdviceSo_250 : decode cL_isAdviceSo 250 = .ok (.if_icmp .eq 18, 3) := by decide +kernel
theorem dL_isAdviceSo_253 : decode cL_isAdviceSo 253 = .ok (.aload_n 0, 1) := by decide +kernel
theorem dL_isAdviceSo_254 : decode cL_isAdviceSo 254 = .ok (.iload 4, 2) := by decide +kernel
theorem dL_isAdviceSo_256 : decode cL_isAdviceSo 256 = .ok (.invokevirtual 81, 3) := by decide +kernel
theorem dL_isAdviceSo_259 : decode cL_isAdviceSo 259 = .ok (.iload 10, 2) := by decide +kernel
theorem dL_isAdviceSo_261 : decode cL_isAdviceSo 261 = .ok (.if_icmp .lt 7, 3) := by decide +kernel
theorem dL_isAdviceSo_264 : decode cL_isAdviceSo 264 = .ok (.iconst 1, 1) := by decide +kernel
theorem dL_isAdviceSo_265 : decode cL_isAdviceSo 265 = .ok (.goto 4, 3) := by decide +kernel
theorem dL_isAdviceSo_268 : decode cL_isAdviceSo 268 = .ok (.iconst 0, 1) := by decide +kernel
theorem dL_isAdviceSo_269 : decode cL_isAdviceSo 269 = .ok (.istore 7, 2) := by decide +kernel
theorem dL_isAdviceSo_271 : decode cL_isAdviceSo 271 = .ok (.iinc 8 1, 3) := by decide +kernel
theorem dL_isAdviceSo_274 : decode cL_isAdviceSo 274 = .ok (.goto (-164), 3) := by decide +kernel
theorem dL_isAdviceSo_277 : decode cL_isAdviceSo 277 = .ok (.aload_n 0, 1) := by decide +kernel
theorem dL_isAdviceSo_278 : decode cL_isAdviceSo 278 = .ok (.invokevirtual 84, 3) := by decide +kernel
theorem dL_isAdviceSo_281 : decode cL_isAdviceSo 281 = .ok (.istore 8, 2) := by decide +kernel
theorem dL_isAdviceSo_283 : decode cL_isAdviceSo 283 = .ok (.iload 7, 2) := by decide +kernel
theorem dL_isAdviceSo_285 : decode cL_isAdviceSo 285 = .ok (.ifCond .eq 50, 3) := by decide +kernel
theorem dL_isAdviceSo_288 : decode cL_isAdviceSo 288 = .ok (.aload_n 0, 1) := by decide +kernel
theorem dL_isAdviceSo_289 : decode cL_isAdviceSo 289 = .ok (.iload 8, 2) := by decide +kernel
theorem dL_isAdviceSo_291 : decode cL_isAdviceSo 291 = .ok (.invokevirtual 78, 3) := by decide +kernel
theorem dL_isAdviceSo_294 : decode cL_isAdviceSo 294 = .ok (.iload_n 3, 1) := by decide +kernel
theorem dL_isAdviceSo_295 : decode cL_isAdviceSo 295 = .ok (.iload 8, 2) := by decide +kernel
theorem dL_isAdviceSo_297 : decode cL_isAdviceSo 297 = .ok (.invokestatic 87, 3) := by decide +kernel
theorem dL_isAdviceSo_300 : decode cL_isAdviceSo 300 = .ok (.imul, 1) := by decide +kernel
theorem dL_isAdviceSo_301 : decode cL_isAdviceSo 301 = .ok (.iadd, 1) := by decide +kernel
theorem dL_isAdviceSo_302 : decode cL_isAdviceSo 302 = .ok (.aload_n 0, 1) := by decide +kernel
theorem dL_isAdviceSo_303 : decode cL_isAdviceSo 303 = .ok (.iload_n 1, 1) := by decide +kernel
theorem dL_isAdviceSo_304 : decode cL_isAdviceSo 304 = .ok (.invokevirtual 78, 3) := by decide +kernel
theorem dL_isAdviceSo_307 : decode cL_isAdviceSo 307 = .ok (.iload_n 3, 1) := by decide +kernel
theorem dL_isAdviceSo_308 : decode cL_isAdviceSo 308 = .ok (.iload_n 1, 1) := by decide +kernel
theorem dL_isAdviceSo_309 : decode cL_isAdviceSo 309 = .ok (.invokestatic 87, 3) := by decide +kernel
theorem dL_isAdviceSo_312 : decode cL_isAdviceSo 312 = .ok (.imul, 1) := by decide +kernel
theorem dL_isAdviceSo_313 : decode cL_isAdviceSo 313 = .ok (.iadd, 1) := by decide +kernel
theorem dL_isAdviceSo_314 : decode cL_isAdviceSo 314 = .ok (.if_icmp .gt 21, 3) := by decide +kernel
theorem dL_isAdviceSo_317 : decode cL_isAdviceSo 317 = .ok (.aload_n 0, 1) := by decide +kernel
theorem dL_isAdviceSo_318 : decode cL_isAdviceSo 318 = .ok (.bipush 63, 2) := by decide +kernel
theorem dL_isAdviceSo_320 : decode cL_isAdviceSo 320 = .ok (.invokevirtual 78, 3) := by decide +kernel
theorem dL_isAdviceSo_323 : decode cL_isAdviceSo 323 = .ok (.aload_n 0, 1) := by decide +kernel
theorem dL_isAdviceSo_324 : decode cL_isAdviceSo 324 = .ok (.iload_n 1, 1) := by decide +kernel
theorem dL_isAdviceSo_325 : decode cL_isAdviceSo 325 = .ok (.invokevirtual 78, 3) := by decide +kernel
theorem dL_isAdviceSo_328 : decode cL_isAdviceSo 328 = .ok (.if_icmp .gt 7, 3) := by decide +kernel
theorem dL_isAdviceSo_331 : decode cL_isAdviceSo 331 = .ok (.iconst 1, 1) := by decide +kernel
theorem dL_isAdviceSo_332 : decode cL_isAdviceSo 332 = .ok (.goto 4, 3) := by decide +kernel
theorem dL_isAdviceSo_335 : decode cL_isAdviceSo 335 = .ok (.iconst 0, 1) := by decide +kernel
theorem dL_isAdviceSo_336 : decode cL_isAdviceSo 336 = .ok (.istore 7, 2) := by decide +kernel
theorem dL_isAdviceSo_338 : decode cL_isAdviceSo 338 = .ok (.aload_n 0, 1) := by decide +kernel
theorem dL_isAdviceSo_339 : decode cL_isAdviceSo 339 = .ok (.invokevirtual 90, 3) := by decide +kernel
theorem dL_isAdviceSo_342 : decode cL_isAdviceSo 342 = .ok (.istore 9, 2) := by decide +kernel
theorem dL_isAdviceSo_344 : decode cL_isAdviceSo 344 = .ok (.iload 7, 2) := by decide +kernel
theorem dL_isAdviceSo_346 : decode cL_isAdviceSo 346 = .ok (.ifCond .eq 54, 3) := by decide +kernel
theorem dL_isAdviceSo_349 : decode cL_isAdviceSo 349 = .ok (.aload_n 0, 1) := by decide +kernel
theorem dL_isAdviceSo_350 : decode cL_isAdviceSo 350 = .ok (.iload 9, 2) := by decide +kernel
theorem dL_isAdviceSo_352 : decode cL_isAdviceSo 352 = .ok (.invokestatic 93, 3) := by decide +kernel
theorem dL_isAdviceSo_355 : decode cL_isAdviceSo 355 = .ok (.ifCond .eq 45, 3) := by decide +kernel
theorem dL_isAdviceSo_358 : decode cL_isAdviceSo 358 = .ok (.aload_n 0, 1) := by decide +kernel
theorem dL_isAdviceSo_359 : decode cL_isAdviceSo 359 = .ok (.iload_n 1, 1) := by decide +kernel
theorem dL_isAdviceSo_360 : decode cL_isAdviceSo 360 = .ok (.invokestatic 93, 3) := by decide +kernel
theorem dL_isAdviceSo_363 : decode cL_isAdviceSo 363 = .ok (.ifCond .eq 33, 3) := by decide +kernel
theorem dL_isAdviceSo_366 : decode cL_isAdviceSo 366 = .ok (.iload 9, 2) := by decide +kernel
theorem dL_isAdviceSo_368 : decode cL_isAdviceSo 368 = .ok (.invokestatic 87, 3) := by decide +kernel
theorem dL_isAdviceSo_371 : decode cL_isAdviceSo 371 = .ok (.iload_n 1, 1) := by decide +kernel
theorem dL_isAdviceSo_372 : decode cL_isAdviceSo 372 = .ok (.invokestatic 87, 3) := by decide +kernel
theorem dL_isAdviceSo_375 : decode cL_isAdviceSo 375 = .ok (.if_icmp .lt 21, 3) := by decide +kernel
theorem dL_isAdviceSo_378 : decode cL_isAdviceSo 378 = .ok (.iload 9, 2) := by decide +kernel
theorem dL_isAdviceSo_380 : decode cL_isAdviceSo 380 = .ok (.invokestatic 87, 3) := by decide +kernel
theorem dL_isAdviceSo_383 : decode cL_isAdviceSo 383 = .ok (.iload_n 1, 1) := by decide +kernel
theorem dL_isAdviceSo_384 : decode cL_isAdviceSo 384 = .ok (.invokestatic 87, 3) := by decide +kernel
theorem dL_isAdviceSo_387 : decode cL_isAdviceSo 387 = .ok (.if_icmp .ne 13, 3) := by decide +kernel
theorem dL_isAdviceSo_390 : decode cL_isAdviceSo 390 = .ok (.iload 9, 2) := by decide +kernel
theorem dL_isAdviceSo_392 : decode cL_isAdviceSo 392 = .ok (.iload_n 1, 1) := by decide +kernel
theorem dL_isAdviceSo_393 : decode cL_isAdviceSo 393 = .ok (.if_icmp .gt 7, 3) := by decide +kernel
theorem dL_isAdviceSo_396 : decode cL_isAdviceSo 396 = .ok (.iconst 1, 1) := by decide +kernel
theorem dL_isAdviceSo_397 : decode cL_isAdviceSo 397 = .ok (.goto 4, 3) := by decide +kernel
theorem dL_isAdviceSo_400 : decode cL_isAdviceSo 400 = .ok (.iconst 0, 1) := by decide +kernel
theorem dL_isAdviceSo_401 : decode cL_isAdviceSo 401 = .ok (.ireturn, 1) := by decide +kernel
set_option maxRecDepth 20000 in
theorem ggL_law_X6_init : GoodIn wsL_law wsX6_init := goodIn_r _ [5, 6, 7, 8, 9, 10, 11, 12, 13, 14, 15, 16, 17, 18, 19, 20, 21, 22, 23, 24, 25, 26, 27, 28, 29, 30, 31, 32, 33, 34, 35, 36, 37, 38, 39, 40, 41, 42, 43, 44, 45, 46, 47, 48, 49, 50, 51, 52, 53, 54, 55, 56, 57, 58, 59, 422, 423, 415, 416, 417, 418, 419, 420, 421, 424, 425, 426, 427, 428, 429, 430, 431, 432, 433, 434, 435, 436, 437, 438, 439, 440, 441, 442, 443, 444] (by decide +kernel) (by decide +kernel)
set_option maxRecDepth 20000 in
theorem gL_law_X6_init : GoodIn wsL_law (wsX6_init) := ggL_law_X6_init
set_option maxRecDepth 20000 in
theorem ggL_law_L_cell : GoodIn wsL_law wsL_cell := goodIn_r _ [63] (by decide +kernel) (by decide +kernel)
set_option maxRecDepth 20000 in
theorem gL_law_L_cell : GoodIn wsL_law (va_wsS RL 98 yL_cell wsL_cell) := goodIn_app (goodIn_of _ (by decide +kernel)) ggL_law_L_cell
set_option maxRecDepth 20000 in
theorem ggL_law_L_does : GoodIn wsL_law wsL_does := goodIn_ca (goodIn_ca (goodIn_ca (goodIn_r _ [66, 67, 68, 62, 69, 70, 71, 72, 73, 2, 74, 75, 76, 16, 77, 78, 79, 15, 80, 81, 82, 83, 84, 85, 86, 87, 88, 89, 90, 21, 91, 92, 93, 94, 95, 96, 97, 40, 98, 99, 100, 101, 102, 103, 104, 105, 106, 107, 108, 20, 109, 110, 111, 112, 113, 114, 115, 49, 116, 117, 118, 119, 41, 120, 121, 122, 123, 124, 42, 43, 125, 126, 127, 128, 129, 130, 131, 132, 133, 134, 135, 136, 137, 138, 139, 140, 141, 142, 143, 144, 145, 146, 147, 148, 149, 150, 151, 152, 153, 154, 155, 156, 157, 158, 159, 160, 161, 162, 163, 164, 165, 166, 167, 168, 169, 170, 171, 172, 173, 174, 175, 176, 177, 178, 179, 180, 181, 182, 183, 184, 25, 185, 186, 187, 24, 188, 189, 190, 191, 192, 193, 194, 195, 196, 54, 53, 197, 198, 199, 200, 201, 202, 203, 204, 205, 206, 207, 208, 209, 210, 211, 212, 213, 214, 215, 216, 217, 218, 219, 220, 221, 222, 223, 224, 225, 226, 227, 228, 229, 230, 231, 232, 233, 234, 235, 236, 237, 238, 239, 240, 241, 242, 243, 244, 245, 246, 247, 248, 249, 250, 251, 252, 253, 254, 255, 256, 257, 258, 259, 260, 261, 262, 263, 264, 265, 266, 267, 268, 269, 270, 271, 272, 273, 274, 275, 276, 277, 278, 279, 280, 281, 282, 283, 284, 285, 286, 287, 415, 416, 417, 418, 419, 420, 421, 424, 425, 426, 427, 428, 429, 430, 431, 432, 433, 434, 435, 436, 437, 438, 439, 440, 441, 442] (by decide +kernel) (by decide +kernel)) (goodIn_sub (fun _ h => List.mem_append_left _ (List.mem_append_left _ (List.mem_append_right _ h))) (by decide +kernel))) (goodIn_sub (fun _ h => List.mem_append_left _ (List.mem_append_right _ h)) (by decide +kernel))) (goodIn_sub (fun _ h => List.mem_append_right _ h) (by decide +kernel))
set_option maxRecDepth 20000 in
theorem gL_law_L_does : GoodIn wsL_law (va_wsS RL 102 yL_does wsL_does) := goodIn_app (goodIn_of _ (by decide +kernel)) ggL_law_L_does
set_option maxRecDepth 20000 in
theorem ggL_law_L_question : GoodIn wsL_law wsL_question := goodIn_r _ [265] (by decide +kernel) (by decide +kernel)
set_option maxRecDepth 20000 in
theorem gL_law_L_question : GoodIn wsL_law (va_wsS RL 42 yL_question wsL_question) := goodIn_app (goodIn_of _ (by decide +kernel)) ggL_law_L_question
set_option maxRecDepth 20000 in
theorem ggL_law_X6_about : GoodIn wsL_law wsX6_about := goodIn_ca (goodIn_r _ [74, 75, 76, 16, 77, 78, 79, 15, 80, 81, 415, 416, 417, 418, 419, 420, 421, 424, 425, 426, 427, 428, 429, 430, 431, 432, 433] (by decide +kernel) (by decide +kernel)) (goodIn_sub (fun _ h => List.mem_append_left _ (List.mem_append_left _ (List.mem_append_right _ h))) (by decide +kernel))
set_option maxRecDepth 20000 in
theorem gL_law_X6_about : GoodIn wsL_law (wsV RL 14 RX6 yX6_about wsX6_about) := goodIn_app (goodIn_of _ (by decide +kernel)) ggL_law_X6_about
set_option maxRecDepth 20000 in
theorem ggL_law_X6_cost : GoodIn wsL_law wsX6_cost := goodIn_ca (goodIn_ca (goodIn_r _ [291, 16, 270, 271, 2, 272, 75, 76, 292, 293, 294, 156, 157, 158, 159, 160, 295, 278, 279, 15, 280, 81, 281, 250, 251, 252, 282, 162, 163, 164, 41, 283, 203, 204, 205, 206, 207, 208, 209, 210, 211, 212, 213, 214, 215, 216, 143, 78, 79, 80, 217, 218, 219, 220, 221, 222, 223, 224, 225, 226, 102, 103, 104, 105, 40, 227, 228, 229, 296, 415, 416, 417, 418, 419, 420, 421, 424, 425, 426, 427, 428, 429, 430, 431, 432, 433] (by decide +kernel) (by decide +kernel)) (goodIn_sub (fun _ h => List.mem_append_left _ (List.mem_append_left _ (List.mem_append_right _ h))) (by decide +kernel))) (goodIn_sub (fun _ h => List.mem_append_right _ h) (by decide +kernel))
set_option maxRecDepth 20000 in
theorem gL_law_X6_cost : GoodIn wsL_law (wsV RL 48 RX6 yX6_cost wsX6_cost) := goodIn_app (goodIn_of _ (by decide +kernel)) ggL_law_X6_cost
set_option maxRecDepth 20000 in
theorem ggL_law_X6_remembered : GoodIn wsL_law wsX6_remembered := goodIn_ca (goodIn_r _ [300, 16, 301, 302, 2, 303, 75, 76, 304, 199, 200, 15, 201, 124, 42, 415, 416, 417, 418, 419, 420, 421, 424, 425, 426, 427, 428, 429, 430, 431, 432, 433] (by decide +kernel) (by decide +kernel)) (goodIn_sub (fun _ h => List.mem_append_left _ (List.mem_append_left _ (List.mem_append_right _ h))) (by decide +kernel))
set_option maxRecDepth 20000 in
theorem gL_law_X6_remembered : GoodIn wsL_law (wsV RL 63 RX6 yX6_remembered wsX6_remembered) := goodIn_app (goodIn_of _ (by decide +kernel)) ggL_law_X6_remembered
set_option maxRecDepth 20000 in
theorem ggL_law_X6_ask : GoodIn wsL_law wsX6_ask := goodIn_ca (goodIn_r _ [269, 21, 16, 270, 271, 2, 272, 75, 76, 106, 107, 108, 20, 109, 110, 111, 112, 113, 114, 115, 49, 116, 117, 118, 15, 119, 81, 40, 41, 120, 121, 122, 123, 124, 42, 43, 125, 126, 127, 273, 274, 275, 276, 277, 278, 279, 280, 281, 250, 251, 252, 282, 162, 163, 164, 283, 203, 204, 205, 206, 207, 208, 209, 210, 211, 212, 213, 214, 215, 216, 143, 78, 79, 80, 217, 218, 219, 220, 221, 222, 223, 224, 225, 226, 102, 103, 104, 105, 227, 228, 229, 284, 285, 286, 287, 415, 416, 417, 418, 419, 420, 421, 434, 435, 436, 424, 425, 426, 427, 428, 429, 430, 431, 432, 433] (by decide +kernel) (by decide +kernel)) (goodIn_sub (fun _ h => List.mem_append_left _ (List.mem_append_left _ (List.mem_append_right _ h))) (by decide +kernel))
set_option maxRecDepth 20000 in
theorem gL_law_X6_ask : GoodIn wsL_law (wsV RL 45 RX6 yX6_ask wsX6_ask) := goodIn_app (goodIn_of _ (by decide +kernel)) ggL_law_X6_ask
set_option maxRecDepth 20000 in
theorem ggL_law_X6_count : GoodIn wsL_law wsX6_count := goodIn_ca (goodIn_r _ [308, 16, 270, 271, 2, 272, 75, 76, 309, 224, 225, 15, 226, 81, 102, 103, 104, 105, 40, 227, 228, 229, 415, 416, 417, 418, 419, 420, 421, 424, 425, 426, 427, 428, 429, 430, 431, 432, 433] (by decide +kernel) (by decide +kernel)) (goodIn_sub (fun _ h => List.mem_append_left _ (List.mem_append_left _ (List.mem_append_right _ h))) (by decide +kernel))
set_option maxRecDepth 20000 in
theorem gL_law_X6_count : GoodIn wsL_law (wsV RL 51 RX6 yX6_count wsX6_count) := goodIn_app (goodIn_of _ (by decide +kernel)) ggL_law_X6_count
set_option maxRecDepth 20000 in
theorem ggL_law_X6_undo : GoodIn wsL_law wsX6_undo := goodIn_ca (goodIn_r _ [313, 89, 90, 21, 16, 314, 315, 316, 20, 317, 110, 112, 113, 114, 115, 111, 49, 116, 117, 118, 15, 119, 81, 40, 41, 120, 121, 122, 123, 124, 42, 43, 125, 126, 127, 415, 416, 417, 418, 419, 420, 421, 434, 435, 436, 424, 425, 426, 427, 428, 429, 430, 431, 432, 433] (by decide +kernel) (by decide +kernel)) (goodIn_sub (fun _ h => List.mem_append_left _ (List.mem_append_right _ h)) (by decide +kernel))
set_option maxRecDepth 20000 in
theorem gL_law_X6_undo : GoodIn wsL_law (wsV RL 106 RX6 yX6_undo wsX6_undo) := goodIn_app (goodIn_of _ (by decide +kernel)) ggL_law_X6_undo
set_option maxRecDepth 20000 in
theorem ggL_law_L_isAnsweredSo : GoodIn wsL_law wsL_isAnsweredSo := goodIn_ca (goodIn_ca (goodIn_r _ [320, 71, 72, 73, 2, 74, 75, 76, 16, 77, 78, 79, 15, 80, 81, 288, 289, 290, 291, 270, 271, 272, 292, 293, 294, 156, 157, 158, 159, 160, 295, 278, 279, 280, 281, 250, 251, 252, 282, 162, 163, 164, 41, 283, 203, 204, 205, 206, 207, 208, 209, 210, 211, 212, 213, 214, 215, 216, 143, 217, 218, 219, 220, 221, 222, 223, 224, 225, 226, 102, 103, 104, 105, 40, 227, 228, 229, 296, 305, 306, 307, 308, 309, 321, 322, 323, 324, 325, 326, 327, 328, 329, 330, 331, 332, 301, 302, 303, 333, 334, 335, 336, 337, 338, 339, 340, 341, 342, 343, 344, 345, 346, 347, 348, 349, 350, 351, 352, 353, 354, 415, 416, 417, 418, 419, 420, 421, 424, 425, 426, 427, 428, 429, 430, 431, 432, 433] (by decide +kernel) (by decide +kernel)) (goodIn_sub (fun _ h => List.mem_append_left _ (List.mem_append_left _ (List.mem_append_right _ h))) (by decide +kernel))) (goodIn_sub (fun _ h => List.mem_append_right _ h) (by decide +kernel))
set_option maxRecDepth 20000 in
theorem gL_law_L_isAnsweredSo : GoodIn wsL_law (va_wsS RL 109 yL_isAnsweredSo wsL_isAnsweredSo) := goodIn_app (goodIn_of _ (by decide +kernel)) ggL_law_L_isAnsweredSo
set_option maxRecDepth 20000 in
theorem ggL_law_L_isAdviceSo : GoodIn wsL_law wsL_isAdviceSo := goodIn_ca (goodIn_ca (goodIn_r _ [357, 71, 72, 73, 2, 74, 75, 76, 16, 77, 78, 79, 15, 80, 81, 358, 359, 360, 361, 362, 363, 364, 365, 25, 366, 190, 191, 24, 192, 193, 194, 195, 196, 54, 53, 197, 198, 199, 200, 201, 124, 42, 202, 203, 204, 205, 206, 207, 208, 209, 210, 211, 212, 213, 214, 215, 216, 143, 217, 218, 219, 220, 221, 222, 223, 224, 225, 226, 102, 103, 104, 105, 40, 227, 228, 229, 230, 231, 232, 233, 234, 235, 236, 367, 238, 239, 240, 241, 242, 243, 244, 245, 246, 247, 248, 249, 250, 251, 252, 253, 254, 255, 256, 368, 369, 370, 371, 372, 259, 260, 261, 373, 374, 375, 376, 377, 378, 379, 380, 381, 156, 157, 158, 159, 160, 382, 383, 384, 385, 386, 387, 388, 389, 390, 391, 137, 138, 139, 140, 141, 142, 392, 393, 62, 394, 395, 396, 397, 398, 399, 400, 401, 402, 403, 404, 405, 406, 407, 408, 409, 297, 298, 299, 300, 301, 302, 303, 304, 410, 411, 412, 413, 270, 271, 272, 414, 415, 416, 417, 418, 419, 420, 421, 424, 425, 426, 427, 428, 429, 430, 431, 432, 433, 437, 438, 439, 440, 441, 442] (by decide +kernel) (by decide +kernel)) (goodIn_sub (fun _ h => List.mem_append_left _ (List.mem_append_left _ (List.mem_append_right _ h))) (by decide +kernel))) (goodIn_sub (fun _ h => List.mem_append_right _ h) (by decide +kernel))
set_option maxRecDepth 20000 in
theorem gL_law_L_isAdviceSo : GoodIn wsL_law (va_wsS RL 112 yL_isAdviceSo wsL_isAdviceSo) := goodIn_app (goodIn_of _ (by decide +kernel)) ggL_law_L_isAdviceSo
theorem dL_law_0 : decode cL_law 0 = .ok (.new 15, 3) := by decide +kernel
theorem dL_law_3 : decode cL_law 3 = .ok (.dup, 1) := by decide +kernel
theorem dL_law_4 : decode cL_law 4 = .ok (.invokespecial 97, 3) := by decide +kernel
theorem dL_law_7 : decode cL_law 7 = .ok (.astore_n 1, 1) := by decide +kernel
theorem dL_law_8 : decode cL_law 8 = .ok (.iconst 0, 1) := by decide +kernel
theorem dL_law_9 : decode cL_law 9 = .ok (.istore_n 2, 1) := by decide +kernel
theorem dL_law_10 : decode cL_law 10 = .ok (.iload_n 2, 1) := by decide +kernel
theorem dL_law_11 : decode cL_law 11 = .ok (.bipush 40, 2) := by decide +kernel
theorem dL_law_13 : decode cL_law 13 = .ok (.if_icmp .ge 231, 3) := by decide +kernel
theorem dL_law_16 : decode cL_law 16 = .ok (.aload_n 0, 1) := by decide +kernel
theorem dL_law_17 : decode cL_law 17 = .ok (.iload_n 2, 1) := by decide +kernel
theorem dL_law_18 : decode cL_law 18 = .ok (.invokestatic 98, 3) := by decide +kernel
theorem dL_law_21 : decode cL_law 21 = .ok (.istore_n 3, 1) := by decide +kernel
theorem dL_law_22 : decode cL_law 22 = .ok (.aload_n 1, 1) := by decide +kernel
theorem dL_law_23 : decode cL_law 23 = .ok (.iload_n 3, 1) := by decide +kernel
theorem dL_law_24 : decode cL_law 24 = .ok (.invokestatic 102, 3) := by decide +kernel
theorem dL_law_27 : decode cL_law 27 = .ok (.istore 4, 2) := by decide +kernel
theorem dL_law_29 : decode cL_law 29 = .ok (.iload_n 3, 1) := by decide +kernel
theorem dL_law_30 : decode cL_law 30 = .ok (.bipush 9, 2) := by decide +kernel
theorem dL_law_32 : decode cL_law 32 = .ok (.ishr, 1) := by decide +kernel
theorem dL_law_33 : decode cL_law 33 = .ok (.invokestatic 42, 3) := by decide +kernel
theorem dL_law_36 : decode cL_law 36 = .ok (.istore 5, 2) := by decide +kernel
theorem dL_law_38 : decode cL_law 38 = .ok (.aload_n 1, 1) := by decide +kernel
theorem dL_law_39 : decode cL_law 39 = .ok (.iconst 4, 1) := by decide +kernel
theorem dL_law_40 : decode cL_law 40 = .ok (.invokevirtual 14, 3) := by decide +kernel
theorem dL_law_43 : decode cL_law 43 = .ok (.istore 6, 2) := by decide +kernel
theorem dL_law_45 : decode cL_law 45 = .ok (.aload_n 1, 1) := by decide +kernel
theorem dL_law_46 : decode cL_law 46 = .ok (.iload 5, 2) := by decide +kernel
theorem dL_law_48 : decode cL_law 48 = .ok (.iconst (-1), 1) := by decide +kernel
theorem dL_law_49 : decode cL_law 49 = .ok (.invokevirtual 48, 3) := by decide +kernel
theorem dL_law_52 : decode cL_law 52 = .ok (.istore 7, 2) := by decide +kernel
theorem dL_law_54 : decode cL_law 54 = .ok (.aload_n 1, 1) := by decide +kernel
theorem dL_law_55 : decode cL_law 55 = .ok (.iconst 5, 1) := by decide +kernel
theorem dL_law_56 : decode cL_law 56 = .ok (.invokevirtual 14, 3) := by decide +kernel
theorem dL_law_59 : decode cL_law 59 = .ok (.istore 8, 2) := by decide +kernel
theorem dL_law_61 : decode cL_law 61 = .ok (.aload_n 1, 1) := by decide +kernel
theorem dL_law_62 : decode cL_law 62 = .ok (.iconst 0, 1) := by decide +kernel
theorem dL_law_63 : decode cL_law 63 = .ok (.invokevirtual 63, 3) := by decide +kernel
theorem dL_law_66 : decode cL_law 66 = .ok (.istore 9, 2) := by decide +kernel
theorem dL_law_68 : decode cL_law 68 = .ok (.aload_n 1, 1) := by decide +kernel
theorem dL_law_69 : decode cL_law 69 = .ok (.bipush 6, 2) := by decide +kernel
theorem dL_law_71 : decode cL_law 71 = .ok (.invokevirtual 14, 3) := by decide +kernel
theorem dL_law_74 : decode cL_law 74 = .ok (.istore 10, 2) := by decide +kernel
theorem dL_law_76 : decode cL_law 76 = .ok (.aload_n 1, 1) := by decide +kernel
theorem dL_law_77 : decode cL_law 77 = .ok (.iload 5, 2) := by decide +kernel
theorem dL_law_79 : decode cL_law 79 = .ok (.invokevirtual 45, 3) := by decide +kernel
theorem dL_law_82 : decode cL_law 82 = .ok (.aload_n 1, 1) := by decide +kernel
theorem dL_law_83 : decode cL_law 83 = .ok (.iload 5, 2) := by decide +kernel
theorem dL_law_85 : decode cL_law 85 = .ok (.invokevirtual 51, 3) := by decide +kernel
theorem dL_law_88 : decode cL_law 88 = .ok (.if_icmp .ne 42, 3) := by decide +kernel
theorem dL_law_91 : decode cL_law 91 = .ok (.aload_n 1, 1) := by decide +kernel
theorem dL_law_92 : decode cL_law 92 = .ok (.iconst 4, 1) := by decide +kernel
theorem dL_law_93 : decode cL_law 93 = .ok (.invokevirtual 14, 3) := by decide +kernel
theorem dL_law_96 : decode cL_law 96 = .ok (.iload 6, 2) := by decide +kernel
theorem dL_law_98 : decode cL_law 98 = .ok (.iload 7, 2) := by decide +kernel
theorem dL_law_100 : decode cL_law 100 = .ok (.iadd, 1) := by decide +kernel
theorem dL_law_101 : decode cL_law 101 = .ok (.if_icmp .ne 29, 3) := by decide +kernel
theorem dL_law_104 : decode cL_law 104 = .ok (.aload_n 1, 1) := by decide +kernel
theorem dL_law_105 : decode cL_law 105 = .ok (.iconst 5, 1) := by decide +kernel
theorem dL_law_106 : decode cL_law 106 = .ok (.invokevirtual 14, 3) := by decide +kernel
theorem dL_law_109 : decode cL_law 109 = .ok (.iload 8, 2) := by decide +kernel
theorem dL_law_111 : decode cL_law 111 = .ok (.iconst 1, 1) := by decide +kernel
theorem dL_law_112 : decode cL_law 112 = .ok (.iadd, 1) := by decide +kernel
theorem dL_law_113 : decode cL_law 113 = .ok (.if_icmp .ne 17, 3) := by decide +kernel
theorem dL_law_116 : decode cL_law 116 = .ok (.aload_n 1, 1) := by decide +kernel
theorem dL_law_117 : decode cL_law 117 = .ok (.iconst 0, 1) := by decide +kernel
theorem dL_law_118 : decode cL_law 118 = .ok (.invokevirtual 63, 3) := by decide +kernel
theorem dL_law_121 : decode cL_law 121 = .ok (.iload 5, 2) := by decide +kernel
theorem dL_law_123 : decode cL_law 123 = .ok (.if_icmp .ne 7, 3) := by decide +kernel
theorem dL_law_126 : decode cL_law 126 = .ok (.iconst 1, 1) := by decide +kernel
theorem dL_law_127 : decode cL_law 127 = .ok (.goto 4, 3) := by decide +kernel
theorem dL_law_130 : decode cL_law 130 = .ok (.iconst 0, 1) := by decide +kernel
theorem dL_law_131 : decode cL_law 131 = .ok (.istore 11, 2) := by decide +kernel
theorem dL_law_133 : decode cL_law 133 = .ok (.aload_n 1, 1) := by decide +kernel
theorem dL_law_134 : decode cL_law 134 = .ok (.invokevirtual 106, 3) := by decide +kernel
theorem dL_law_137 : decode cL_law 137 = .ok (.pop, 1) := by decide +kernel
theorem dL_law_138 : decode cL_law 138 = .ok (.iload 11, 2) := by decide +kernel
theorem dL_law_140 : decode cL_law 140 = .ok (.ifCond .eq 54, 3) := by decide +kernel
theorem dL_law_143 : decode cL_law 143 = .ok (.iload 4, 2) := by decide +kernel
theorem dL_law_145 : decode cL_law 145 = .ok (.iconst (-1), 1) := by decide +kernel
theorem dL_law_146 : decode cL_law 146 = .ok (.if_icmp .lt 48, 3) := by decide +kernel
theorem dL_law_149 : decode cL_law 149 = .ok (.aload_n 1, 1) := by decide +kernel
theorem dL_law_150 : decode cL_law 150 = .ok (.iconst 4, 1) := by decide +kernel
theorem dL_law_151 : decode cL_law 151 = .ok (.invokevirtual 14, 3) := by decide +kernel
theorem dL_law_154 : decode cL_law 154 = .ok (.iload 6, 2) := by decide +kernel
theorem dL_law_156 : decode cL_law 156 = .ok (.if_icmp .ne 38, 3) := by decide +kernel
theorem dL_law_159 : decode cL_law 159 = .ok (.aload_n 1, 1) := by decide +kernel
theorem dL_law_160 : decode cL_law 160 = .ok (.iconst 5, 1) := by decide +kernel
theorem dL_law_161 : decode cL_law 161 = .ok (.invokevirtual 14, 3) := by decide +kernel
theorem dL_law_164 : decode cL_law 164 = .ok (.iload 8, 2) := by decide +kernel
theorem dL_law_166 : decode cL_law 166 = .ok (.if_icmp .ne 28, 3) := by decide +kernel
theorem dL_law_169 : decode cL_law 169 = .ok (.aload_n 1, 1) := by decide +kernel
theorem dL_law_170 : decode cL_law 170 = .ok (.iconst 0, 1) := by decide +kernel
theorem dL_law_171 : decode cL_law 171 = .ok (.invokevirtual 63, 3) := by decide +kernel
theorem dL_law_174 : decode cL_law 174 = .ok (.iload 9, 2) := by decide +kernel
theorem dL_law_176 : decode cL_law 176 = .ok (.if_icmp .ne 18, 3) := by decide +kernel
theorem dL_law_179 : decode cL_law 179 = .ok (.aload_n 1, 1) := by decide +kernel
theorem dL_law_180 : decode cL_law 180 = .ok (.bipush 6, 2) := by decide +kernel
theorem dL_law_182 : decode cL_law 182 = .ok (.invokevirtual 14, 3) := by decide +kernel
theorem dL_law_185 : decode cL_law 185 = .ok (.iload 10, 2) := by decide +kernel
theorem dL_law_187 : decode cL_law 187 = .ok (.if_icmp .ne 7, 3) := by decide +kernel
theorem dL_law_190 : decode cL_law 190 = .ok (.iconst 1, 1) := by decide +kernel
theorem dL_law_191 : decode cL_law 191 = .ok (.goto 4, 3) := by decide +kernel
theorem dL_law_194 : decode cL_law 194 = .ok (.iconst 0, 1) := by decide +kernel
theorem dL_law_195 : decode cL_law 195 = .ok (.istore 11, 2) := by decide +kernel
theorem dL_law_197 : decode cL_law 197 = .ok (.iload 11, 2) := by decide +kernel
theorem dL_law_199 : decode cL_law 199 = .ok (.ifCond .eq 12, 3) := by decide +kernel
theorem dL_law_202 : decode cL_law 202 = .ok (.aload_n 1, 1) := by decide +kernel
theorem dL_law_203 : decode cL_law 203 = .ok (.iload 5, 2) := by decide +kernel
theorem dL_law_205 : decode cL_law 205 = .ok (.invokestatic 109, 3) := by decide +kernel
theorem dL_law_208 : decode cL_law 208 = .ok (.ifCond .ne 5, 3) := by decide +kernel
theorem dL_law_211 : decode cL_law 211 = .ok (.iconst 0, 1) := by decide +kernel
theorem dL_law_212 : decode cL_law 212 = .ok (.ireturn, 1) := by decide +kernel
theorem dL_law_213 : decode cL_law 213 = .ok (.iload_n 2, 1) := by decide +kernel
theorem dL_law_214 : decode cL_law 214 = .ok (.bipush 8, 2) := by decide +kernel
theorem dL_law_216 : decode cL_law 216 = .ok (.irem, 1) := by decide +kernel
theorem dL_law_217 : decode cL_law 217 = .ok (.bipush 7, 2) := by decide +kernel
theorem dL_law_219 : decode cL_law 219 = .ok (.if_icmp .ne 19, 3) := by decide +kernel
theorem dL_law_222 : decode cL_law 222 = .ok (.aload_n 1, 1) := by decide +kernel
theorem dL_law_223 : decode cL_law 223 = .ok (.iload_n 3, 1) := by decide +kernel
theorem dL_law_224 : decode cL_law 224 = .ok (.bipush 7, 2) := by decide +kernel
theorem dL_law_226 : decode cL_law 226 = .ok (.ishr, 1) := by decide +kernel
theorem dL_law_227 : decode cL_law 227 = .ok (.bipush 63, 2) := by decide +kernel
theorem dL_law_229 : decode cL_law 229 = .ok (.iand, 1) := by decide +kernel
theorem dL_law_230 : decode cL_law 230 = .ok (.invokestatic 112, 3) := by decide +kernel
theorem dL_law_233 : decode cL_law 233 = .ok (.ifCond .ne 5, 3) := by decide +kernel
theorem dL_law_236 : decode cL_law 236 = .ok (.iconst 0, 1) := by decide +kernel
theorem dL_law_237 : decode cL_law 237 = .ok (.ireturn, 1) := by decide +kernel
theorem dL_law_238 : decode cL_law 238 = .ok (.iinc 2 1, 3) := by decide +kernel
theorem dL_law_241 : decode cL_law 241 = .ok (.goto (-231), 3) := by decide +kernel
theorem dL_law_244 : decode cL_law 244 = .ok (.iconst 1, 1) := by decide +kernel
theorem dL_law_245 : decode cL_law 245 = .ok (.ireturn, 1) := by decide +kernel
abbrev vwCl : List vw_C := [(RX0, TX0, 6), (RX1, TX1, 3), (RX3, TX3, 2), (RX4, TX4, 10), (RX5, TX5, 2), (RX6, TX6, 7)]
end
section
/-! BASE. amb: what every method here may take as given of the world beside its own cells (class numbers, the table BY, the two statics of Throwable). RO: the contract of a method that changes nothing and answers v. ln_: the kit's rows over natural numbers (.int (nI k)). -/
abbrev TY (tc : Nat → ClassId) : List (ClassId × FieldType) := [(tc 0, .int), (tc 1, .char), (tc 0, .int), (tc 0, .int), (tc 0, .int), (tc 5, .object "TripleWays$State")]
def byl : List Nat := [0, 1, 2, 0, 2, 1, 1, 0, 2, 1, 2, 0, 2, 0, 1, 2, 1, 0]
def byf (j : Nat) : Nat := byl.getD j 0
def nstF : List (String × Nat × String × String × String) := [("TripleWays$Advice", 25, "TripleWays$State", "size", "I"), ("TripleWays", 85, "TripleWays$State", "size", "I"), ("TripleWays$Advice", 31, "TripleWays$State", "kept", "I"), ("TripleWays", 89, "TripleWays$State", "kept", "I"), ("TripleWays", 92, "TripleWays$State", "upkeepCosts", "I"), ("TripleWays", 95, "TripleWays$State", "buildingCosts", "I"), ("TripleWays", 98, "TripleWays$State", "answerCosts", "I"), ("TripleWays", 101, "TripleWays$State", "asked", "I"), ("TripleWays$Advice", 18, "TripleWays$State", "questionCount", "I"), ("TripleWays", 104, "TripleWays$State", "questionCount", "I"), ("TripleWays$Advice", 35, "TripleWays$State", "weight", "I"), ("TripleWays", 126, "TripleWays$State", "weight", "I"), ("TripleWays", 214, "TripleWays$History", "size", "I")]
def nstM : List (String × Nat × MethodName) := [("TripleWays", 9, ⟨"TripleWays$Text", "<init>", "()V"⟩), ("TripleWays", 18, ⟨"TripleWays$State", "<init>", "()V"⟩), ("TripleWays$History", 17, ⟨"TripleWays$State", "<init>", "()V"⟩), ("TripleWays", 35, ⟨"TripleWays$Advice", "<init>", "()V"⟩), ("TripleWays", 42, ⟨"TripleWays$Slot", "<init>", "()V"⟩), ("TripleWays$Slot", 9, ⟨"TripleWays$State", "<init>", "()V"⟩)]
def strL : List (String × Nat × String) := []
def cstL : List (String × String) := []
def ncL : List (String × String) := []
/-- what the tables say of members of nest mates, of the texts of exceptions, of the exceptions' classes -/
def xamb (U : State) : Prop := (∀ q ∈ nstF, va_Nw (.fieldLinkNest q.1 q.2.1 q.2.2.1 q.2.2.2.1 q.2.2.2.2 "TripleWays") U) ∧ (∀ q ∈ nstM, va_Nw (.methodLinkNest q.1 q.2.1 q.2.2 "TripleWays") U) ∧ (∀ q ∈ strL, ∃ a : Nat, vk_R q.1 q.2.1 q.2.2 a U) ∧ (∀ q ∈ cstL, va_Nw (.castable q.1 q.2) U) ∧ ∀ q ∈ ncL, va_Nc q.1 q.2 U
theorem xamb.warm {s U : State} (hW : s.WarmedH U.vm) (h : xamb s) : xamb U := ⟨fun q hq => va_Nw.warmF hW (h.1 q hq), fun q hq => va_Nw.warmM hW (h.2.1 q hq), fun q hq => (h.2.2.1 q hq).elim fun a ha => ⟨a, vk_R.warm hW ha⟩, fun q hq => va_Nw.warmC hW (h.2.2.2.1 q hq), fun q hq => va_Nc.moved hW.alike (h.2.2.2.2 q hq)⟩
theorem xamb.same {u U : State} (hv : u.vm = U.vm) (h : xamb u) : xamb U := ⟨fun q hq => va_Nw.same rfl hv (h.1 q hq), fun q hq => va_Nw.same rfl hv (h.2.1 q hq), fun q hq => (h.2.2.1 q hq).elim fun a ha => ⟨a, vk_R.same hv.symm ha⟩, fun q hq => va_Nw.same rfl hv (h.2.2.2.1 q hq), fun q hq => va_Nc.moved (by rw [hv]; exact Vm.Alike.refl _) (h.2.2.2.2 q hq)⟩
def amb (D : va_G) (tc : Nat → ClassId) (zb : Nat) (A : Nat → Prop) (U : State) (H : Heap) : Prop := va_K D vwCl (TY tc) U ∧ va_Z RX2 "BY" "[I" (.ref zb) A U H ∧ va_T .int zb 18 (fun j => .int (nI (byf j))) A U H ∧ vx_Zq Bundle.tN "UNASSIGNED_STACK" Bundle.steD A U H ∧ vx_Zq Bundle.tN "SUPPRESSED_SENTINEL" Bundle.listD A U H ∧ xamb U
theorem amb.moved {D : va_G} {tc : Nat → ClassId} {zb : Nat} {A : Nat → Prop} {u U : State} {H : Heap} (hW : u.WarmedH U.vm) (h : amb D tc zb A u H) : amb D tc zb A U H := ⟨va_K.moved hW.alike h.1, va_Z.moved hW.alike h.2.1, va_T.moved hW.alike h.2.2.1, vx_Zq.moved hW.alike h.2.2.2.1, vx_Zq.moved hW.alike h.2.2.2.2.1, h.2.2.2.2.2.warm hW⟩
theorem amb.same {D : va_G} {tc : Nat → ClassId} {zb : Nat} {A : Nat → Prop} {u U : State} {H : Heap} (hv : u.vm = U.vm) (h : amb D tc zb A u H) : amb D tc zb A U H :=
  have ha : u.vm.Alike U.vm := by rw [hv]; exact Vm.Alike.refl _
  ⟨va_K.moved ha h.1, va_Z.moved ha h.2.1, va_T.moved ha h.2.2.1, vx_Zq.moved ha h.2.2.2.1, vx_Zq.moved ha h.2.2.2.2.1, h.2.2.2.2.2.same hv⟩
theorem amb.kept {D : va_G} {tc : Nat → ClassId} {zb : Nat} {A : Nat → Prop} {U : State} {H H1 : Heap} (h : amb D tc zb A U H) (hq : ∀ a : Nat, a < H.size → ¬ A a → H1[a]? = H[a]?) : amb D tc zb A U H1 := ⟨h.1, va_Z.kept h.2.1 hq, va_T.kept h.2.2.1 hq, vx_Zq.kept h.2.2.2.1 hq, vx_Zq.kept h.2.2.2.2.1 hq, h.2.2.2.2.2⟩
theorem amb.narrow {D : va_G} {tc : Nat → ClassId} {zb : Nat} {A B : Nat → Prop} {U : State} {H : Heap} (h : amb D tc zb A U H) (hAB : ∀ q, B q → A q) : amb D tc zb B U H := ⟨h.1, va_Z.narrow h.2.1 hAB, va_T.narrow h.2.2.1 hAB, vx_Zq.narrow h.2.2.2.1 hAB, vx_Zq.narrow h.2.2.2.2.1 hAB, h.2.2.2.2.2⟩
theorem amb.go {D : va_G} {tc : Nat → ClassId} {zb : Nat} {A : Nat → Prop} {s : State} {H : Heap} {locs : List Loc} (h : amb D tc zb A s s.heap) (hS : va_S A s.heap H locs) : amb D tc zb A s H := h.kept hS.2.1
/-- the world of a method that changes nothing -/
def roB (D : va_G) (tc : Nat → ClassId) (zb : Nat) (w : va_W) (U : State) : Prop := amb D tc zb (fun _ => False) U U.heap ∧ va_P D vwCl w U.heap
def roQ (v : Value) : Array Value → State → Outcome → State → Prop := fun _ st oc t => oc = .returned (some v) ∧ t.heap = st.heap
/-- method y changes nothing, and answers v -/
def RO (l : Launch) (y : MethodName) (ws : List Cond) (fr lo : Nat) (D : va_G) (tc : Nat → ClassId) (zb : Nat) (w : va_W) (av : List Value) (v : Value) : Prop := Met l y ws ({ frames := fr, cells := 0, slots := 0, locals := lo } : Room) (va_Pc av (roB D tc zb w)) (roQ v) 0 0 (fun _ => False)
theorem roB_blind {D : va_G} {tc : Nat → ClassId} {zb : Nat} {w : va_W} {av : List Value} : FrameBlind (va_Pc av (roB D tc zb w)) := fun a U g mk q => ⟨q.1, amb.same (u := U) (U := U.calling g mk a) rfl q.2.1, q.2.2⟩
theorem RO.of {l : Launch} {y : MethodName} {ws ws' : List Cond} {fr lo : Nat} {D : va_G} {tc : Nat → ClassId} {zb : Nat} {w : va_W} {av : List Value} {v : Value} {cc : ByteArray} {maxL : Nat} {ret : Option FieldType}
    (hy : plainName y.cls = true) (hw : ws = Cond.code y cc maxL ret :: ws') (hlen : (lg_sl av).length ≤ maxL)
    (body : ∀ (p : Program) (e : Env) (s : State) (m : MethodId) (args : Array Value) (below : List Frame) (meth : Method) (c : Code), p.tables.exec = Jvm.exec → c.code = cc → meth.sig.returnType = ret → c.maxLocals = maxL → meth.locks = false → (∀ x ∈ ws, x.before args s = true) → s.vm.findClass y.cls = some m.cls → amb D tc zb (fun _ => False) s s.heap → va_S (fun _ => False) s.heap s.heap [] → va_P D vwCl w s.heap → ∀ ls : Array Slot, lv_has ls maxL (lv_args 0 av) →
      W p l e ({ frames := fr, cells := 0, slots := 0, locals := lo } : Room) s m args below meth c s.heap [] 0 0 (MQ below (roQ v) args s 0 0 (fun _ => False)) (F0 m 0 ls [])) : RO l y ws fr lo D tc zb w av v := by
  refine Met.ofW (cc := cc) (maxL := maxL) (ret := ret) hy hw ?_
  intro p e s m args below meth c s₁ B hml hv
  obtain ⟨rfl, hM, hP⟩ := hv
  have hts := atoms_spec (ws := ws) B.pre
  have hown : s.vm.findClass y.cls = some m.cls := findClass_of_methodNamed B.named
  have hl := lv_entry av (n := maxL) hlen
  have h9 := body p e s m _ below meth c B.exec B.bytes B.returns hml B.notSynchronized hts hown hM va_S.rf hP _ hl
  rw [lg_entry_eq]
  exact h9
section ROC
variable {p : Program} {l : Launch} {e : Env} {R : Room} {s : State} {m : MethodId} {args : Array Value} {below : List Frame} {meth : Method} {c : Code} {H : Heap} {locs : List Loc} {cells slots : Nat} {Q : State → Prop} {pc : Nat} {ls : Array Slot} {rest st0 : List Value}
variable {y : MethodName} {bytes cc : ByteArray} {maxL nL n idx fr lo : Nat} {ret : Option FieldType} {wsy ws' : List Cond} {Ts : List Cond} {own C : String} {b : Nat} {As : List Value} {v : Value} {D : va_G} {tc : Nat → ClassId} {zb : Nat} {A : Nat → Prop} {wl wc : va_W}
theorem ro_V (S : CallFix p m c cc nL s args Ts own) (hM : amb D tc zb A s s.heap) (hS : va_S A s.heap H locs) (hP : va_P D vwCl wl H) (hc : RO l y wsy fr lo D tc zb wc (.ref b :: As) v) (hg : GoodIn Ts (wsV own idx C y wsy)) (hw : wsy = Cond.code y bytes maxL ret :: ws')
    (hd : y.cls = C ∧ y.cls ≠ "java/lang/invoke/MethodHandle" ∧ y.cls ≠ "java/lang/invoke/VarHandle" ∧ (parseMethodDescriptor y.desc).map (fun d => d.parameters.length) = some n) (hR : fr + 1 ≤ R.frames ∧ 8 + (maxL + 11) + lo ≤ R.locals)
    (isC : List Nat) (hC : isC.filterMap (fun i => wl[i]?) = wc) (hrecv : ∃ cell : Cell, H[b]? = some cell ∧ cell.vm.isStatics = false ∧ s.vm.findClass C = some cell.cls) (hn : As.length = n) (hls : ls.size = nL) (hst : st0 = As.reverse ++ .ref b :: rest) (hW : (rest.map fun v => v.category).sum ≤ 8) (hdg : decode cc pc = .ok (.invokevirtual idx, 3)) (hf : cells ≤ R.cells ∧ slots ≤ R.slots)
    (kk : W p l e R s m args below meth c H locs cells slots Q (F0 m (pc + 3) ls (v :: rest))) : W p l e R s m args below meth c H locs cells slots Q (F0 m pc ls st0) := by
  have hr := va_runV (e := e) (H := H) (locs := locs) (cells := cells) (slots := slots) (below := below) (meth := meth) (g := F0 m pc ls st0) (rest := rest) S hc (cwV n S.2.2.2.2 hg hw rfl rfl hd hR) ⟨roB_blind, hrecv, fun U hU hW => ⟨rfl, by rw [hU]; exact amb.narrow (amb.moved hW (hM.go hS)) (fun _ h => h.elim), by rw [hU]; exact hP.sub isC hC⟩⟩ rfl hn hls hst (lv_room hW) hdg hf
  intro T hT X
  obtain ⟨v', st₀, t, T', L, h0, X', hL, e1, e2, ⟨hv, hh⟩, st⟩ := hr T hT X
  cases L with
  | cons q L => exact (hL q List.mem_cons_self).elim
  | nil =>
    cases hv
    rw [List.append_nil] at X'
    obtain ⟨t2, a1, b1⟩ := kk T' (by rw [e1, hh, h0]) X'
    exact ⟨t2, st t2 a1, b1⟩
theorem ro_S (S : CallFix p m c cc nL s args Ts own) (hM : amb D tc zb A s s.heap) (hS : va_S A s.heap H locs) (hP : va_P D vwCl wl H) (hc : RO l y wsy fr lo D tc zb wc As v) (hg : GoodIn Ts (va_wsS own idx y wsy)) (hw : wsy = Cond.code y bytes maxL ret :: ws')
    (hd : y.cls ≠ "java/lang/invoke/MethodHandle" ∧ y.cls ≠ "java/lang/invoke/VarHandle" ∧ (parseMethodDescriptor y.desc).map (fun d => d.parameters.length) = some n) (hR : fr + 1 ≤ R.frames ∧ 8 + (maxL + 11) + lo ≤ R.locals)
    (isC : List Nat) (hC : isC.filterMap (fun i => wl[i]?) = wc) (hn : As.length = n) (hls : ls.size = nL) (hst : st0 = As.reverse ++ rest) (hW : (rest.map fun v => v.category).sum ≤ 8) (hdg : decode cc pc = .ok (.invokestatic idx, 3)) (hf : cells ≤ R.cells ∧ slots ≤ R.slots)
    (kk : W p l e R s m args below meth c H locs cells slots Q (F0 m (pc + 3) ls (v :: rest))) : W p l e R s m args below meth c H locs cells slots Q (F0 m pc ls st0) := by
  have hr := va_runS (e := e) (H := H) (locs := locs) (cells := cells) (slots := slots) (below := below) (meth := meth) (g := F0 m pc ls st0) (rest := rest) S hc (va_cwS n S.2.2.2.2 hg hw rfl rfl hd hR) ⟨roB_blind, fun U hU hW => ⟨rfl, by rw [hU]; exact amb.narrow (amb.moved hW (hM.go hS)) (fun _ h => h.elim), by rw [hU]; exact hP.sub isC hC⟩⟩ rfl hn hls hst (lv_room hW) hdg hf
  intro T hT X
  obtain ⟨v', st₀, t, T', L, h0, X', hL, e1, e2, ⟨hv, hh⟩, st⟩ := hr T hT X
  cases L with
  | cons q L => exact (hL q List.mem_cons_self).elim
  | nil =>
    cases hv
    rw [List.append_nil] at X'
    obtain ⟨t2, a1, b1⟩ := kk T' (by rw [e1, hh, h0]) X'
    exact ⟨t2, st t2 a1, b1⟩
theorem ro_iret {x x' : Int32} (hx : p.tables.exec = Jvm.exec) (hb : c.code = cc) (hr : meth.sig.returnType = some .int) (hlk : meth.locks = false) (hdg : decode cc pc = .ok (.ireturn, 1)) (hv : x' = x) : W p l e R s m args below meth c s.heap [] 0 0 (MQ below (roQ (.int x)) args s 0 0 (fun _ => False)) (F0 m pc ls [.int x']) :=
  W.iret hx hb hr (fun t ht _ => ⟨by rw [hv], ht⟩) (fun _ h => by cases h) hdg hlk
def bI (b : Bool) : Int32 := if b then 1 else 0
theorem bI_n (b : Bool) : narrow .boolean (.int (bI b)) = .int (bI b) := by cases b <;> decide
theorem ro_zret {x' : Int32} {v : Bool} (hx : p.tables.exec = Jvm.exec) (hb : c.code = cc) (hr : meth.sig.returnType = some .boolean) (hlk : meth.locks = false) (hdg : decode cc pc = .ok (.ireturn, 1)) (hv : x' = bI v) : W p l e R s m args below meth c s.heap [] 0 0 (MQ below (roQ (.int (bI v))) args s 0 0 (fun _ => False)) (F0 m pc ls [.int x']) := by
  subst hv
  exact W.zret hx hb hr (bI_n v) (fun t ht _ => ⟨rfl, ht⟩) (fun _ h => by cases h) hdg hlk
theorem ro_zretN {x x' : Nat} (hx : p.tables.exec = Jvm.exec) (hb : c.code = cc) (hr : meth.sig.returnType = some .boolean) (hlk : meth.locks = false) (hdg : decode cc pc = .ok (.ireturn, 1)) (hv : nI x' = nI x) (h1 : x < 2 := by decide) : W p l e R s m args below meth c s.heap [] 0 0 (MQ below (roQ (.int (nI x))) args s 0 0 (fun _ => False)) (F0 m pc ls [.int (nI x')]) := by
  rw [hv]
  exact W.zret hx hb hr (by rcases (show x = 0 ∨ x = 1 by omega) with q | q <;> subst q <;> decide) (fun t ht _ => ⟨rfl, ht⟩) (fun _ h => by cases h) hdg hlk
end ROC
def oI : Option Nat → Int32
  | none => -1
  | some n => nI n
theorem nI_nm1 {a : Nat} (h : a < 2 ^ 31) : ¬ nI a = -1 := by
  intro q
  have h2 := congrArg Int32.toInt q
  rw [nI_toInt h] at h2
  have : (-1 : Int32).toInt = -1 := by decide
  omega
theorem nI_nltm1 {a : Nat} (h : a < 2 ^ 31) : ¬ nI a < -1 := by
  intro q
  rw [Int32.lt_iff_toInt_lt, nI_toInt h] at q
  have : (-1 : Int32).toInt = -1 := by decide
  omega
section LN
variable {p : Program} {l : Launch} {e : Env} {R : Room} {s : State} {m : MethodId} {args : Array Value} {below : List Frame} {meth : Method} {c : Code} {H : Heap} {locs : List Loc} {cells slots : Nat} {Q : State → Prop} {cc : ByteArray} {pc : Nat} {ls : Array Slot} {rest : List Value}
theorem ln_eq {x x' : Int32} (h : x = x') (k : W p l e R s m args below meth c H locs cells slots Q (F0 m pc ls (.int x' :: rest))) : W p l e R s m args below meth c H locs cells slots Q (F0 m pc ls (.int x :: rest)) := h ▸ k
theorem ln_iadd (hx : p.tables.exec = Jvm.exec) (hb : c.code = cc) {x y : Nat} (hdg : decode cc pc = .ok (.iadd, 1)) (k : W p l e R s m args below meth c H locs cells slots Q (F0 m (pc + 1) ls (.int (nI (x + y)) :: rest))) : W p l e R s m args below meth c H locs cells slots Q (F0 m pc ls (.int (nI y) :: .int (nI x) :: rest)) :=
  lv_iadd hx hb hdg (by rw [nI_add]; exact k)
theorem ln_isub (hx : p.tables.exec = Jvm.exec) (hb : c.code = cc) {x y : Nat} (hdg : decode cc pc = .ok (.isub, 1)) (h : y ≤ x) (k : W p l e R s m args below meth c H locs cells slots Q (F0 m (pc + 1) ls (.int (nI (x - y)) :: rest))) : W p l e R s m args below meth c H locs cells slots Q (F0 m pc ls (.int (nI y) :: .int (nI x) :: rest)) :=
  lv_isub hx hb hdg (by rw [pk_sub h]; exact k)
theorem ln_imul (hx : p.tables.exec = Jvm.exec) (hb : c.code = cc) {x y : Nat} (hdg : decode cc pc = .ok (.imul, 1)) (k : W p l e R s m args below meth c H locs cells slots Q (F0 m (pc + 1) ls (.int (nI (x * y)) :: rest))) : W p l e R s m args below meth c H locs cells slots Q (F0 m pc ls (.int (nI y) :: .int (nI x) :: rest)) :=
  lv_imul hx hb hdg (by rw [pk_mul]; exact k)
theorem ln_idiv (hx : p.tables.exec = Jvm.exec) (hb : c.code = cc) {x y : Nat} (hdg : decode cc pc = .ok (.idiv, 1)) (h1 : x < 2 ^ 31) (h2 : 0 < y) (h3 : y < 2 ^ 31) (k : W p l e R s m args below meth c H locs cells slots Q (F0 m (pc + 1) ls (.int (nI (x / y)) :: rest))) : W p l e R s m args below meth c H locs cells slots Q (F0 m pc ls (.int (nI y) :: .int (nI x) :: rest)) :=
  lv_idiv hx hb hdg (nI_ne0 h2 h3) (by rw [pk_div h1 h2 h3]; exact k)
theorem ln_irem (hx : p.tables.exec = Jvm.exec) (hb : c.code = cc) {x y : Nat} (hdg : decode cc pc = .ok (.irem, 1)) (h1 : x < 2 ^ 31) (h2 : 0 < y) (h3 : y < 2 ^ 31) (k : W p l e R s m args below meth c H locs cells slots Q (F0 m (pc + 1) ls (.int (nI (x % y)) :: rest))) : W p l e R s m args below meth c H locs cells slots Q (F0 m pc ls (.int (nI y) :: .int (nI x) :: rest)) :=
  lv_irem hx hb hdg (nI_ne0 h2 h3) (by rw [pk_rem h1 h2 h3]; exact k)
theorem ln_sl : ∀ n, n < 32 → ((nI n &&& 31).toBitVec.smod 32).toNat = n := by decide +kernel
theorem ln_ishl (hx : p.tables.exec = Jvm.exec) (hb : c.code = cc) {x y : Nat} (hdg : decode cc pc = .ok (.ishl, 1)) (h1 : y < 31) (h2 : x * 2 ^ y < 2 ^ 32) (k : W p l e R s m args below meth c H locs cells slots Q (F0 m (pc + 1) ls (.int (nI (x * 2 ^ y)) :: rest))) : W p l e R s m args below meth c H locs cells slots Q (F0 m pc ls (.int (nI y) :: .int (nI x) :: rest)) :=
  lv_ishl hx hb hdg (by rw [pk_shlN _ y (ln_sl y (by omega)) h2]; exact k)
theorem k_shl1 {y : Nat} (h : y < 31) : 1 * 2 ^ y < 2 ^ 32 := by
  have h1 : 2 ^ y ≤ 2 ^ 30 := Nat.pow_le_pow_right (by decide) (by omega)
  omega
theorem ln_ishl1 (hx : p.tables.exec = Jvm.exec) (hb : c.code = cc) {y : Nat} (hdg : decode cc pc = .ok (.ishl, 1)) (h1 : y < 31) (k : W p l e R s m args below meth c H locs cells slots Q (F0 m (pc + 1) ls (.int (nI (2 ^ y)) :: rest))) : W p l e R s m args below meth c H locs cells slots Q (F0 m pc ls (.int (nI y) :: .int (nI 1) :: rest)) :=
  ln_ishl hx hb hdg h1 (k_shl1 h1) (by rw [Nat.one_mul]; exact k)
theorem k_orI (a b : Nat) : nI a ||| nI b = nI (a ||| b) := by
  apply Int32.toBitVec_inj.mp
  show BitVec.ofNat 32 a ||| BitVec.ofNat 32 b = BitVec.ofNat 32 (a ||| b)
  apply BitVec.eq_of_getLsbD_eq
  intro i hi
  simp [hi]
theorem ln_ior (hx : p.tables.exec = Jvm.exec) (hb : c.code = cc) {x y : Nat} (hdg : decode cc pc = .ok (.ior, 1)) (k : W p l e R s m args below meth c H locs cells slots Q (F0 m (pc + 1) ls (.int (nI (x ||| y)) :: rest))) : W p l e R s m args below meth c H locs cells slots Q (F0 m pc ls (.int (nI y) :: .int (nI x) :: rest)) :=
  lv_ior hx hb hdg (by rw [k_orI]; exact k)
theorem k_andn : ∀ x, x < 64 → ∀ y, y < 64 → nI x &&& (nI y ^^^ (-1)) = nI (x &&& (63 ^^^ y)) := by decide +kernel
theorem ln_iandn (hx : p.tables.exec = Jvm.exec) (hb : c.code = cc) {x y : Nat} (hdg : decode cc pc = .ok (.iand, 1)) (h1 : x < 64) (h2 : y < 64) (k : W p l e R s m args below meth c H locs cells slots Q (F0 m (pc + 1) ls (.int (nI (x &&& (63 ^^^ y))) :: rest))) : W p l e R s m args below meth c H locs cells slots Q (F0 m pc ls (.int (nI y ^^^ (-1)) :: .int (nI x) :: rest)) :=
  lv_iand hx hb hdg (by rw [k_andn x h1 y h2]; exact k)
theorem ln_ishr (hx : p.tables.exec = Jvm.exec) (hb : c.code = cc) {x y : Nat} (hdg : decode cc pc = .ok (.ishr, 1)) (h1 : y < 32) (h2 : x < 2 ^ 31) (k : W p l e R s m args below meth c H locs cells slots Q (F0 m (pc + 1) ls (.int (nI (x / 2 ^ y)) :: rest))) : W p l e R s m args below meth c H locs cells slots Q (F0 m pc ls (.int (nI y) :: .int (nI x) :: rest)) :=
  lv_ishr hx hb hdg (by rw [pk_shrN h2 _ y (ln_sl y h1)]; exact k)
theorem ln_and1 (x : Nat) (hx : x < 2 ^ 31) : nI x &&& nI 1 = nI (x % 2) := by
  rw [pk_andN (m := nI 1) (show x < 2 ^ 32 by omega) 1 (by decide)]
theorem ln_iand1 (hx : p.tables.exec = Jvm.exec) (hb : c.code = cc) {x : Nat} (hdg : decode cc pc = .ok (.iand, 1)) (h1 : x < 2 ^ 31) (k : W p l e R s m args below meth c H locs cells slots Q (F0 m (pc + 1) ls (.int (nI (x % 2)) :: rest))) : W p l e R s m args below meth c H locs cells slots Q (F0 m pc ls (.int (nI 1) :: .int (nI x) :: rest)) :=
  lv_iand hx hb hdg (by rw [ln_and1 x h1]; exact k)
theorem ln_if_eq (hx : p.tables.exec = Jvm.exec) (hb : c.code = cc) {x : Nat} {off : Int} {tgt : Nat} (hdg : decode cc pc = .ok (.ifCond .eq off, 3)) (ht : (pc : Int) + off = (tgt : Int)) (h1 : x < 2 ^ 31) (kt : x = 0 → W p l e R s m args below meth c H locs cells slots Q (F0 m tgt ls rest)) (kf : 0 < x → W p l e R s m args below meth c H locs cells slots Q (F0 m (pc + 3) ls rest)) : W p l e R s m args below meth c H locs cells slots Q (F0 m pc ls (.int (nI x) :: rest)) :=
  lv_if_eq hx hb hdg ht (fun h => kt ((nI_eq h1 (by decide)).mp h)) (fun h => kf (Nat.pos_of_ne_zero fun q => h (by rw [q]; rfl)))
theorem ln_if_ne (hx : p.tables.exec = Jvm.exec) (hb : c.code = cc) {x : Nat} {off : Int} {tgt : Nat} (hdg : decode cc pc = .ok (.ifCond .ne off, 3)) (ht : (pc : Int) + off = (tgt : Int)) (h1 : x < 2 ^ 31) (kt : 0 < x → W p l e R s m args below meth c H locs cells slots Q (F0 m tgt ls rest)) (kf : x = 0 → W p l e R s m args below meth c H locs cells slots Q (F0 m (pc + 3) ls rest)) : W p l e R s m args below meth c H locs cells slots Q (F0 m pc ls (.int (nI x) :: rest)) :=
  lv_if_ne hx hb hdg ht (fun h => kt (Nat.pos_of_ne_zero fun q => h (by rw [q]; rfl))) (fun h => kf ((nI_eq h1 (by decide)).mp h))
theorem ln_if_lt (hx : p.tables.exec = Jvm.exec) (hb : c.code = cc) {x : Nat} {off : Int} {tgt : Nat} (hdg : decode cc pc = .ok (.ifCond .lt off, 3)) (ht : (pc : Int) + off = (tgt : Int)) (h1 : x < 2 ^ 31) (kf : W p l e R s m args below meth c H locs cells slots Q (F0 m (pc + 3) ls rest)) : W p l e R s m args below meth c H locs cells slots Q (F0 m pc ls (.int (nI x) :: rest)) :=
  lv_if_lt hx hb hdg ht (fun h => absurd h (nI_pos h1)) (fun _ => kf)
theorem ln_if_ge (hx : p.tables.exec = Jvm.exec) (hb : c.code = cc) {x : Nat} {off : Int} {tgt : Nat} (hdg : decode cc pc = .ok (.ifCond .ge off, 3)) (ht : (pc : Int) + off = (tgt : Int)) (h1 : x < 2 ^ 31) (kt : W p l e R s m args below meth c H locs cells slots Q (F0 m tgt ls rest)) : W p l e R s m args below meth c H locs cells slots Q (F0 m pc ls (.int (nI x) :: rest)) :=
  lv_if_ge hx hb hdg ht (fun _ => kt) (fun h => absurd (nI_pos' h1) h)
theorem ln_if_gt (hx : p.tables.exec = Jvm.exec) (hb : c.code = cc) {x : Nat} {off : Int} {tgt : Nat} (hdg : decode cc pc = .ok (.ifCond .gt off, 3)) (ht : (pc : Int) + off = (tgt : Int)) (h1 : x < 2 ^ 31) (kt : 0 < x → W p l e R s m args below meth c H locs cells slots Q (F0 m tgt ls rest)) (kf : x = 0 → W p l e R s m args below meth c H locs cells slots Q (F0 m (pc + 3) ls rest)) : W p l e R s m args below meth c H locs cells slots Q (F0 m pc ls (.int (nI x) :: rest)) :=
  lv_if_gt hx hb hdg ht (fun h => kt ((Nat.eq_zero_or_pos x).elim (fun q => absurd h (by rw [q]; decide)) id)) (fun h => kf ((Nat.eq_zero_or_pos x).elim id (fun q => absurd (nI_lt q h1) h)))
theorem ln_if_le (hx : p.tables.exec = Jvm.exec) (hb : c.code = cc) {x : Nat} {off : Int} {tgt : Nat} (hdg : decode cc pc = .ok (.ifCond .le off, 3)) (ht : (pc : Int) + off = (tgt : Int)) (h1 : x < 2 ^ 31) (kt : x = 0 → W p l e R s m args below meth c H locs cells slots Q (F0 m tgt ls rest)) (kf : 0 < x → W p l e R s m args below meth c H locs cells slots Q (F0 m (pc + 3) ls rest)) : W p l e R s m args below meth c H locs cells slots Q (F0 m pc ls (.int (nI x) :: rest)) :=
  lv_if_le hx hb hdg ht (fun h => kt ((Nat.eq_zero_or_pos x).elim id (fun q => absurd h (nI_nle q h1)))) (fun h => kf ((Nat.eq_zero_or_pos x).elim (fun q => absurd (by rw [q]; decide) h) id))
theorem ln_icmp_eq (hx : p.tables.exec = Jvm.exec) (hb : c.code = cc) {x y : Nat} {off : Int} {tgt : Nat} (hdg : decode cc pc = .ok (.if_icmp .eq off, 3)) (ht : (pc : Int) + off = (tgt : Int)) (h1 : x < 2 ^ 31) (h2 : y < 2 ^ 31) (kt : x = y → W p l e R s m args below meth c H locs cells slots Q (F0 m tgt ls rest)) (kf : ¬ x = y → W p l e R s m args below meth c H locs cells slots Q (F0 m (pc + 3) ls rest)) : W p l e R s m args below meth c H locs cells slots Q (F0 m pc ls (.int (nI y) :: .int (nI x) :: rest)) :=
  lv_icmp_eq hx hb hdg ht (fun h => kt ((nI_eq h1 h2).mp h)) (fun h => kf (fun q => h ((nI_eq h1 h2).mpr q)))
theorem ln_icmp_ne (hx : p.tables.exec = Jvm.exec) (hb : c.code = cc) {x y : Nat} {off : Int} {tgt : Nat} (hdg : decode cc pc = .ok (.if_icmp .ne off, 3)) (ht : (pc : Int) + off = (tgt : Int)) (h1 : x < 2 ^ 31) (h2 : y < 2 ^ 31) (kt : ¬ x = y → W p l e R s m args below meth c H locs cells slots Q (F0 m tgt ls rest)) (kf : x = y → W p l e R s m args below meth c H locs cells slots Q (F0 m (pc + 3) ls rest)) : W p l e R s m args below meth c H locs cells slots Q (F0 m pc ls (.int (nI y) :: .int (nI x) :: rest)) :=
  lv_icmp_ne hx hb hdg ht (fun h => kt (fun q => h ((nI_eq h1 h2).mpr q))) (fun h => kf ((nI_eq h1 h2).mp h))
theorem ln_icmp_lt (hx : p.tables.exec = Jvm.exec) (hb : c.code = cc) {x y : Nat} {off : Int} {tgt : Nat} (hdg : decode cc pc = .ok (.if_icmp .lt off, 3)) (ht : (pc : Int) + off = (tgt : Int)) (h1 : x < 2 ^ 31) (h2 : y < 2 ^ 31) (kt : x < y → W p l e R s m args below meth c H locs cells slots Q (F0 m tgt ls rest)) (kf : y ≤ x → W p l e R s m args below meth c H locs cells slots Q (F0 m (pc + 3) ls rest)) : W p l e R s m args below meth c H locs cells slots Q (F0 m pc ls (.int (nI y) :: .int (nI x) :: rest)) :=
  lv_icmp_lt hx hb hdg ht (fun h => kt ((nI_ltI h1 h2).mp h)) (fun h => kf (Nat.le_of_not_lt fun q => h ((nI_ltI h1 h2).mpr q)))
theorem ln_icmp_ge (hx : p.tables.exec = Jvm.exec) (hb : c.code = cc) {x y : Nat} {off : Int} {tgt : Nat} (hdg : decode cc pc = .ok (.if_icmp .ge off, 3)) (ht : (pc : Int) + off = (tgt : Int)) (h1 : x < 2 ^ 31) (h2 : y < 2 ^ 31) (kt : y ≤ x → W p l e R s m args below meth c H locs cells slots Q (F0 m tgt ls rest)) (kf : x < y → W p l e R s m args below meth c H locs cells slots Q (F0 m (pc + 3) ls rest)) : W p l e R s m args below meth c H locs cells slots Q (F0 m pc ls (.int (nI y) :: .int (nI x) :: rest)) :=
  lv_icmp_ge hx hb hdg ht (fun h => kt ((nI_leI h2 h1).mp h)) (fun h => kf (Nat.lt_of_not_le fun q => h ((nI_leI h2 h1).mpr q)))
theorem ln_icmp_gt (hx : p.tables.exec = Jvm.exec) (hb : c.code = cc) {x y : Nat} {off : Int} {tgt : Nat} (hdg : decode cc pc = .ok (.if_icmp .gt off, 3)) (ht : (pc : Int) + off = (tgt : Int)) (h1 : x < 2 ^ 31) (h2 : y < 2 ^ 31) (kt : y < x → W p l e R s m args below meth c H locs cells slots Q (F0 m tgt ls rest)) (kf : x ≤ y → W p l e R s m args below meth c H locs cells slots Q (F0 m (pc + 3) ls rest)) : W p l e R s m args below meth c H locs cells slots Q (F0 m pc ls (.int (nI y) :: .int (nI x) :: rest)) :=
  lv_icmp_gt hx hb hdg ht (fun h => kt ((nI_ltI h2 h1).mp h)) (fun h => kf (Nat.le_of_not_lt fun q => h ((nI_ltI h2 h1).mpr q)))
theorem ln_icmp_le (hx : p.tables.exec = Jvm.exec) (hb : c.code = cc) {x y : Nat} {off : Int} {tgt : Nat} (hdg : decode cc pc = .ok (.if_icmp .le off, 3)) (ht : (pc : Int) + off = (tgt : Int)) (h1 : x < 2 ^ 31) (h2 : y < 2 ^ 31) (kt : x ≤ y → W p l e R s m args below meth c H locs cells slots Q (F0 m tgt ls rest)) (kf : y < x → W p l e R s m args below meth c H locs cells slots Q (F0 m (pc + 3) ls rest)) : W p l e R s m args below meth c H locs cells slots Q (F0 m pc ls (.int (nI y) :: .int (nI x) :: rest)) :=
  lv_icmp_le hx hb hdg ht (fun h => kt ((nI_leI h1 h2).mp h)) (fun h => kf (Nat.lt_of_not_le fun q => h ((nI_leI h1 h2).mpr q)))
theorem ln_eq_m1 (hx : p.tables.exec = Jvm.exec) (hb : c.code = cc) {x : Nat} {off : Int} {tgt : Nat} (hdg : decode cc pc = .ok (.if_icmp .eq off, 3)) (ht : (pc : Int) + off = (tgt : Int)) (h1 : x < 2 ^ 31) (kf : W p l e R s m args below meth c H locs cells slots Q (F0 m (pc + 3) ls rest)) : W p l e R s m args below meth c H locs cells slots Q (F0 m pc ls (.int (-1) :: .int (nI x) :: rest)) :=
  lv_icmp_eq hx hb hdg ht (fun h => absurd h (nI_nm1 h1)) (fun _ => kf)
theorem ln_ne_m1 (hx : p.tables.exec = Jvm.exec) (hb : c.code = cc) {x : Nat} {off : Int} {tgt : Nat} (hdg : decode cc pc = .ok (.if_icmp .ne off, 3)) (ht : (pc : Int) + off = (tgt : Int)) (h1 : x < 2 ^ 31) (kt : W p l e R s m args below meth c H locs cells slots Q (F0 m tgt ls rest)) : W p l e R s m args below meth c H locs cells slots Q (F0 m pc ls (.int (-1) :: .int (nI x) :: rest)) :=
  lv_icmp_ne hx hb hdg ht (fun _ => kt) (fun h => absurd h (nI_nm1 h1))
theorem ln_if_eqB (hx : p.tables.exec = Jvm.exec) (hb : c.code = cc) {x : Bool} {off : Int} {tgt : Nat} (hdg : decode cc pc = .ok (.ifCond .eq off, 3)) (ht : (pc : Int) + off = (tgt : Int)) (kt : x = false → W p l e R s m args below meth c H locs cells slots Q (F0 m tgt ls rest)) (kf : x = true → W p l e R s m args below meth c H locs cells slots Q (F0 m (pc + 3) ls rest)) : W p l e R s m args below meth c H locs cells slots Q (F0 m pc ls (.int (bI x) :: rest)) :=
  lv_if_eq hx hb hdg ht (fun h => kt (by cases x <;> first | rfl | exact absurd h (by decide))) (fun h => kf (by cases x <;> first | rfl | exact absurd (by decide) h))
theorem ln_if_neB (hx : p.tables.exec = Jvm.exec) (hb : c.code = cc) {x : Bool} {off : Int} {tgt : Nat} (hdg : decode cc pc = .ok (.ifCond .ne off, 3)) (ht : (pc : Int) + off = (tgt : Int)) (kt : x = true → W p l e R s m args below meth c H locs cells slots Q (F0 m tgt ls rest)) (kf : x = false → W p l e R s m args below meth c H locs cells slots Q (F0 m (pc + 3) ls rest)) : W p l e R s m args below meth c H locs cells slots Q (F0 m pc ls (.int (bI x) :: rest)) :=
  lv_if_ne hx hb hdg ht (fun h => kt (by cases x <;> first | rfl | exact absurd (by decide) h)) (fun h => kf (by cases x <;> first | rfl | exact absurd h (by decide)))
theorem ln_iald {D : va_G} {cl : List vw_C} {tys : List (ClassId × FieldType)} {wl : va_W} {a : Nat} (hx : p.tables.exec = Jvm.exec) (hb : c.code = cc) (hK : va_K D cl tys s) (hP : va_P D cl wl H) (q0 t0 : Nat) {cA : ClassId} {n i : Nat} {f : Nat → Int32} {v : Int32} (ha : wl[q0]? = some (a, .inl (cA, n, .inl f))) (ht : tys[t0]? = some (cA, .int)) (hdg : decode cc pc = .ok (.iaload, 1)) (hn : n < 2 ^ 31) (hi : i < n) (hv : f i = v) (k : W p l e R s m args below meth c H locs cells slots Q (F0 m (pc + 1) ls (.int v :: rest))) : W p l e R s m args below meth c H locs cells slots Q (F0 m pc ls (.int (nI i) :: .ref a :: rest)) :=
  va_iald hx hb hK hP q0 t0 ha ht (vp_in_nI hi hn) hdg (by rw [nI_clamp (Nat.lt_trans hi hn), hv]; exact k)
theorem ln_ti {A : Nat → Prop} {t N i : Nat} {f : Nat → Value} {v : Value} (hx : p.tables.exec = Jvm.exec) (hb : c.code = cc) (hT : va_T .int t N f A s s.heap) (hS : va_S A s.heap H locs) (hdg : decode cc pc = .ok (.iaload, 1)) (hn : N < 2 ^ 31) (hi : i < N) (hv : f i = v) (k : W p l e R s m args below meth c H locs cells slots Q (F0 m (pc + 1) ls (v :: rest))) : W p l e R s m args below meth c H locs cells slots Q (F0 m pc ls (.int (nI i) :: .ref t :: rest)) :=
  va_ti hx hb hT hS (vp_in_nI hi hn) (by rw [nI_clamp (Nat.lt_trans hi hn)]; exact hv) hdg k
end LN
section LNN
variable {p : Program} {l : Launch} {e : Env} {R : Room} {s : State} {m : MethodId} {args : Array Value} {below : List Frame} {meth : Method} {c : Code} {H : Heap} {locs : List Loc} {cells slots : Nat} {Q : State → Prop} {cc : ByteArray} {pc : Nat} {ls : Array Slot} {rest : List Value}
theorem ln_isubN (hx : p.tables.exec = Jvm.exec) (hb : c.code = cc) {x y : Nat} (hdg : decode cc pc = .ok (.isub, 1)) (h : x ≤ y) (k : W p l e R s m args below meth c H locs cells slots Q (F0 m (pc + 1) ls (.int (-(nI (y - x))) :: rest))) : W p l e R s m args below meth c H locs cells slots Q (F0 m pc ls (.int (nI y) :: .int (nI x) :: rest)) :=
  lv_isub hx hb hdg (by rw [show nI x - nI y = -(nI (y - x)) by rw [← pk_sub h, Int32.neg_sub]]; exact k)
theorem ln_imulN (hx : p.tables.exec = Jvm.exec) (hb : c.code = cc) {x y : Nat} (hdg : decode cc pc = .ok (.imul, 1)) (k : W p l e R s m args below meth c H locs cells slots Q (F0 m (pc + 1) ls (.int (-(nI (x * y))) :: rest))) : W p l e R s m args below meth c H locs cells slots Q (F0 m pc ls (.int (-(nI y)) :: .int (nI x) :: rest)) :=
  lv_imul hx hb hdg (by rw [Int32.mul_neg, pk_mul]; exact k)
theorem ln_iaddN (hx : p.tables.exec = Jvm.exec) (hb : c.code = cc) {x y : Nat} (hdg : decode cc pc = .ok (.iadd, 1)) (h : y ≤ x) (k : W p l e R s m args below meth c H locs cells slots Q (F0 m (pc + 1) ls (.int (nI (x - y)) :: rest))) : W p l e R s m args below meth c H locs cells slots Q (F0 m pc ls (.int (-(nI y)) :: .int (nI x) :: rest)) :=
  lv_iadd hx hb hdg (by rw [← Int32.sub_eq_add_neg, pk_sub h]; exact k)
end LNN
section LLC
variable {p : Program} {l : Launch} {e : Env} {R : Room} {s : State} {m : MethodId} {args : Array Value} {below : List Frame} {meth : Method} {c : Code} {H : Heap} {locs : List Loc} {cells slots : Nat} {Q : State → Prop} {cc : ByteArray} {pc : Nat} {ls : Array Slot} {rest : List Value}
theorem ln_lif_lt (hx : p.tables.exec = Jvm.exec) (hb : c.code = cc) {x y : Int64} {off : Int} {tgt : Nat} (hdg : decode cc pc = .ok (.ifCond .lt off, 3)) (ht : (pc : Int) + off = (tgt : Int)) (kt : x < y → W p l e R s m args below meth c H locs cells slots Q (F0 m tgt ls rest)) (kf : ¬ x < y → W p l e R s m args below meth c H locs cells slots Q (F0 m (pc + 3) ls rest)) : W p l e R s m args below meth c H locs cells slots Q (F0 m pc ls (.int (lg_cmp x y) :: rest)) :=
  lv_if_lt hx hb hdg ht (fun h => kt ((lg_cmp_lt x y).mp h)) (fun h => kf (fun q => h ((lg_cmp_lt x y).mpr q)))
theorem ln_lif_ge (hx : p.tables.exec = Jvm.exec) (hb : c.code = cc) {x y : Int64} {off : Int} {tgt : Nat} (hdg : decode cc pc = .ok (.ifCond .ge off, 3)) (ht : (pc : Int) + off = (tgt : Int)) (kt : y ≤ x → W p l e R s m args below meth c H locs cells slots Q (F0 m tgt ls rest)) (kf : ¬ y ≤ x → W p l e R s m args below meth c H locs cells slots Q (F0 m (pc + 3) ls rest)) : W p l e R s m args below meth c H locs cells slots Q (F0 m pc ls (.int (lg_cmp x y) :: rest)) :=
  lv_if_ge hx hb hdg ht (fun h => kt ((lg_cmp_ge x y).mp h)) (fun h => kf (fun q => h ((lg_cmp_ge x y).mpr q)))
theorem ln_lif_gt (hx : p.tables.exec = Jvm.exec) (hb : c.code = cc) {x y : Int64} {off : Int} {tgt : Nat} (hdg : decode cc pc = .ok (.ifCond .gt off, 3)) (ht : (pc : Int) + off = (tgt : Int)) (kt : y < x → W p l e R s m args below meth c H locs cells slots Q (F0 m tgt ls rest)) (kf : ¬ y < x → W p l e R s m args below meth c H locs cells slots Q (F0 m (pc + 3) ls rest)) : W p l e R s m args below meth c H locs cells slots Q (F0 m pc ls (.int (lg_cmp x y) :: rest)) :=
  lv_if_gt hx hb hdg ht (fun h => kt ((lg_cmp_gt x y).mp h)) (fun h => kf (fun q => h ((lg_cmp_gt x y).mpr q)))
theorem ln_lif_eq (hx : p.tables.exec = Jvm.exec) (hb : c.code = cc) {x y : Int64} {off : Int} {tgt : Nat} (hdg : decode cc pc = .ok (.ifCond .eq off, 3)) (ht : (pc : Int) + off = (tgt : Int)) (kt : x = y → W p l e R s m args below meth c H locs cells slots Q (F0 m tgt ls rest)) (kf : ¬ x = y → W p l e R s m args below meth c H locs cells slots Q (F0 m (pc + 3) ls rest)) : W p l e R s m args below meth c H locs cells slots Q (F0 m pc ls (.int (lg_cmp x y) :: rest)) :=
  lv_if_eq hx hb hdg ht (fun h => kt ((lg_cmp_eq x y).mp h)) (fun h => kf (fun q => h ((lg_cmp_eq x y).mpr q)))
end LLC
theorem k_wide_le (a b : Int32) : a.toInt64 ≤ b.toInt64 ↔ a ≤ b := by
  rw [Int64.le_iff_toInt_le, Int32.le_iff_toInt_le, Int32.toInt_toInt64, Int32.toInt_toInt64]
def zI (z : Int) : Int32 := Int32.ofInt z
theorem zI_toInt {z : Int} (h1 : -2147483648 ≤ z) (h2 : z < 2147483648) : (zI z).toInt = z := by
  unfold zI
  have hb : z.bmod (2 ^ 32) = z := by rw [Int.bmod_eq_of_le (by omega) (by omega)]
  rw [Int32.toInt_ofInt]
  exact hb
theorem zI_nat (k : Nat) : nI k = zI (k : Int) := (Int32.ofInt_eq_ofNat).symm
theorem zI_sub (a b : Int) : zI a - zI b = zI (a - b) := (Int32.ofInt_sub _ _).symm
theorem zI_inj {a b : Int} (h1 : -2147483648 ≤ a) (h2 : a < 2147483648) (h3 : -2147483648 ≤ b) (h4 : b < 2147483648) (h : zI a = zI b) : a = b := by
  have h5 := congrArg Int32.toInt h
  rwa [zI_toInt h1 h2, zI_toInt h3 h4] at h5
section LZ
variable {p : Program} {l : Launch} {e : Env} {R : Room} {s : State} {m : MethodId} {args : Array Value} {below : List Frame} {meth : Method} {c : Code} {H : Heap} {locs : List Loc} {cells slots : Nat} {Q : State → Prop} {cc : ByteArray} {pc : Nat} {ls : Array Slot} {rest : List Value}
theorem ln_isubZ (hx : p.tables.exec = Jvm.exec) (hb : c.code = cc) {x y : Nat} (hdg : decode cc pc = .ok (.isub, 1)) (k : W p l e R s m args below meth c H locs cells slots Q (F0 m (pc + 1) ls (.int (zI ((x : Int) - (y : Int))) :: rest))) : W p l e R s m args below meth c H locs cells slots Q (F0 m pc ls (.int (nI y) :: .int (nI x) :: rest)) :=
  lv_isub hx hb hdg (by rw [zI_nat, zI_nat, zI_sub]; exact k)
theorem ln_isubZN (hx : p.tables.exec = Jvm.exec) (hb : c.code = cc) {x : Int} {y : Nat} (hdg : decode cc pc = .ok (.isub, 1)) (k : W p l e R s m args below meth c H locs cells slots Q (F0 m (pc + 1) ls (.int (zI (x - (y : Int))) :: rest))) : W p l e R s m args below meth c H locs cells slots Q (F0 m pc ls (.int (nI y) :: .int (zI x) :: rest)) :=
  lv_isub hx hb hdg (by rw [zI_nat, zI_sub]; exact k)
theorem ln_icmp_ltZ (hx : p.tables.exec = Jvm.exec) (hb : c.code = cc) {x y : Int} {X Y : Int32} {off : Int} {tgt : Nat} (hdg : decode cc pc = .ok (.if_icmp .lt off, 3)) (ht : (pc : Int) + off = (tgt : Int)) (hX : X = zI x) (hY : Y = zI y) (b1 : -2147483648 ≤ x) (b2 : x < 2147483648) (b3 : -2147483648 ≤ y) (b4 : y < 2147483648) (kt : x < y → W p l e R s m args below meth c H locs cells slots Q (F0 m tgt ls rest)) (kf : ¬ x < y → W p l e R s m args below meth c H locs cells slots Q (F0 m (pc + 3) ls rest)) : W p l e R s m args below meth c H locs cells slots Q (F0 m pc ls (.int Y :: .int X :: rest)) := by
  have key : X < Y ↔ x < y := by rw [Int32.lt_iff_toInt_lt, hX, hY, zI_toInt b1 b2, zI_toInt b3 b4]
  exact lv_icmp_lt hx hb hdg ht (fun h => kt (key.mp h)) (fun h => kf (fun q => h (key.mpr q)))
theorem ln_icmp_leZ (hx : p.tables.exec = Jvm.exec) (hb : c.code = cc) {x y : Int} {X Y : Int32} {off : Int} {tgt : Nat} (hdg : decode cc pc = .ok (.if_icmp .le off, 3)) (ht : (pc : Int) + off = (tgt : Int)) (hX : X = zI x) (hY : Y = zI y) (b1 : -2147483648 ≤ x) (b2 : x < 2147483648) (b3 : -2147483648 ≤ y) (b4 : y < 2147483648) (kt : x ≤ y → W p l e R s m args below meth c H locs cells slots Q (F0 m tgt ls rest)) (kf : ¬ x ≤ y → W p l e R s m args below meth c H locs cells slots Q (F0 m (pc + 3) ls rest)) : W p l e R s m args below meth c H locs cells slots Q (F0 m pc ls (.int Y :: .int X :: rest)) := by
  have key : X ≤ Y ↔ x ≤ y := by rw [Int32.le_iff_toInt_le, hX, hY, zI_toInt b1 b2, zI_toInt b3 b4]
  exact lv_icmp_le hx hb hdg ht (fun h => kt (key.mp h)) (fun h => kf (fun q => h (key.mpr q)))
theorem ln_icmp_gtZ (hx : p.tables.exec = Jvm.exec) (hb : c.code = cc) {x y : Int} {X Y : Int32} {off : Int} {tgt : Nat} (hdg : decode cc pc = .ok (.if_icmp .gt off, 3)) (ht : (pc : Int) + off = (tgt : Int)) (hX : X = zI x) (hY : Y = zI y) (b1 : -2147483648 ≤ x) (b2 : x < 2147483648) (b3 : -2147483648 ≤ y) (b4 : y < 2147483648) (kt : y < x → W p l e R s m args below meth c H locs cells slots Q (F0 m tgt ls rest)) (kf : ¬ y < x → W p l e R s m args below meth c H locs cells slots Q (F0 m (pc + 3) ls rest)) : W p l e R s m args below meth c H locs cells slots Q (F0 m pc ls (.int Y :: .int X :: rest)) := by
  have key : Y < X ↔ y < x := by rw [Int32.lt_iff_toInt_lt, hX, hY, zI_toInt b1 b2, zI_toInt b3 b4]
  exact lv_icmp_gt hx hb hdg ht (fun h => kt (key.mp h)) (fun h => kf (fun q => h (key.mpr q)))
theorem ln_icmp_geZ (hx : p.tables.exec = Jvm.exec) (hb : c.code = cc) {x y : Int} {X Y : Int32} {off : Int} {tgt : Nat} (hdg : decode cc pc = .ok (.if_icmp .ge off, 3)) (ht : (pc : Int) + off = (tgt : Int)) (hX : X = zI x) (hY : Y = zI y) (b1 : -2147483648 ≤ x) (b2 : x < 2147483648) (b3 : -2147483648 ≤ y) (b4 : y < 2147483648) (kt : y ≤ x → W p l e R s m args below meth c H locs cells slots Q (F0 m tgt ls rest)) (kf : ¬ y ≤ x → W p l e R s m args below meth c H locs cells slots Q (F0 m (pc + 3) ls rest)) : W p l e R s m args below meth c H locs cells slots Q (F0 m pc ls (.int Y :: .int X :: rest)) := by
  have key : Y ≤ X ↔ y ≤ x := by rw [Int32.le_iff_toInt_le, hX, hY, zI_toInt b1 b2, zI_toInt b3 b4]
  exact lv_icmp_ge hx hb hdg ht (fun h => kt (key.mp h)) (fun h => kf (fun q => h (key.mpr q)))
theorem ln_icmp_eqB0 (hx : p.tables.exec = Jvm.exec) (hb : c.code = cc) {x : Bool} {off : Int} {tgt : Nat} (hdg : decode cc pc = .ok (.if_icmp .eq off, 3)) (ht : (pc : Int) + off = (tgt : Int)) (kt : x = false → W p l e R s m args below meth c H locs cells slots Q (F0 m tgt ls rest)) (kf : x = true → W p l e R s m args below meth c H locs cells slots Q (F0 m (pc + 3) ls rest)) : W p l e R s m args below meth c H locs cells slots Q (F0 m pc ls (.int (nI 0) :: .int (bI x) :: rest)) :=
  lv_icmp_eq hx hb hdg ht (fun h => kt (by cases x <;> first | rfl | exact False.elim (by revert h; decide))) (fun h => kf (by cases x <;> first | rfl | exact False.elim (by revert h; decide)))
theorem ln_icmp_eqB1 (hx : p.tables.exec = Jvm.exec) (hb : c.code = cc) {x : Bool} {off : Int} {tgt : Nat} (hdg : decode cc pc = .ok (.if_icmp .eq off, 3)) (ht : (pc : Int) + off = (tgt : Int)) (kt : x = true → W p l e R s m args below meth c H locs cells slots Q (F0 m tgt ls rest)) (kf : x = false → W p l e R s m args below meth c H locs cells slots Q (F0 m (pc + 3) ls rest)) : W p l e R s m args below meth c H locs cells slots Q (F0 m pc ls (.int (nI 1) :: .int (bI x) :: rest)) :=
  lv_icmp_eq hx hb hdg ht (fun h => kt (by cases x <;> first | rfl | exact False.elim (by revert h; decide))) (fun h => kf (by cases x <;> first | rfl | exact False.elim (by revert h; decide)))
theorem ln_icmp_neB0 (hx : p.tables.exec = Jvm.exec) (hb : c.code = cc) {x : Bool} {off : Int} {tgt : Nat} (hdg : decode cc pc = .ok (.if_icmp .ne off, 3)) (ht : (pc : Int) + off = (tgt : Int)) (kt : x = true → W p l e R s m args below meth c H locs cells slots Q (F0 m tgt ls rest)) (kf : x = false → W p l e R s m args below meth c H locs cells slots Q (F0 m (pc + 3) ls rest)) : W p l e R s m args below meth c H locs cells slots Q (F0 m pc ls (.int (nI 0) :: .int (bI x) :: rest)) :=
  lv_icmp_ne hx hb hdg ht (fun h => kt (by cases x <;> first | rfl | exact False.elim (by revert h; decide))) (fun h => kf (by cases x <;> first | rfl | exact False.elim (by revert h; decide)))
theorem ln_icmp_neB1 (hx : p.tables.exec = Jvm.exec) (hb : c.code = cc) {x : Bool} {off : Int} {tgt : Nat} (hdg : decode cc pc = .ok (.if_icmp .ne off, 3)) (ht : (pc : Int) + off = (tgt : Int)) (kt : x = false → W p l e R s m args below meth c H locs cells slots Q (F0 m tgt ls rest)) (kf : x = true → W p l e R s m args below meth c H locs cells slots Q (F0 m (pc + 3) ls rest)) : W p l e R s m args below meth c H locs cells slots Q (F0 m pc ls (.int (nI 1) :: .int (bI x) :: rest)) :=
  lv_icmp_ne hx hb hdg ht (fun h => kt (by cases x <;> first | rfl | exact False.elim (by revert h; decide))) (fun h => kf (by cases x <;> first | rfl | exact False.elim (by revert h; decide)))
end LZ
end
section
/-! SPEC: the words in which both sides are told, over natural numbers. A state is a function g : Nat → Nat of 60 places, laid as the reference's row is: 0 how many, 1.. the triples, 41 the kept orders, 42 43 44 the costs, 45 asked, 46 how many are remembered, 47.. these, 59 the weight. -/
theorem byf_lt (j : Nat) : byf j < 3 := by
  by_cases h : j < 18
  · exact (show ∀ k, k < 18 → byf k < 3 by decide +kernel) j h
  · unfold byf
    have hl : byl[j]? = none := List.getElem?_eq_none (Nat.le_of_not_lt h)
    rw [List.getD_eq_getElem?_getD, hl]
    decide
/-- a question's digit, 10 where it is free -/
def k_dg (x c : Nat) : Nat := if c = 0 then x / 121 else if c = 1 then x / 11 % 11 else x % 11
def k_pt (t c : Nat) : Nat := if c = 0 then t / 100 else if c = 1 then t / 10 % 10 else t % 10
def k_un (c : Nat) : Nat := if c = 0 then 121 else if c = 1 then 11 else 1
theorem k_dg_le {x c : Nat} (h : x < 1331) : k_dg x c ≤ 10 := by unfold k_dg; split <;> (try split) <;> omega
theorem k_pt_le {t c : Nat} (h : t < 1000) : k_pt t c ≤ 9 := by unfold k_pt; split <;> (try split) <;> omega
theorem k_un_le (c : Nat) : k_un c ≤ 121 := by unfold k_un; split <;> (try split) <;> omega
/-- what a triple is in an order -/
def k_rk (t q : Nat) : Nat := 10 * (10 * (10 * 0 + k_pt t (byf (3 * q + 0))) + k_pt t (byf (3 * q + 1))) + k_pt t (byf (3 * q + 2))
def k_rch (x q : Nat) : Nat := if k_dg x (byf (3 * q + 0)) = 10 then 0 else if k_dg x (byf (3 * q + 1)) = 10 then 1 else if k_dg x (byf (3 * q + 2)) = 10 then 2 else 3
theorem k_rch_le (x q : Nat) : k_rch x q ≤ 3 := by unfold k_rch; split <;> (try split) <;> (try split) <;> omega
def k_f (x c : Nat) : Nat := if k_dg x c = 10 then 0 else 1
def k_bnd (x : Nat) : Nat := k_f x 0 + k_f x 1 + k_f x 2
theorem k_f_le (x c : Nat) : k_f x c ≤ 1 := by unfold k_f; split <;> omega
theorem k_bnd_le (x : Nat) : k_bnd x ≤ 3 := by have h0 := k_f_le x 0; have h1 := k_f_le x 1; have h2 := k_f_le x 2; unfold k_bnd; omega
/-- what is added to free the component at a place of an order -/
def k_fr (x q i : Nat) : Nat := k_un (byf (3 * q + i)) * (10 - k_dg x (byf (3 * q + i)))
/-- the question with what stands behind the reach r free -/
def k_red (x q r : Nat) : Nat := if r = 0 then x + k_fr x q 0 + k_fr x q 1 + k_fr x q 2 else if r = 1 then x + k_fr x q 1 + k_fr x q 2 else if r = 2 then x + k_fr x q 2 else x
def k_isA (x t : Nat) : Bool := decide ((k_dg x 0 = 10 ∨ k_dg x 0 = k_pt t 0) ∧ (k_dg x 1 = 10 ∨ k_dg x 1 = k_pt t 1) ∧ (k_dg x 2 = 10 ∨ k_dg x 2 = k_pt t 2))
/-- how many of the first n answer -/
def k_cn (g : Nat → Nat) (x : Nat) : Nat → Nat
  | 0 => 0
  | n + 1 => k_cn g x n + if k_isA x (g (1 + n)) = true then 1 else 0
theorem k_cn_le (g : Nat → Nat) (x : Nat) : ∀ n, k_cn g x n ≤ n
  | 0 => Nat.le_refl 0
  | n + 1 => by have h := k_cn_le g x n; rw [k_cn]; split <;> omega
def k_cnt (g : Nat → Nat) (x : Nat) : Nat := k_cn g x (g 0)
theorem k_cnt_le (g : Nat → Nat) (x : Nat) : k_cnt g x ≤ g 0 := k_cn_le g x _
/-- the least k with 2^k above n, for n up to 40 -/
def k_lk (n : Nat) : Nat := if n < 1 then 0 else if n < 2 then 1 else if n < 4 then 2 else if n < 8 then 3 else if n < 16 then 4 else if n < 32 then 5 else 6
theorem k_lk_le (n : Nat) : k_lk n ≤ 6 := by unfold k_lk; (repeat' split) <;> omega
theorem k_lk_c (n k : Nat) (hn : n ≤ 40) (hk : k ≤ 6) (h1 : k = 0 ∨ 2 ^ (k - 1) ≤ n) (h2 : n < 2 ^ k) : k_lk n = k := by
  unfold k_lk
  rcases (show k = 0 ∨ k = 1 ∨ k = 2 ∨ k = 3 ∨ k = 4 ∨ k = 5 ∨ k = 6 by omega) with rfl | rfl | rfl | rfl | rfl | rfl | rfl <;> ((repeat' split) <;> omega)
/-- what a question costs by an order, as if it was kept -/
def k_cb (g : Nat → Nat) (x q : Nat) : Nat := if k_rch x q = 0 then g 0 else k_lk (g 0) + k_cnt g (k_red x q (k_rch x q))
theorem k_cb_le (g : Nat → Nat) (x q : Nat) : k_cb g x q ≤ g 0 + 6 := by
  unfold k_cb
  have h1 := k_cnt_le g (k_red x q (k_rch x q))
  have h2 := k_lk_le (g 0)
  split <;> omega
/-- whether a set of orders has the order q -/
def k_in (set q : Nat) : Bool := decide (set / 2 ^ q % 2 = 1)
theorem k_min {x y : Nat} (hx : x < 2 ^ 31) (hy : y < 2 ^ 31) : (if nI y < nI x then nI y else nI x) = nI (min x y) := by
  by_cases h : y < x
  · rw [if_pos ((nI_ltI hy hx).mpr h), Nat.min_eq_right (Nat.le_of_lt h)]
  · rw [if_neg (fun q => h ((nI_ltI hy hx).mp q)), Nat.min_eq_left (Nat.le_of_not_lt h)]
theorem k_pow64 {q : Nat} (h : q < 6) : 2 ^ q < 64 := Nat.lt_of_le_of_lt (Nat.pow_le_pow_right (by decide) (show q ≤ 5 by omega)) (by decide)
theorem k_pow6 {q : Nat} (h : q < 6) : 2 ^ q ≤ 32 := Nat.le_trans (Nat.pow_le_pow_right (by decide) (show q ≤ 5 by omega)) (by decide)
/-- the class's state: an object, the row of its triples, the row of its questions. What is told of g in them: -/
abbrev w_st (tc : Nat → ClassId) (a a1 a2 : Nat) (tr qs : Nat → Int32) (g : Nat → Nat) : va_W := [(a, .inr (3, [.ref a1, .int (nI (g 0)), .int (nI (g 41)), .int (nI (g 42)), .int (nI (g 43)), .int (nI (g 44)), .int (nI (g 45)), .ref a2, .int (nI (g 46)), .int (nI (g 59))])), (a1, .inl (tc 0, 40, .inl tr)), (a2, .inl (tc 0, 12, .inl qs))]
/-- a state that can be: what is counted keeps its bounds, no two triples are alike -/
def k_ok (g : Nat → Nat) : Prop := g 0 ≤ 40 ∧ g 41 < 64 ∧ g 46 ≤ 12 ∧ g 59 ≤ 99 ∧ (∀ i, i < g 0 → g (1 + i) < 1000) ∧ (∀ i, i < g 46 → g (47 + i) < 1331) ∧ (∀ i j, i < g 0 → j < g 0 → g (1 + i) = g (1 + j) → i = j)
def k_R (tr qs : Nat → Int32) (g : Nat → Nat) : Prop := (∀ i, i < g 0 → tr i = nI (g (1 + i))) ∧ (∀ i, i < g 46 → qs i = nI (g (47 + i)))
theorem k_red_lt {x q r : Nat} (hx : x < 1331) (hq : q < 6) : k_red x q r < 1331 := by
  rcases (show q = 0 ∨ q = 1 ∨ q = 2 ∨ q = 3 ∨ q = 4 ∨ q = 5 by omega) with rfl | rfl | rfl | rfl | rfl | rfl <;> simp [k_red, k_fr, byf, byl, k_un, k_dg] <;> (repeat' split) <;> omega
/-- the question with the component c bound to d too; none if it is bound to another digit -/
def k_bt (x c d : Nat) : Option Nat := if k_dg x c = d then some x else if k_dg x c = 10 then some (x - k_un c * (10 - d)) else none
theorem k_un10 {x c d : Nat} (hc : c < 3) (h : k_dg x c = 10) : k_un c * (10 - d) ≤ x := by
  rcases (show c = 0 ∨ c = 1 ∨ c = 2 by omega) with rfl | rfl | rfl <;> simp [k_un, k_dg] at h ⊢ <;> omega
theorem k_bt_lt {x c d y : Nat} (hx : x < 1331) (h : k_bt x c d = some y) : y < 1331 := by
  unfold k_bt at h
  split at h
  · cases h; exact hx
  · split at h
    · cases h; omega
    · cases h
/-- the place of a triple among the first n, none -/
def k_ix0 (g : Nat → Nat) (t : Nat) : Nat → Option Nat
  | 0 => none
  | n + 1 => match k_ix0 g t n with
    | some i => some i
    | none => if g (1 + n) = t then some n else none
def k_ix (g : Nat → Nat) (t : Nat) : Option Nat := k_ix0 g t (g 0)
theorem k_ix0_lt {g : Nat → Nat} {t : Nat} : ∀ {n r : Nat}, k_ix0 g t n = some r → r < n ∧ g (1 + r) = t
  | 0, r, h => by cases h
  | n + 1, r, h => by
    rw [k_ix0] at h
    cases h1 : k_ix0 g t n with
    | some i => rw [h1] at h; cases h; have h2 := k_ix0_lt h1; exact ⟨by omega, h2.2⟩
    | none =>
      rw [h1] at h
      by_cases h2 : g (1 + n) = t
      · rw [if_pos h2] at h; cases h; exact ⟨by omega, h2⟩
      · rw [if_neg h2] at h; cases h
theorem k_ix_lt {g : Nat → Nat} {t r : Nat} (h : k_ix g t = some r) : r < g 0 := (k_ix0_lt h).1
theorem k_ix0_mono {g : Nat → Nat} {t r i : Nat} (h : k_ix0 g t i = some r) : ∀ {n : Nat}, i ≤ n → k_ix0 g t n = some r
  | 0, hn => by have e : i = 0 := (by omega); subst e; exact h
  | n + 1, hn => by
    rcases Nat.lt_or_ge n i with q | q
    · have e : i = n + 1 := by omega
      subst e; exact h
    · rw [k_ix0, k_ix0_mono h q]
theorem k_ix_hit {g : Nat → Nat} {t i : Nat} (h : k_ix0 g t i = none) (h2 : g (1 + i) = t) (hi : i < g 0) : k_ix g t = some i := by
  refine k_ix0_mono (i := i + 1) ?_ hi
  rw [k_ix0, h]
  exact if_pos h2
/-- the least cost by the first orders of a set, or the full walk's -/
def k_mn (g : Nat → Nat) (x set : Nat) : Nat → Nat
  | 0 => g 0
  | q + 1 => if k_in set q = true then min (k_mn g x set q) (k_cb g x q) else k_mn g x set q
theorem k_mn_le (g : Nat → Nat) (x set : Nat) : ∀ n, k_mn g x set n ≤ g 0
  | 0 => Nat.le_refl _
  | n + 1 => by have h := k_mn_le g x set n; rw [k_mn]; split <;> omega
/-- the order that it is by, none by a full walk -/
def k_or (g : Nat → Nat) (x set : Nat) : Nat → Option Nat
  | 0 => none
  | q + 1 => if k_in set q = true ∧ k_cb g x q < k_mn g x set q then some q else k_or g x set q
/-- whether by q the answers come sorted by the component c next -/
def k_sb (x q c : Nat) : Bool := decide (k_rch x q < 3 ∧ k_rch x q = k_bnd x ∧ byf (3 * q + k_rch x q) = c)
def k_ms (g : Nat → Nat) (x c : Nat) : Nat → Option Nat
  | 0 => none
  | q + 1 => if k_in (g 41) q = true ∧ k_sb x q c = true then (match k_ms g x c q with
      | none => some (k_cb g x q)
      | some v => some (min v (k_cb g x q))) else k_ms g x c q
theorem k_ms_le {g : Nat → Nat} {x c : Nat} : ∀ {n v : Nat}, k_ms g x c n = some v → v ≤ g 0 + 6
  | 0, v, h => by cases h
  | n + 1, v, h => by
    rw [k_ms] at h
    have hc := k_cb_le g x n
    split at h
    · cases h1 : k_ms g x c n with
      | none => rw [h1] at h; cases h; exact hc
      | some w => rw [h1] at h; cases h; have h2 := k_ms_le h1; omega
    · exact k_ms_le h
/-- what a triple's place is sorted by: in an order, or as triples came -/
def k_ra (g : Nat → Nat) (qo : Option Nat) (i : Nat) : Nat := match qo with
  | none => i
  | some q => k_rk (g (1 + i)) q
theorem k_rk_lt {t q : Nat} (h : t < 1000) : k_rk t q < 1000 := by
  have h0 := k_pt_le (t := t) (c := byf (3 * q + 0)) h
  have h1 := k_pt_le (t := t) (c := byf (3 * q + 1)) h
  have h2 := k_pt_le (t := t) (c := byf (3 * q + 2)) h
  unfold k_rk; omega
theorem k_ra_lt {g : Nat → Nat} (hk : k_ok g) {qo : Option Nat} {i : Nat} (hi : i < g 0) : k_ra g qo i < 1000 := by
  cases qo with
  | none => have := hk.1; show i < 1000; omega
  | some q => exact k_rk_lt (hk.2.2.2.2.1 i hi)
/-- how many answers among the first n stand before the place j -/
def k_bf (g : Nat → Nat) (x : Nat) (qo : Option Nat) (j : Nat) : Nat → Nat
  | 0 => 0
  | i + 1 => k_bf g x qo j i + if k_isA x (g (1 + i)) = true ∧ k_ra g qo i < k_ra g qo j then 1 else 0
theorem k_bf_le (g : Nat → Nat) (x : Nat) (qo : Option Nat) (j : Nat) : ∀ n, k_bf g x qo j n ≤ n
  | 0 => Nat.le_refl 0
  | n + 1 => by have h := k_bf_le g x qo j n; rw [k_bf]; split <;> omega
theorem k_bf_lt (g : Nat → Nat) (x : Nat) (qo : Option Nat) (j : Nat) : ∀ n, j < n → k_bf g x qo j n < n
  | 0, h => absurd h (Nat.not_lt_zero _)
  | n + 1, h => by
    rw [k_bf]
    rcases Nat.lt_or_ge j n with q | q
    · have h1 := k_bf_lt g x qo j n q; split <;> omega
    · have e : j = n := by omega
      subst e
      rw [if_neg (fun h9 => Nat.lt_irrefl _ h9.2)]
      have := k_bf_le g x qo j j; omega
/-- the answer at a place, among the first n -/
def k_aa (g : Nat → Nat) (x : Nat) (qo : Option Nat) (pl : Nat) : Nat → Option Nat
  | 0 => none
  | n + 1 => match k_aa g x qo pl n with
    | some t => some t
    | none => if k_isA x (g (1 + n)) = true ∧ k_bf g x qo n (g 0) = pl then some (g (1 + n)) else none
theorem k_aa_mono {g : Nat → Nat} {x : Nat} {qo : Option Nat} {pl r i : Nat} (h : k_aa g x qo pl i = some r) : ∀ {n : Nat}, i ≤ n → k_aa g x qo pl n = some r
  | 0, hn => by have e : i = 0 := (by omega); subst e; exact h
  | n + 1, hn => by
    rcases Nat.lt_or_ge n i with q | q
    · have e : i = n + 1 := by omega
      subst e; exact h
    · rw [k_aa, k_aa_mono h q]
theorem k_aa_hit {g : Nat → Nat} {x : Nat} {qo : Option Nat} {pl i : Nat} (h : k_aa g x qo pl i = none) (h1 : k_isA x (g (1 + i)) = true) (h2 : k_bf g x qo i (g 0) = pl) (hi : i < g 0) : k_aa g x qo pl (g 0) = some (g (1 + i)) := by
  refine k_aa_mono (i := i + 1) ?_ hi
  rw [k_aa, h]
  exact if_pos ⟨h1, h2⟩
theorem k_aa_miss {g : Nat → Nat} {x : Nat} {qo : Option Nat} {pl i : Nat} (h : k_aa g x qo pl i = none) (h1 : ¬ (k_isA x (g (1 + i)) = true ∧ k_bf g x qo i (g 0) = pl)) : k_aa g x qo pl (i + 1) = none := by
  rw [k_aa, h]
  exact if_neg h1
theorem k_aa_big (g : Nat → Nat) (x : Nat) (qo : Option Nat) (pl : Nat) (h : g 0 ≤ pl) : ∀ n, n ≤ g 0 → k_aa g x qo pl n = none
  | 0, _ => rfl
  | n + 1, hn => k_aa_miss (k_aa_big g x qo pl h n (by omega)) (fun h9 => by have h8 := k_bf_lt g x qo n (g 0) (by omega); omega)
theorem k_lk_up {k n : Nat} (hk : k ≤ 6) (h : 2 ^ k ≤ n) (hn : n ≤ 40) : k + 1 ≤ 6 ∧ (k + 1 = 0 ∨ 2 ^ (k + 1 - 1) ≤ n) := by
  refine ⟨?_, Or.inr (by rw [Nat.add_sub_cancel]; omega)⟩
  rcases Nat.lt_or_ge k 6 with q | q
  · exact q
  · have e : k = 6 := by omega
    subst e
    omega
/-- the reference's own object: its fields, of which o tells what isn't the row s -/
abbrev w_ms (tc : Nat → ClassId) (b b1 : Nat) (o : Nat → Value) (g : Nat → Nat) : va_W := [(b, .inr (6, [o 0, .ref b1, o 2, o 3, o 4, o 5, o 6, o 7, o 8])), (b1, .inl (tc 0, 60, .inl (fun k => nI (g k))))]
def k_isU (x t : Nat) : Nat → Bool
  | 0 => true
  | c + 1 => k_isU x t c && (decide (k_dg x c = 10) || decide (k_dg x c = k_pt t c))
theorem k_isU3 (x t : Nat) : k_isU x t 3 = k_isA x t := by
  simp [k_isU, k_isA, Bool.decide_and, Bool.decide_or, Bool.and_assoc]
def k_pc (set : Nat) : Nat := set / 2 ^ 0 % 2 + set / 2 ^ 1 % 2 + set / 2 ^ 2 % 2 + set / 2 ^ 3 % 2 + set / 2 ^ 4 % 2 + set / 2 ^ 5 % 2
theorem k_pc_le (set : Nat) : k_pc set ≤ 6 := by unfold k_pc; omega
/-- whether one of the first k components of the order q is c -/
def k_isn (q c : Nat) : Nat → Bool
  | 0 => false
  | k + 1 => k_isn q c k || decide (byf (3 * q + k) = c)
/-- the digits of what is reached, by the components -/
def k_rd (x q r : Nat) : Nat → Nat
  | 0 => 0
  | c + 1 => 11 * k_rd x q r c + (if k_isn q c r = true then k_dg x c else 10)
theorem k_rd_lt {x q r : Nat} (hx : x < 1331) : ∀ c, c ≤ 3 → k_rd x q r c < 11 ^ c
  | 0, _ => Nat.zero_lt_one
  | c + 1, h => by
    have h1 := k_rd_lt (q := q) (r := r) hx c (by omega)
    have h2 := k_dg_le (x := x) (c := c) hx
    rw [k_rd, Nat.pow_succ]
    split <;> omega
theorem k_rd_red {x q r : Nat} (hx : x < 1331) (hq : q < 6) (hr : r ≤ 3) : k_rd x q r 3 = k_red x q r := by
  rcases (show q = 0 ∨ q = 1 ∨ q = 2 ∨ q = 3 ∨ q = 4 ∨ q = 5 by omega) with rfl | rfl | rfl | rfl | rfl | rfl <;> rcases (show r = 0 ∨ r = 1 ∨ r = 2 ∨ r = 3 by omega) with rfl | rfl | rfl | rfl <;> simp [k_rd, k_isn, k_red, k_fr, byf, byl, k_un, k_dg] <;> omega
theorem k_or_lt {g : Nat → Nat} {x set : Nat} : ∀ {n r : Nat}, k_or g x set n = some r → r < n ∧ k_cb g x r = k_mn g x set n
  | 0, r, h => by cases h
  | n + 1, r, h => by
    rw [k_or] at h
    split at h
    · rename_i h1
      cases h
      refine ⟨by omega, ?_⟩
      rw [k_mn, if_pos h1.1, Nat.min_eq_right (by omega)]
    · rename_i h1
      have h2 := k_or_lt h
      refine ⟨by omega, ?_⟩
      rw [k_mn, h2.2]
      split
      · rename_i h3
        rw [Nat.min_eq_left]
        exact Nat.le_of_not_lt fun q => h1 ⟨h3, q⟩
      · rfl
theorem k_or_none {g : Nat → Nat} {x set : Nat} : ∀ {n : Nat}, k_or g x set n = none → k_mn g x set n = g 0
  | 0, _ => rfl
  | n + 1, h => by
    rw [k_or] at h
    split at h
    · cases h
    · rename_i h1
      rw [k_mn]
      have h2 := k_or_none h
      split
      · rename_i h3
        rw [Nat.min_eq_left, h2]
        exact Nat.le_of_not_lt fun q => h1 ⟨h3, q⟩
      · exact h2
theorem k_ix_none {g : Nat → Nat} (hk : k_ok g) {t i : Nat} (hi : i < g 0) (h : g (1 + i) = t) : ∀ n, n ≤ i → k_ix0 g t n = none
  | 0, _ => rfl
  | n + 1, hn => by
    rw [k_ix0, k_ix_none hk hi h n (by omega)]
    refine if_neg fun q => ?_
    have := hk.2.2.2.2.2.2 n i (by omega) hi (by rw [q, h])
    omega
theorem k_ix_yes {g : Nat → Nat} (hk : k_ok g) {t i : Nat} (hi : i < g 0) (h : g (1 + i) = t) : k_ix0 g t (i + 1) = some i := by
  rw [k_ix0, k_ix_none hk hi h i (Nat.le_refl i)]
  exact if_pos h
theorem k_ix_no {g : Nat → Nat} {t i : Nat} (h : ¬ g (1 + i) = t) : k_ix0 g t (i + 1) = k_ix0 g t i := by
  rw [k_ix0]
  cases k_ix0 g t i with
  | some j => rfl
  | none => exact if_neg h
theorem k_bf_cn {g : Nat → Nat} {x j : Nat} : ∀ n, k_bf g x none j n = k_cn g x (min j n)
  | 0 => by rw [Nat.min_zero]; rfl
  | n + 1 => by
    rw [k_bf, k_bf_cn n]
    show k_cn g x (min j n) + (if k_isA x (g (1 + n)) = true ∧ n < j then 1 else 0) = _
    rcases Nat.lt_or_ge n j with q | q
    · rw [Nat.min_eq_right (Nat.le_of_lt q), Nat.min_eq_right (show n + 1 ≤ j from q), k_cn]
      simp [q]
    · rw [Nat.min_eq_left q, Nat.min_eq_left (show j ≤ n + 1 by omega), if_neg (fun h => by omega)]
      rfl
theorem k_bf_none {g : Nat → Nat} {x j : Nat} (h : j < g 0) : k_bf g x none j (g 0) = k_cn g x j := by
  rw [k_bf_cn, Nat.min_eq_left (Nat.le_of_lt h)]
theorem k_nlt64 {x y : Int64} (h : ¬ y < x) : x ≤ y := by
  rw [Int64.lt_iff_toInt_lt] at h
  rw [Int64.le_iff_toInt_le]
  omega
theorem k_le64 {x y : Int64} (h : x ≤ y) : ¬ y < x := by
  rw [Int64.le_iff_toInt_le] at h
  rw [Int64.lt_iff_toInt_lt]
  omega
def bcU (x y : Int32) : Int32 := (x.toUInt32 >>> (y.toUInt32 &&& Int32.toUInt32 31)).toInt32
def bc1 (i : Int32) : Int32 := i - (bcU i (nI 1) &&& 1431655765)
def bc2 (i : Int32) : Int32 := (i &&& 858993459) + (bcU i (nI 2) &&& 858993459)
def bc3 (i : Int32) : Int32 := (i + bcU i (nI 4)) &&& 252645135
def bc4 (i : Int32) : Int32 := i + bcU i (nI 8)
def bc5 (i : Int32) : Int32 := i + bcU i (nI 16)
theorem bc_ok : ∀ k, k < 64 → (bc5 (bc4 (bc3 (bc2 (bc1 (nI k))))) &&& nI 63) = nI (k_pc k) := by decide +kernel
end
section
/-! IP: the contract of a method that writes into cells of its own world w, makes none, answers v; w1 is that world behind it (the same addresses). -/
def inw (w : va_W) : Nat → Prop := fun q => ∃ (k : Nat) (e : va_E), w[k]? = some (q, e)
theorem inw_self {A : Nat → Prop} {w : va_W} (h : va_D A w) : va_D (inw w) w := ⟨h.1, fun k q hk => ⟨k, q.2, hk⟩⟩
theorem inw_sub {A : Nat → Prop} {ws wc : va_W} (hD : va_D A ws) (isC : List Nat) (hC : isC.map (fun i => ws[i]?) = wc.map some) : ∀ q, inw wc q → A q := by
  rintro q ⟨k, e, h⟩
  have h1 : (isC.map (fun i => ws[i]?))[k]? = some (some (q, e)) := by rw [hC, List.getElem?_map, h]; rfl
  rw [List.getElem?_map] at h1
  cases hi : isC[k]? with
  | none => rw [hi] at h1; cases h1
  | some i => rw [hi] at h1; exact hD.2 i (q, e) (Option.some.inj h1)
theorem va_P_map {D : va_G} {cl : List vw_C} {ws wc : va_W} {H : Heap} (h : va_P D cl ws H) (isC : List Nat) (hC : isC.map (fun i => ws[i]?) = wc.map some) : va_P D cl wc H := by
  intro k q hk
  have h1 : (isC.map (fun i => ws[i]?))[k]? = some (some q) := by rw [hC, List.getElem?_map, hk]; rfl
  rw [List.getElem?_map] at h1
  cases hi : isC[k]? with
  | none => rw [hi] at h1; cases h1
  | some i => rw [hi] at h1; exact h i q (Option.some.inj h1)
theorem va_D_addr {A : Nat → Prop} {ws ws' : va_W} (hD : va_D A ws) (h : ws'.map Prod.fst = ws.map Prod.fst) : va_D A ws' := by
  have key : ∀ (k : Nat) (q : Nat × va_E), ws'[k]? = some q → ∃ q0 : Nat × va_E, ws[k]? = some q0 ∧ q0.1 = q.1 := by
    intro k q hk
    have h1 : (ws'.map Prod.fst)[k]? = some q.1 := by rw [List.getElem?_map, hk]; rfl
    rw [h, List.getElem?_map] at h1
    cases h2 : ws[k]? with
    | none => rw [h2] at h1; cases h1
    | some q0 => rw [h2] at h1; exact ⟨q0, rfl, Option.some.inj h1⟩
  refine ⟨fun i j p q hp hq e => ?_, fun k q hk => ?_⟩
  · obtain ⟨p0, a1, a2⟩ := key i p hp
    obtain ⟨q0, b1, b2⟩ := key j q hq
    exact hD.1 i j p0 q0 a1 b1 (by rw [a2, b2, e])
  · obtain ⟨q0, a1, a2⟩ := key k q hk
    rw [← a2]
    exact hD.2 k q0 a1
theorem ip_join {D : va_G} {cl : List vw_C} {A : Nat → Prop} {ws wc w1 ws' : va_W} {H H1 : Heap} (hP : va_P D cl ws H) (hD : va_D A ws) (isC : List Nat) (hC : isC.map (fun i => ws[i]?) = wc.map some) (hk : ∀ q : Nat, q < H.size → ¬ inw wc q → H1[q]? = H[q]?) (hP1 : va_P D cl w1 H1)
    (ps : List (Bool × Nat)) (hps : ps.map (fun x => if x.1 = true then w1[x.2]? else ws[x.2]?) = ws'.map some) (hok : ps.all (fun x => x.1 || decide (x.2 ∉ isC)) = true) : va_P D cl ws' H1 := by
  intro k q hq
  have h1 : (ps.map (fun x => if x.1 = true then w1[x.2]? else ws[x.2]?))[k]? = some (some q) := by rw [hps, List.getElem?_map, hq]; rfl
  rw [List.getElem?_map] at h1
  cases hx : ps[k]? with
  | none => rw [hx] at h1; cases h1
  | some x =>
    rw [hx] at h1
    obtain ⟨b, i⟩ := x
    cases b with
    | true => exact hP1 i q (Option.some.inj h1)
    | false =>
      have h2 : ws[i]? = some q := Option.some.inj h1
      have hi : i ∉ isC := by
        have h9 := List.all_eq_true.mp hok (false, i) (List.mem_of_getElem? hx)
        simpa using h9
      refine (hP i q h2).kept (hk q.1 (hP i q h2).lt ?_)
      rintro ⟨k2, e, h⟩
      have h3 : (isC.map (fun i => ws[i]?))[k2]? = some (some (q.1, e)) := by rw [hC, List.getElem?_map, h]; rfl
      rw [List.getElem?_map] at h3
      cases hj : isC[k2]? with
      | none => rw [hj] at h3; cases h3
      | some j =>
        rw [hj] at h3
        have h4 : ws[j]? = some (q.1, e) := Option.some.inj h3
        have h5 := hD.1 i j q (q.1, e) h2 h4 rfl
        subst h5
        exact hi (List.mem_of_getElem? hj)
def ipB (D : va_G) (tc : Nat → ClassId) (zb : Nat) (w : va_W) (U : State) : Prop := amb D tc zb (inw w) U U.heap ∧ va_P D vwCl w U.heap ∧ va_D (inw w) w
def ipQ (D : va_G) (A : Nat → Prop) (w1 : va_W) (v : Option Value) : Array Value → State → Outcome → State → Prop := fun _ st oc t => oc = .returned v ∧ va_P D vwCl w1 t.heap ∧ va_F A st t
def IP (l : Launch) (y : MethodName) (ws : List Cond) (fr lo : Nat) (D : va_G) (tc : Nat → ClassId) (zb : Nat) (w w1 : va_W) (av : List Value) (v : Option Value) : Prop := Met l y ws ({ frames := fr, cells := 0, slots := 0, locals := lo } : Room) (va_Pc av (ipB D tc zb w)) (ipQ D (inw w) w1 v) 0 0 (inw w)
theorem ipB_blind {D : va_G} {tc : Nat → ClassId} {zb : Nat} {w : va_W} {av : List Value} : FrameBlind (va_Pc av (ipB D tc zb w)) := fun a U g mk q => ⟨q.1, amb.same (u := U) (U := U.calling g mk a) rfl q.2.1, q.2.2⟩
theorem IP.of {l : Launch} {y : MethodName} {ws ws' : List Cond} {fr lo : Nat} {D : va_G} {tc : Nat → ClassId} {zb : Nat} {w w1 : va_W} {av : List Value} {v : Option Value} {cc : ByteArray} {maxL : Nat} {ret : Option FieldType}
    (hy : plainName y.cls = true) (hw : ws = Cond.code y cc maxL ret :: ws') (hlen : (lg_sl av).length ≤ maxL)
    (body : ∀ (p : Program) (e : Env) (s : State) (m : MethodId) (args : Array Value) (below : List Frame) (meth : Method) (c : Code) (A : Nat → Prop), p.tables.exec = Jvm.exec → c.code = cc → meth.sig.returnType = ret → c.maxLocals = maxL → meth.locks = false → (∀ x ∈ ws, x.before args s = true) → s.vm.findClass y.cls = some m.cls → amb D tc zb A s s.heap → va_S A s.heap s.heap [] → va_P D vwCl w s.heap → va_D A w → ∀ ls : Array Slot, lv_has ls maxL (lv_args 0 av) →
      W p l e ({ frames := fr, cells := 0, slots := 0, locals := lo } : Room) s m args below meth c s.heap [] 0 0 (MQ below (ipQ D A w1 v) args s 0 0 A) (F0 m 0 ls [])) : IP l y ws fr lo D tc zb w w1 av v := by
  refine Met.ofW (cc := cc) (maxL := maxL) (ret := ret) hy hw ?_
  intro p e s m args below meth c s₁ B hml hv
  obtain ⟨rfl, hM, hP, hD⟩ := hv
  have hts := atoms_spec (ws := ws) B.pre
  have hown : s.vm.findClass y.cls = some m.cls := findClass_of_methodNamed B.named
  have hl := lv_entry av (n := maxL) hlen
  have h9 := body p e s m _ below meth c (inw w) B.exec B.bytes B.returns hml B.notSynchronized hts hown hM va_S.rf hP hD _ hl
  rw [lg_entry_eq]
  exact h9
section IPC
variable {p : Program} {l : Launch} {e : Env} {R : Room} {s : State} {m : MethodId} {args : Array Value} {below : List Frame} {meth : Method} {c : Code} {H : Heap} {locs : List Loc} {cells slots : Nat} {Q : State → Prop} {pc : Nat} {ls : Array Slot} {rest st0 : List Value}
variable {y : MethodName} {bytes cc : ByteArray} {maxL nL n idx fr lo : Nat} {ret : Option FieldType} {wsy ws' : List Cond} {Ts : List Cond} {own C : String} {b : Nat} {As : List Value} {v : Option Value} {D : va_G} {tc : Nat → ClassId} {zb : Nat} {A : Nat → Prop} {wl wc w1 wl' : va_W}
theorem ip_go {g : JFrame} {a : Array Value} (hg9 : g = F0 m pc ls st0) (hr : va_Run p l e R s m args below meth c H locs cells slots 0 0 g rest (ipQ D (inw wc) w1 v a) (inw wc)) (hS : va_S A s.heap H locs) (hP : va_P D vwCl wl H) (hD : va_D A wl) (isC : List Nat) (hC : isC.map (fun i => wl[i]?) = wc.map some)
    (ps : List (Bool × Nat)) (hps : ps.map (fun x => if x.1 = true then w1[x.2]? else wl[x.2]?) = wl'.map some) (hok : ps.all (fun x => x.1 || decide (x.2 ∉ isC)) = true) (had : wl'.map Prod.fst = wl.map Prod.fst)
    (kk : ∀ (H1 : Heap) (locs1 : List Loc), va_P D vwCl wl' H1 → va_D A wl' → va_S A s.heap H1 locs1 → W p l e R s m args below meth c H1 locs1 cells slots Q (F0 m (pc + 3) ls (v.toList ++ rest))) : W p l e R s m args below meth c H locs cells slots Q g := by
  subst hg9
  intro T hT X
  obtain ⟨v', st₀, t, T', L, h0, X', hL, e1, e2, ⟨hv, hp1, hz, hk⟩, st⟩ := hr T hT X
  cases hv
  rw [h0] at hz hk
  have hsub := inw_sub hD isC hC
  have hS1 : va_S A s.heap T'.heap (locs ++ L) := ⟨Nat.le_trans hS.1 (by rw [e1]; exact hz), fun q h1 h2 => by rw [e1, hk q (Nat.lt_of_lt_of_le h1 hS.1) (fun z => h2 (hsub q z))]; exact hS.2.1 q h1 h2, fun q hq => (List.mem_append.mp hq).elim (hS.2.2 q) (fun h => hsub _ (hL q h))⟩
  have hP1 : va_P D vwCl wl' T'.heap := ip_join hP hD isC hC (fun q h1 h2 => by rw [e1]; exact hk q h1 h2) (by rw [e1]; exact hp1) ps hps hok
  obtain ⟨t2, a1, b1⟩ := kk T'.heap (locs ++ L) hP1 (va_D_addr hD had) hS1 T' rfl X'
  exact ⟨t2, st t2 a1, b1⟩
theorem ip_V (S : CallFix p m c cc nL s args Ts own) (hM : amb D tc zb A s s.heap) (hS : va_S A s.heap H locs) (hP : va_P D vwCl wl H) (hD : va_D A wl) (hc : IP l y wsy fr lo D tc zb wc w1 (.ref b :: As) v) (hg : GoodIn Ts (wsV own idx C y wsy)) (hw : wsy = Cond.code y bytes maxL ret :: ws')
    (hd : y.cls = C ∧ y.cls ≠ "java/lang/invoke/MethodHandle" ∧ y.cls ≠ "java/lang/invoke/VarHandle" ∧ (parseMethodDescriptor y.desc).map (fun d => d.parameters.length) = some n) (hR : fr + 1 ≤ R.frames ∧ 8 + (maxL + 11) + lo ≤ R.locals)
    (isC : List Nat) (hC : isC.map (fun i => wl[i]?) = wc.map some) (hnd : va_nd isC = true) (ps : List (Bool × Nat)) (hps : ps.map (fun x => if x.1 = true then w1[x.2]? else wl[x.2]?) = wl'.map some) (hok : ps.all (fun x => x.1 || decide (x.2 ∉ isC)) = true) (had : wl'.map Prod.fst = wl.map Prod.fst)
    (hrecv : ∃ cell : Cell, H[b]? = some cell ∧ cell.vm.isStatics = false ∧ s.vm.findClass C = some cell.cls) (hn : As.length = n) (hls : ls.size = nL) (hst : st0 = As.reverse ++ .ref b :: rest) (hW : (rest.map fun v => v.category).sum ≤ 8) (hdg : decode cc pc = .ok (.invokevirtual idx, 3)) (hf : cells ≤ R.cells ∧ slots ≤ R.slots)
    (kk : ∀ (H1 : Heap) (locs1 : List Loc), va_P D vwCl wl' H1 → va_D A wl' → va_S A s.heap H1 locs1 → W p l e R s m args below meth c H1 locs1 cells slots Q (F0 m (pc + 3) ls (v.toList ++ rest))) : W p l e R s m args below meth c H locs cells slots Q (F0 m pc ls st0) := by
  have hr := va_runV (e := e) (H := H) (locs := locs) (cells := cells) (slots := slots) (below := below) (meth := meth) (g := F0 m pc ls st0) (rest := rest) S hc (cwV n S.2.2.2.2 hg hw rfl rfl hd hR) ⟨ipB_blind, hrecv, fun U hU hW => ⟨rfl, by rw [hU]; exact amb.narrow (amb.moved hW (hM.go hS)) (inw_sub hD isC hC), by rw [hU]; exact va_P_map hP isC hC, inw_self (hD.sub isC hnd hC)⟩⟩ rfl hn hls hst (lv_room hW) hdg hf
  exact ip_go rfl hr hS hP hD isC hC ps hps hok had kk
theorem ip_S (S : CallFix p m c cc nL s args Ts own) (hM : amb D tc zb A s s.heap) (hS : va_S A s.heap H locs) (hP : va_P D vwCl wl H) (hD : va_D A wl) (hc : IP l y wsy fr lo D tc zb wc w1 As v) (hg : GoodIn Ts (va_wsS own idx y wsy)) (hw : wsy = Cond.code y bytes maxL ret :: ws')
    (hd : y.cls ≠ "java/lang/invoke/MethodHandle" ∧ y.cls ≠ "java/lang/invoke/VarHandle" ∧ (parseMethodDescriptor y.desc).map (fun d => d.parameters.length) = some n) (hR : fr + 1 ≤ R.frames ∧ 8 + (maxL + 11) + lo ≤ R.locals)
    (isC : List Nat) (hC : isC.map (fun i => wl[i]?) = wc.map some) (hnd : va_nd isC = true) (ps : List (Bool × Nat)) (hps : ps.map (fun x => if x.1 = true then w1[x.2]? else wl[x.2]?) = wl'.map some) (hok : ps.all (fun x => x.1 || decide (x.2 ∉ isC)) = true) (had : wl'.map Prod.fst = wl.map Prod.fst)
    (hn : As.length = n) (hls : ls.size = nL) (hst : st0 = As.reverse ++ rest) (hW : (rest.map fun v => v.category).sum ≤ 8) (hdg : decode cc pc = .ok (.invokestatic idx, 3)) (hf : cells ≤ R.cells ∧ slots ≤ R.slots)
    (kk : ∀ (H1 : Heap) (locs1 : List Loc), va_P D vwCl wl' H1 → va_D A wl' → va_S A s.heap H1 locs1 → W p l e R s m args below meth c H1 locs1 cells slots Q (F0 m (pc + 3) ls (v.toList ++ rest))) : W p l e R s m args below meth c H locs cells slots Q (F0 m pc ls st0) := by
  have hr := va_runS (e := e) (H := H) (locs := locs) (cells := cells) (slots := slots) (below := below) (meth := meth) (g := F0 m pc ls st0) (rest := rest) S hc (va_cwS n S.2.2.2.2 hg hw rfl rfl hd hR) ⟨ipB_blind, fun U hU hW => ⟨rfl, by rw [hU]; exact amb.narrow (amb.moved hW (hM.go hS)) (inw_sub hD isC hC), by rw [hU]; exact va_P_map hP isC hC, inw_self (hD.sub isC hnd hC)⟩⟩ rfl hn hls hst (lv_room hW) hdg hf
  exact ip_go rfl hr hS hP hD isC hC ps hps hok had kk
theorem ip_iret {x x' : Int32} (hx : p.tables.exec = Jvm.exec) (hb : c.code = cc) (hr : meth.sig.returnType = some .int) (hlk : meth.locks = false) (hdg : decode cc pc = .ok (.ireturn, 1)) (hS : va_S A s.heap H locs) (hv : x' = x) (hP : va_P D vwCl w1 H) : W p l e R s m args below meth c H locs 0 0 (MQ below (ipQ D A w1 (some (.int x))) args s 0 0 A) (F0 m pc ls [.int x']) :=
  W.iret hx hb hr (fun t ht _ => ⟨by rw [hv], by rw [ht]; exact hP, hS.F ht⟩) hS.2.2 hdg hlk
theorem ip_zret {x' : Int32} {v : Bool} (hx : p.tables.exec = Jvm.exec) (hb : c.code = cc) (hr : meth.sig.returnType = some .boolean) (hlk : meth.locks = false) (hdg : decode cc pc = .ok (.ireturn, 1)) (hS : va_S A s.heap H locs) (hv : x' = bI v) (hP : va_P D vwCl w1 H) : W p l e R s m args below meth c H locs 0 0 (MQ below (ipQ D A w1 (some (.int (bI v)))) args s 0 0 A) (F0 m pc ls [.int x']) := by
  subst hv
  exact W.zret hx hb hr (bI_n v) (fun t ht _ => ⟨rfl, by rw [ht]; exact hP, hS.F ht⟩) hS.2.2 hdg hlk
theorem ip_zretN {x x' : Nat} (hx : p.tables.exec = Jvm.exec) (hb : c.code = cc) (hr : meth.sig.returnType = some .boolean) (hlk : meth.locks = false) (hdg : decode cc pc = .ok (.ireturn, 1)) (hS : va_S A s.heap H locs) (hv : nI x' = nI x) (hP : va_P D vwCl w1 H) (h1 : x < 2 := by decide) : W p l e R s m args below meth c H locs 0 0 (MQ below (ipQ D A w1 (some (.int (nI x)))) args s 0 0 A) (F0 m pc ls [.int (nI x')]) := by
  rw [hv]
  exact W.zret hx hb hr (by rcases (show x = 0 ∨ x = 1 by omega) with q | q <;> subst q <;> decide) (fun t ht _ => ⟨rfl, by rw [ht]; exact hP, hS.F ht⟩) hS.2.2 hdg hlk
theorem ip_vret (hx : p.tables.exec = Jvm.exec) (hb : c.code = cc) (hr : meth.sig.returnType = none) (hlk : meth.locks = false) (hdg : decode cc pc = .ok (.return_, 1)) (hS : va_S A s.heap H locs) (hP : va_P D vwCl w1 H) : W p l e R s m args below meth c H locs 0 0 (MQ below (ipQ D A w1 none) args s 0 0 A) (F0 m pc ls []) :=
  W.vret hx hb hr (fun t ht _ => ⟨rfl, by rw [ht]; exact hP, hS.F ht⟩) hS.2.2 hdg hlk
theorem ln_iast {cl : List vw_C} {tys : List (ClassId × FieldType)} {a : Nat} (hx : p.tables.exec = Jvm.exec) (hb : c.code = cc) (hK : va_K D cl tys s) (hP : va_P D cl wl H) (hD : va_D A wl) (hS : va_S A s.heap H locs) (q0 t0 : Nat) {cA : ClassId} {N i : Nat} {f : Nat → Int32} {x : Int32} (ha : wl[q0]? = some (a, .inl (cA, N, .inl f))) (ht : tys[t0]? = some (cA, .int)) (hdg : decode cc pc = .ok (.iastore, 1)) (hn : N < 2 ^ 31) (hi : i < N)
    (kk : ∀ (H1 : Heap) (locs1 : List Loc), va_P D cl (wl.set q0 (a, .inl (cA, N, .inl (upd f i x)))) H1 → va_D A (wl.set q0 (a, .inl (cA, N, .inl (upd f i x)))) → va_S A s.heap H1 locs1 → W p l e R s m args below meth c H1 locs1 cells slots Q (F0 m (pc + 1) ls rest)) : W p l e R s m args below meth c H locs cells slots Q (F0 m pc ls (.int x :: .int (nI i) :: .ref a :: rest)) := by
  refine va_iast hx hb hK hP hD hS q0 t0 ha ht (vp_in_nI hi hn) hdg ?_
  rw [nI_clamp (Nat.lt_trans hi hn)]
  exact kk
end IPC
def k_up (g : Nat → Nat) (i x : Nat) : Nat → Nat := fun k => if k = i then x else g k
theorem k_upI (g : Nat → Nat) (i x : Nat) : upd (fun k => nI (g k)) i (nI x) = fun k => nI (k_up g i x k) := by
  funext k
  show (if k = i then nI x else nI (g k)) = nI (if k = i then x else g k)
  split <;> rfl
theorem k_up_eq {g : Nat → Nat} {i x k : Nat} (h : k = i) : k_up g i x k = x := if_pos h
theorem k_up_ne {g : Nat → Nat} {i x k : Nat} (h : k ≠ i) : k_up g i x k = g k := if_neg h
section IPN
variable {p : Program} {l : Launch} {e : Env} {R : Room} {s : State} {m : MethodId} {args : Array Value} {below : List Frame} {meth : Method} {c : Code} {H : Heap} {locs : List Loc} {cells slots : Nat} {Q : State → Prop} {cc : ByteArray} {pc : Nat} {ls : Array Slot} {rest : List Value} {D : va_G} {A : Nat → Prop} {wl : va_W}
theorem ln_iastN {cl : List vw_C} {tys : List (ClassId × FieldType)} {a : Nat} (hx : p.tables.exec = Jvm.exec) (hb : c.code = cc) (hK : va_K D cl tys s) (hP : va_P D cl wl H) (hD : va_D A wl) (hS : va_S A s.heap H locs) (q0 t0 : Nat) {cA : ClassId} {N i x : Nat} {g : Nat → Nat} (ha : wl[q0]? = some (a, .inl (cA, N, .inl (fun k => nI (g k))))) (ht : tys[t0]? = some (cA, .int)) (hdg : decode cc pc = .ok (.iastore, 1)) (hn : N < 2 ^ 31) (hi : i < N)
    (kk : ∀ (H1 : Heap) (locs1 : List Loc), va_P D cl (wl.set q0 (a, .inl (cA, N, .inl (fun k => nI (k_up g i x k))))) H1 → va_D A (wl.set q0 (a, .inl (cA, N, .inl (fun k => nI (k_up g i x k))))) → va_S A s.heap H1 locs1 → W p l e R s m args below meth c H1 locs1 cells slots Q (F0 m (pc + 1) ls rest)) : W p l e R s m args below meth c H locs cells slots Q (F0 m pc ls (.int (nI x) :: .int (nI i) :: .ref a :: rest)) :=
  ln_iast hx hb hK hP hD hS q0 t0 ha ht hdg hn hi (by rw [k_upI]; exact kk)
end IPN
end
section
/-! SPEC: what the actions do to a state, and what stays true of it. -/
/-- upkeep is paid -/
def m_up (g : Nat → Nat) : Nat → Nat := k_up g 42 (g 42 + k_pc (g 41) * (k_lk (g 0) + 1))
def m_add (g : Nat → Nat) (t : Nat) : Nat → Nat := k_up (k_up (k_up g 42 (g 42 + k_pc (g 41) * (k_lk (g 0) + 1))) (1 + g 0) t) 0 (g 0 + 1)
/-- whether a triple is new and has room -/
def k_new (g : Nat → Nat) (t : Nat) : Bool := decide (g 0 < 40) && (k_ix g t).isNone
def m_put (g : Nat → Nat) (t : Nat) : Nat → Nat := if k_new g t = true then m_add g t else g
def k_pv (g : Nat → Nat) (t : Nat) : Nat := if k_new g t = true then 1 else 0
def k_ptr (tr : Nat → Int32) (g : Nat → Nat) (t : Nat) : Nat → Int32 := if k_new g t = true then upd tr (g 0) (nI t) else tr
/-- the row behind the place i is moved up, as far as the place j -/
def m_sh (g : Nat → Nat) (i j : Nat) : Nat → Nat := fun k => if 1 + i ≤ k ∧ k < 1 + j then g (k + 1) else g k
def k_sh (f : Nat → Int32) (i j : Nat) : Nat → Int32 := fun k => if i ≤ k ∧ k < j then f (k + 1) else f k
theorem m_sh_0 (g : Nat → Nat) (i : Nat) : m_sh g i i = g := by funext k; exact if_neg (fun h => by omega)
theorem k_sh_0 (f : Nat → Int32) (i : Nat) : k_sh f i i = f := by funext k; exact if_neg (fun h => by omega)
theorem m_sh_1 {g gf : Nat → Nat} {i j : Nat} (hij : i ≤ j) (h : gf = m_sh g i j) : k_up gf (1 + j) (gf (1 + j + 1)) = m_sh g i (j + 1) := by
  subst h
  funext k
  simp only [k_up, m_sh]
  (repeat' split) <;> first | rfl | omega | (subst_vars; rfl) | (rename_i h1 h2; subst h1; first | rfl | omega)
theorem k_sh_1 {f ff : Nat → Int32} {i j : Nat} (hij : i ≤ j) (h : ff = k_sh f i j) : upd ff j (ff (j + 1)) = k_sh f i (j + 1) := by
  subst h
  funext k
  simp only [upd, k_sh]
  (repeat' split) <;> first | rfl | omega | (subst_vars; rfl) | (exfalso; omega)
def m_del (g : Nat → Nat) (i : Nat) : Nat → Nat := k_up (m_sh (m_up g) i (g 0 - 1)) 0 (g 0 - 1)
def m_rem (g : Nat → Nat) (t : Nat) : Nat → Nat := match k_ix g t with
  | none => g
  | some i => m_del g i
def k_rv (g : Nat → Nat) (t : Nat) : Nat := match k_ix g t with
  | none => 0
  | some _ => 1
def k_rtr (tr : Nat → Int32) (g : Nat → Nat) (t : Nat) : Nat → Int32 := match k_ix g t with
  | none => tr
  | some i => k_sh tr i (g 0 - 1)
def m_bld (g : Nat → Nat) (q : Nat) : Nat → Nat := k_up (k_up g 43 (g 43 + g 0 * k_lk (g 0))) 41 (g 41 ||| 2 ^ q)
def m_drp (g : Nat → Nat) (q : Nat) : Nat → Nat := k_up g 41 (g 41 &&& (63 ^^^ 2 ^ q))
/-- the oldest question is forgotten -/
def m_qs (g : Nat → Nat) (j : Nat) : Nat → Nat := fun k => if 47 ≤ k ∧ k < 47 + j then g (k + 1) else g k
theorem m_qs_0 (g : Nat → Nat) : m_qs g 0 = g := by funext k; exact if_neg (fun h => by omega)
theorem m_qs_1 {g gf : Nat → Nat} {j : Nat} (h : gf = m_qs g j) : k_up gf (47 + j) (gf (47 + j + 1)) = m_qs g (j + 1) := by
  subst h
  funext k
  simp only [k_up, m_qs]
  (repeat' split) <;> first | rfl | omega | (subst_vars; rfl) | (exfalso; omega)
def m_fg (g : Nat → Nat) : Nat → Nat := if g 46 = 12 then k_up (m_qs g 11) 46 (g 46 - 1) else g
def m_ask (g : Nat → Nat) (x : Nat) : Nat → Nat := k_up (k_up (k_up (k_up (m_fg g) (47 + m_fg g 46) x) 46 (m_fg g 46 + 1)) 45 (g 45 + 1)) 44 (g 44 + k_mn g x (g 41) 6)
def k_fqs (qs : Nat → Int32) (g : Nat → Nat) : Nat → Int32 := if g 46 = 12 then k_sh qs 0 11 else qs
def k_aqs (qs : Nat → Int32) (g : Nat → Nat) (x : Nat) : Nat → Int32 := upd (k_fqs qs g) (m_fg g 46) (nI x)
theorem w_st_eq {tc : Nat → ClassId} {a a1 a2 : Nat} {tr qs : Nat → Int32} {g' : Nat → Nat} {n0 n41 n42 n43 n44 n45 n46 n59 : Nat} (h0 : g' 0 = n0) (h41 : g' 41 = n41) (h42 : g' 42 = n42) (h43 : g' 43 = n43) (h44 : g' 44 = n44) (h45 : g' 45 = n45) (h46 : g' 46 = n46) (h59 : g' 59 = n59) : w_st tc a a1 a2 tr qs g' = [(a, .inr (3, [.ref a1, .int (nI n0), .int (nI n41), .int (nI n42), .int (nI n43), .int (nI n44), .int (nI n45), .ref a2, .int (nI n46), .int (nI n59)])), (a1, .inl (tc 0, 40, .inl tr)), (a2, .inl (tc 0, 12, .inl qs))] := by
  subst h0 h41 h42 h43 h44 h45 h46 h59
  rfl
theorem k_new_t {g : Nat → Nat} {t : Nat} (h : k_new g t = true) : g 0 < 40 ∧ k_ix g t = none := by
  unfold k_new at h
  rw [Bool.and_eq_true, decide_eq_true_eq, Option.isNone_iff_eq_none] at h
  exact h
theorem k_new_of {g : Nat → Nat} {t : Nat} (h1 : g 0 < 40) (h2 : k_ix g t = none) : k_new g t = true := by
  unfold k_new
  rw [h2, decide_eq_true h1]
  rfl
theorem k_new_full {g : Nat → Nat} {t : Nat} (h1 : ¬ g 0 < 40) : k_new g t = false := by
  unfold k_new
  rw [decide_eq_false h1]
  rfl
theorem k_new_some {g : Nat → Nat} {t i : Nat} (h : k_ix g t = some i) : k_new g t = false := by
  unfold k_new
  rw [h]
  exact Bool.and_false _
/-- where two states have the same triples and kept orders, questions cost the same -/
theorem k_cn_cong {g g' : Nat → Nat} {x : Nat} : ∀ n, (∀ i, i < n → g' (1 + i) = g (1 + i)) → k_cn g' x n = k_cn g x n
  | 0, _ => rfl
  | n + 1, h => by rw [k_cn, k_cn, k_cn_cong n (fun i hi => h i (by omega)), h n (by omega)]
theorem k_cnt_cong {g g' : Nat → Nat} {x : Nat} (h0 : g' 0 = g 0) (h : ∀ i, i < g 0 → g' (1 + i) = g (1 + i)) : k_cnt g' x = k_cnt g x := by
  unfold k_cnt
  rw [h0]
  exact k_cn_cong _ h
theorem k_cb_cong {g g' : Nat → Nat} {x q : Nat} (h0 : g' 0 = g 0) (h : ∀ i, i < g 0 → g' (1 + i) = g (1 + i)) : k_cb g' x q = k_cb g x q := by
  unfold k_cb
  rw [k_cnt_cong h0 h, h0]
theorem k_mn_cong {g g' : Nat → Nat} {x set : Nat} (h0 : g' 0 = g 0) (h : ∀ i, i < g 0 → g' (1 + i) = g (1 + i)) : ∀ n, k_mn g' x set n = k_mn g x set n
  | 0 => h0
  | n + 1 => by rw [k_mn, k_mn, k_mn_cong h0 h n, k_cb_cong h0 h]
def k_cp (f h : Nat → Int32) (n : Nat) : Nat → Int32 := fun k => if k < n then f k else h k
theorem k_cp_0 (f h : Nat → Int32) : k_cp f h 0 = h := by funext k; exact if_neg (Nat.not_lt_zero _)
theorem k_cp_1 {f h : Nat → Int32} {n : Nat} : upd (k_cp f h n) n (f n) = k_cp f h (n + 1) := by
  funext k
  simp only [upd, k_cp]
  (repeat' split) <;> first | rfl | (subst_vars; rfl) | (exfalso; omega)
theorem k_and64 {x y : Nat} (h : x < 64) : x &&& y < 64 := Nat.lt_of_le_of_lt Nat.and_le_left h
theorem k_or64 : ∀ x, x < 64 → ∀ q, q < 6 → x ||| 2 ^ q < 64 := by decide +kernel
theorem R_cp {tr qs tr0 qs0 : Nat → Int32} {g : Nat → Nat} (h : k_R tr qs g) : k_R (k_cp tr tr0 (g 0)) (k_cp qs qs0 (g 46)) g :=
  ⟨fun i hi => by rw [← h.1 i hi]; exact if_pos hi, fun i hi => by rw [← h.2 i hi]; exact if_pos hi⟩
theorem ok_bld {g : Nat → Nat} {q : Nat} (hk : k_ok g) (hq : q < 6) : k_ok (m_bld g q) := by
  obtain ⟨h0, h1, h2, h3, h4, h5, h6⟩ := hk
  have e0 : m_bld g q 0 = g 0 := rfl
  have e41 : m_bld g q 41 = g 41 ||| 2 ^ q := rfl
  have e46 : m_bld g q 46 = g 46 := rfl
  have e59 : m_bld g q 59 = g 59 := rfl
  have et : ∀ i, i < 40 → m_bld g q (1 + i) = g (1 + i) := fun i hi => by unfold m_bld; rw [k_up_ne (by omega), k_up_ne (by omega)]
  have eq : ∀ i, i < 12 → m_bld g q (47 + i) = g (47 + i) := fun i hi => by unfold m_bld; rw [k_up_ne (by omega), k_up_ne (by omega)]
  unfold k_ok
  rw [e0, e41, e46, e59]
  refine ⟨h0, k_or64 _ h1 _ hq, h2, h3, fun i hi => by rw [et i (by omega)]; exact h4 i hi, fun i hi => by rw [eq i (by omega)]; exact h5 i hi, fun i j hi hj e => h6 i j hi hj ?_⟩
  rw [et i (by omega), et j (by omega)] at e
  exact e
theorem R_same {tr qs : Nat → Int32} {g g' : Nat → Nat} (h : k_R tr qs g) (h0 : g' 0 = g 0) (h46 : g' 46 = g 46) (ht : ∀ i, i < g 0 → g' (1 + i) = g (1 + i)) (hq : ∀ i, i < g 46 → g' (47 + i) = g (47 + i)) : k_R tr qs g' := by
  unfold k_R
  rw [h0, h46]
  exact ⟨fun i hi => by rw [ht i hi]; exact h.1 i hi, fun i hi => by rw [hq i hi]; exact h.2 i hi⟩
theorem ok_drp {g : Nat → Nat} {q : Nat} (hk : k_ok g) (_hq : q < 6) : k_ok (m_drp g q) := by
  obtain ⟨h0, h1, h2, h3, h4, h5, h6⟩ := hk
  have e0 : m_drp g q 0 = g 0 := rfl
  have e41 : m_drp g q 41 = g 41 &&& (63 ^^^ 2 ^ q) := rfl
  have e46 : m_drp g q 46 = g 46 := rfl
  have e59 : m_drp g q 59 = g 59 := rfl
  have et : ∀ i, i < 40 → m_drp g q (1 + i) = g (1 + i) := fun i hi => by unfold m_drp; rw [k_up_ne (by omega)]
  have eq : ∀ i, i < 12 → m_drp g q (47 + i) = g (47 + i) := fun i hi => by unfold m_drp; rw [k_up_ne (by omega)]
  unfold k_ok
  rw [e0, e41, e46, e59]
  refine ⟨h0, k_and64 h1, h2, h3, fun i hi => by rw [et i (by omega)]; exact h4 i hi, fun i hi => by rw [eq i (by omega)]; exact h5 i hi, fun i j hi hj e => h6 i j hi hj ?_⟩
  rw [et i (by omega), et j (by omega)] at e
  exact e
theorem R_bld {tr qs : Nat → Int32} {g : Nat → Nat} {q : Nat} (hk : k_ok g) (h : k_R tr qs g) : k_R tr qs (m_bld g q) :=
  R_same h rfl rfl (fun i hi => by have := hk.1; unfold m_bld; rw [k_up_ne (by omega), k_up_ne (by omega)]) (fun i hi => by have := hk.2.2.1; unfold m_bld; rw [k_up_ne (by omega), k_up_ne (by omega)])
theorem R_drp {tr qs : Nat → Int32} {g : Nat → Nat} {q : Nat} (hk : k_ok g) (h : k_R tr qs g) : k_R tr qs (m_drp g q) :=
  R_same h rfl rfl (fun i hi => by have := hk.1; unfold m_drp; rw [k_up_ne (by omega)]) (fun i hi => by have := hk.2.2.1; unfold m_drp; rw [k_up_ne (by omega)])
/-- what m_add does, place by place -/
theorem m_add_at {g : Nat → Nat} {t : Nat} (h : g 0 < 40) : m_add g t 0 = g 0 + 1 ∧ m_add g t 41 = g 41 ∧ m_add g t 46 = g 46 ∧ m_add g t 59 = g 59 ∧ (∀ i, i < g 0 → m_add g t (1 + i) = g (1 + i)) ∧ m_add g t (1 + g 0) = t ∧ ∀ i, i < 12 → m_add g t (47 + i) = g (47 + i) := by
  unfold m_add
  refine ⟨k_up_eq rfl, ?_, ?_, ?_, fun i hi => ?_, ?_, fun i hi => ?_⟩
  · rw [k_up_ne (by omega), k_up_ne (by omega), k_up_ne (by omega)]
  · rw [k_up_ne (by omega), k_up_ne (by omega), k_up_ne (by omega)]
  · rw [k_up_ne (by omega), k_up_ne (by omega), k_up_ne (by omega)]
  · rw [k_up_ne (by omega), k_up_ne (by omega), k_up_ne (by omega)]
  · rw [k_up_ne (by omega), k_up_eq rfl]
  · rw [k_up_ne (by omega), k_up_ne (by omega), k_up_ne (by omega)]
theorem k_ix0_miss {g : Nat → Nat} {t : Nat} : ∀ {n : Nat}, k_ix0 g t n = none → ∀ i, i < n → ¬ g (1 + i) = t
  | 0, _, i, hi => absurd hi (Nat.not_lt_zero i)
  | n + 1, h, i, hi => by
    rw [k_ix0] at h
    cases h1 : k_ix0 g t n with
    | some j => rw [h1] at h; cases h
    | none =>
      rw [h1] at h
      rcases Nat.lt_or_ge i n with q | q
      · exact k_ix0_miss h1 i q
      · have e : i = n := by omega
        subst e
        intro h2
        have h3 : (some i : Option Nat) = none := (if_pos h2).symm.trans h
        cases h3
theorem ok_put {g : Nat → Nat} {t : Nat} (hk : k_ok g) (ht : t < 1000) : k_ok (m_put g t) := by
  unfold m_put
  by_cases hn : k_new g t = true
  · rw [if_pos hn]
    obtain ⟨hs, hx⟩ := k_new_t hn
    obtain ⟨e0, e41, e46, e59, et, el, eq⟩ := m_add_at (t := t) hs
    obtain ⟨h0, h1, h2, h3, h4, h5, h6⟩ := hk
    unfold k_ok
    rw [e0, e41, e46, e59]
    have key : ∀ i, i < g 0 + 1 → m_add g t (1 + i) = if i = g 0 then t else g (1 + i) := fun i hi => by
      by_cases q : i = g 0
      · rw [if_pos q, q, el]
      · rw [if_neg q]; exact et i (by omega)
    refine ⟨by omega, h1, h2, h3, fun i hi => ?_, fun i hi => by rw [eq i (by omega)]; exact h5 i hi, fun i j hi hj e => ?_⟩
    · rw [key i hi]
      split
      · exact ht
      · exact h4 i (by omega)
    · rw [key i hi, key j hj] at e
      have hm := k_ix0_miss hx
      by_cases qi : i = g 0
      · by_cases qj : j = g 0
        · omega
        · rw [if_pos qi, if_neg qj] at e; exact absurd e.symm (hm j (by omega))
      · by_cases qj : j = g 0
        · rw [if_neg qi, if_pos qj] at e; exact absurd e (hm i (by omega))
        · rw [if_neg qi, if_neg qj] at e; exact h6 i j (by omega) (by omega) e
  · rw [if_neg hn]; exact hk
theorem R_put {tr qs : Nat → Int32} {g : Nat → Nat} {t : Nat} (hk : k_ok g) (h : k_R tr qs g) (_ht : t < 1000) : k_R (k_ptr tr g t) qs (m_put g t) := by
  unfold m_put k_ptr
  by_cases hn : k_new g t = true
  · rw [if_pos hn, if_pos hn]
    obtain ⟨hs, hx⟩ := k_new_t hn
    obtain ⟨e0, e41, e46, e59, et, el, eq⟩ := m_add_at (t := t) hs
    have h2 := hk.2.2.1
    unfold k_R
    rw [e0, e46]
    refine ⟨fun i hi => ?_, fun i hi => by rw [eq i (by omega)]; exact h.2 i hi⟩
    by_cases q : i = g 0
    · subst q; rw [el]; exact if_pos rfl
    · rw [et i (by omega), ← h.1 i (by omega)]; exact if_neg q
  · rw [if_neg hn, if_neg hn]; exact h
theorem m_del_at {g : Nat → Nat} {i : Nat} (h : g 0 ≤ 40) (hi : i < g 0) : m_del g i 0 = g 0 - 1 ∧ m_del g i 41 = g 41 ∧ m_del g i 46 = g 46 ∧ m_del g i 59 = g 59 ∧ (∀ k, k < g 0 - 1 → m_del g i (1 + k) = if i ≤ k then g (1 + k + 1) else g (1 + k)) ∧ ∀ k, k < 12 → m_del g i (47 + k) = g (47 + k) := by
  unfold m_del m_sh m_up k_up
  refine ⟨rfl, ?_, ?_, ?_, fun k hk => ?_, fun k hk => ?_⟩ <;> simp only [] <;> (repeat' split) <;> first | rfl | omega | (exfalso; omega)
theorem ok_rem {g : Nat → Nat} {t : Nat} (hk : k_ok g) : k_ok (m_rem g t) := by
  unfold m_rem
  cases hx : k_ix g t with
  | none => exact hk
  | some i =>
    have hi := k_ix_lt hx
    obtain ⟨h0, h1, h2, h3, h4, h5, h6⟩ := hk
    obtain ⟨e0, e41, e46, e59, et, eq⟩ := m_del_at h0 hi
    show k_ok (m_del g i)
    unfold k_ok
    rw [e0, e41, e46, e59]
    refine ⟨by omega, h1, h2, h3, fun k hk => ?_, fun k hk => by rw [eq k (by omega)]; exact h5 k hk, fun a b ha hb e => ?_⟩
    · rw [et k hk]
      split
      · exact h4 (k + 1) (by omega)
      · exact h4 k (by omega)
    · rw [et a ha, et b hb] at e
      by_cases qa : i ≤ a
      · by_cases qb : i ≤ b
        · rw [if_pos qa, if_pos qb] at e; have := h6 (a + 1) (b + 1) (by omega) (by omega) e; omega
        · rw [if_pos qa, if_neg qb] at e; have := h6 (a + 1) b (by omega) (by omega) e; omega
      · by_cases qb : i ≤ b
        · rw [if_neg qa, if_pos qb] at e; have := h6 a (b + 1) (by omega) (by omega) e; omega
        · rw [if_neg qa, if_neg qb] at e; exact h6 a b (by omega) (by omega) e
theorem R_rem {tr qs : Nat → Int32} {g : Nat → Nat} {t : Nat} (hk : k_ok g) (h : k_R tr qs g) : k_R (k_rtr tr g t) qs (m_rem g t) := by
  unfold m_rem k_rtr
  cases hx : k_ix g t with
  | none => exact h
  | some i =>
    have hi := k_ix_lt hx
    have h2 := hk.2.2.1
    obtain ⟨e0, e41, e46, e59, et, eq⟩ := m_del_at hk.1 hi
    show k_R (k_sh tr i (g 0 - 1)) qs (m_del g i)
    unfold k_R
    rw [e0, e46]
    refine ⟨fun k hk => ?_, fun k hk => by rw [eq k (by omega)]; exact h.2 k hk⟩
    rw [et k hk]
    unfold k_sh
    by_cases q : i ≤ k
    · rw [if_pos q, if_pos ⟨q, hk⟩]; exact h.1 (k + 1) (by omega)
    · rw [if_neg q, if_neg (fun z => q z.1)]; exact h.1 k (by omega)
theorem m_fg_at {g : Nat → Nat} (h : g 46 ≤ 12) : m_fg g 46 ≤ 11 ∧ (∀ k, k < 46 → m_fg g k = g k) ∧ m_fg g 59 = g 59 ∧ (∀ k, k < m_fg g 46 → m_fg g (47 + k) = if g 46 = 12 then g (47 + k + 1) else g (47 + k)) ∧ (m_fg g 46 = if g 46 = 12 then 11 else g 46) := by
  unfold m_fg
  by_cases q : g 46 = 12
  · rw [if_pos q]
    unfold k_up m_qs
    refine ⟨by simp [q], fun k hk => ?_, ?_, fun k hk => ?_, by simp [q]⟩
    · (repeat' split) <;> first | rfl | omega
    · (repeat' split) <;> first | rfl | omega
    · simp only [if_true, q] at hk ⊢; (repeat' split) <;> first | rfl | omega
  · rw [if_neg q]
    refine ⟨by omega, fun _ _ => rfl, rfl, fun k hk => by rw [if_neg q], by rw [if_neg q]⟩
theorem m_ask_at {g : Nat → Nat} {x : Nat} (h : g 46 ≤ 12) : (∀ k, k < 44 → m_ask g x k = g k) ∧ m_ask g x 46 = m_fg g 46 + 1 ∧ m_ask g x 59 = g 59 ∧ (∀ k, k < m_fg g 46 → m_ask g x (47 + k) = m_fg g (47 + k)) ∧ m_ask g x (47 + m_fg g 46) = x := by
  obtain ⟨f0, f1, f2, f3, f4⟩ := m_fg_at h
  unfold m_ask
  refine ⟨fun k hk => ?_, ?_, ?_, fun k hk => ?_, ?_⟩
  · rw [k_up_ne (by omega), k_up_ne (by omega), k_up_ne (by omega), k_up_ne (by omega)]; exact f1 k (by omega)
  · rw [k_up_ne (by omega), k_up_ne (by omega), k_up_eq rfl]
  · rw [k_up_ne (by omega), k_up_ne (by omega), k_up_ne (by omega), k_up_ne (by omega)]; exact f2
  · rw [k_up_ne (by omega), k_up_ne (by omega), k_up_ne (by omega), k_up_ne (by omega)]
  · rw [k_up_ne (by omega), k_up_ne (by omega), k_up_ne (by omega), k_up_eq rfl]
theorem m_ask_44 {g : Nat → Nat} {x : Nat} : m_ask g x 44 = g 44 + k_mn g x (g 41) 6 := k_up_eq rfl
theorem m_ask_45 {g : Nat → Nat} {x : Nat} : m_ask g x 45 = g 45 + 1 := by unfold m_ask; rw [k_up_ne (by omega), k_up_eq rfl]
theorem ok_ask {g : Nat → Nat} {x : Nat} (hk : k_ok g) (hx : x < 1331) : k_ok (m_ask g x) := by
  obtain ⟨h0, h1, h2, h3, h4, h5, h6⟩ := hk
  obtain ⟨f0, f1, f2, f3, f4⟩ := m_fg_at h2
  obtain ⟨a0, a46, a59, aq, al⟩ := m_ask_at (x := x) h2
  unfold k_ok
  rw [a0 0 (by omega), a0 41 (by omega), a46, a59]
  refine ⟨h0, h1, by omega, h3, fun i hi => by rw [a0 _ (by omega)]; exact h4 i hi, fun i hi => ?_, fun i j hi hj e => ?_⟩
  · by_cases q : i = m_fg g 46
    · rw [q, al]; exact hx
    · rw [aq i (by omega), f3 i (by omega)]
      split at f4 <;> rename_i q12
      · rw [if_pos q12]; exact h5 (i + 1) (by omega)
      · rw [if_neg q12]; exact h5 i (by omega)
  · rw [a0 _ (by omega), a0 _ (by omega)] at e; exact h6 i j hi hj e
theorem R_ask {tr qs : Nat → Int32} {g : Nat → Nat} {x : Nat} (hk : k_ok g) (h : k_R tr qs g) : k_R tr (k_aqs qs g x) (m_ask g x) := by
  have h0 := hk.1
  have h2 := hk.2.2.1
  obtain ⟨f0, f1, f2, f3, f4⟩ := m_fg_at h2
  obtain ⟨a0, a46, a59, aq, al⟩ := m_ask_at (x := x) h2
  unfold k_R
  rw [a0 0 (by omega), a46]
  refine ⟨fun i hi => by rw [a0 _ (by omega)]; exact h.1 i hi, fun i hi => ?_⟩
  unfold k_aqs
  by_cases q : i = m_fg g 46
  · rw [q, al]; exact if_pos rfl
  · rw [aq i (by omega), f3 i (by omega)]
    show (if i = m_fg g 46 then nI x else k_fqs qs g i) = _
    rw [if_neg q]
    unfold k_fqs
    split at f4 <;> rename_i q12
    · rw [if_pos q12, if_pos q12]
      show (if 0 ≤ i ∧ i < 11 then qs (i + 1) else qs i) = _
      rw [if_pos ⟨Nat.zero_le _, by omega⟩]
      exact h.2 (i + 1) (by omega)
    · rw [if_neg q12, if_neg q12]
      exact h.2 i (by omega)
def m_as3 (g : Nat → Nat) (x : Nat) : Nat → Nat := k_up (k_up (k_up (m_fg g) (47 + m_fg g 46) x) 46 (m_fg g 46 + 1)) 45 (g 45 + 1)
theorem ok_44 {h : Nat → Nat} {y : Nat} (hk : k_ok (k_up h 44 y)) : k_ok h := by
  have e : ∀ k, k ≠ 44 → k_up h 44 y k = h k := fun k hk => k_up_ne hk
  obtain ⟨h0, h1, h2, h3, h4, h5, h6⟩ := hk
  rw [e 0 (by omega)] at h0
  rw [e 41 (by omega)] at h1
  rw [e 46 (by omega)] at h2
  rw [e 59 (by omega)] at h3
  rw [e 0 (by omega)] at h4 h6
  rw [e 46 (by omega)] at h5
  refine ⟨h0, h1, h2, h3, fun i hi => ?_, fun i hi => ?_, fun i j hi hj q => h6 i j hi hj ?_⟩
  · have := h4 i hi; rwa [e _ (by omega)] at this
  · have := h5 i hi; rwa [e _ (by omega)] at this
  · rw [e _ (by omega), e _ (by omega)]; exact q
theorem ok_as3 {g : Nat → Nat} {x : Nat} (hk : k_ok g) (hx : x < 1331) : k_ok (m_as3 g x) := ok_44 (ok_ask hk hx)
theorem as3_at {g : Nat → Nat} {x : Nat} (h : g 46 ≤ 12) : (∀ k, k < 45 → m_as3 g x k = g k) := by
  obtain ⟨f0, f1, f2, f3, f4⟩ := m_fg_at h
  intro k hk
  unfold m_as3
  rw [k_up_ne (by omega), k_up_ne (by omega), k_up_ne (by omega)]
  exact f1 k (by omega)
theorem as3_ask {g : Nat → Nat} {x : Nat} (hk : k_ok g) : m_ask g x = k_up (m_as3 g x) 44 (m_as3 g x 44 + k_mn (m_as3 g x) x (m_as3 g x 41) 6) := by
  have h2 := hk.2.2.1
  have h0 := hk.1
  have ea := as3_at (x := x) h2
  rw [ea 44 (by omega), ea 41 (by omega), k_mn_cong (ea 0 (by omega)) (fun i hi => ea (1 + i) (by omega))]
  rfl
end
section
/-! SPEC: advice. -/
def k_sm (g : Nat → Nat) (set : Nat) : Nat → Nat
  | 0 => 0
  | n + 1 => k_sm g set n + k_mn g (g (47 + n)) set 6
def k_sum (g : Nat → Nat) (set : Nat) : Nat := k_sm g set (g 46)
theorem k_sm_le {g : Nat → Nat} (h : g 0 ≤ 40) {set : Nat} : ∀ n, k_sm g set n ≤ 40 * n
  | 0 => Nat.le_refl _
  | n + 1 => by have h1 := k_sm_le h (set := set) n; have h2 := k_mn_le g (g (47 + n)) set 6; rw [k_sm]; omega
theorem k_sum_le {g : Nat → Nat} (hk : k_ok g) {set : Nat} : k_sum g set ≤ 480 := by
  have h1 := k_sm_le hk.1 (set := set) (g 46)
  have h2 := hk.2.2.1
  unfold k_sum; omega
def k_due (g : Nat → Nat) : Nat := g 59 * (k_lk (g 0) + 1)
theorem k_due_le {g : Nat → Nat} (hk : k_ok g) : k_due g ≤ 693 := by
  have h1 := hk.2.2.2.1
  have h2 := k_lk_le (g 0)
  unfold k_due
  exact Nat.le_trans (Nat.mul_le_mul h1 (show k_lk (g 0) + 1 ≤ 7 by omega)) (by decide)
/-- the gain, or the loss, of an order -/
def k_val (g : Nat → Nat) (q : Nat) : Int := ((k_sum g (g 41 &&& (63 ^^^ 2 ^ q)) : Nat) : Int) - ((k_sum g (g 41 ||| 2 ^ q) : Nat) : Int) - ((k_due g : Nat) : Int)
theorem k_val_bd {g : Nat → Nat} (hk : k_ok g) (q : Nat) : -2000 < k_val g q ∧ k_val g q < 2000 := by
  have h1 := k_sum_le hk (set := g 41 &&& (63 ^^^ 2 ^ q))
  have h2 := k_sum_le hk (set := g 41 ||| 2 ^ q)
  have h3 := k_due_le hk
  unfold k_val; omega
/-- the greatest gain above 0 among the first orders, and whose -/
def k_gt (g : Nat → Nat) : Nat → Int
  | 0 => 0
  | q + 1 => if k_in (g 41) q = false ∧ k_gt g q < k_val g q then k_val g q else k_gt g q
def k_go (g : Nat → Nat) : Nat → Option Nat
  | 0 => none
  | q + 1 => if k_in (g 41) q = false ∧ k_gt g q < k_val g q then some q else k_go g q
/-- the least loss below 0 among the first orders, and whose -/
def k_ls (g : Nat → Nat) : Nat → Int
  | 0 => 0
  | q + 1 => if k_in (g 41) q = true ∧ k_val g q < k_ls g q then k_val g q else k_ls g q
def k_lo (g : Nat → Nat) : Nat → Option Nat
  | 0 => none
  | q + 1 => if k_in (g 41) q = true ∧ k_val g q < k_ls g q then some q else k_lo g q
theorem k_go_lt {g : Nat → Nat} : ∀ {n r : Nat}, k_go g n = some r → r < n
  | 0, r, h => by cases h
  | n + 1, r, h => by
    rw [k_go] at h
    split at h
    · cases h; omega
    · have := k_go_lt h; omega
theorem k_lo_lt {g : Nat → Nat} : ∀ {n r : Nat}, k_lo g n = some r → r < n
  | 0, r, h => by cases h
  | n + 1, r, h => by
    rw [k_lo] at h
    split at h
    · cases h; omega
    · have := k_lo_lt h; omega
def m_tdy (g : Nat → Nat) : Nat → Nat := match k_go g 6 with
  | some q => m_bld g q
  | none => match k_lo g 6 with
    | some q => m_drp g q
    | none => g
/-- what tidy answers -/
def k_tv (g : Nat → Nat) : Option Nat := match k_go g 6 with
  | some q => some (10 + q)
  | none => k_lo g 6
theorem ok_tdy {g : Nat → Nat} (hk : k_ok g) : k_ok (m_tdy g) := by
  unfold m_tdy
  cases h : k_go g 6 with
  | some q => exact ok_bld hk (k_go_lt h)
  | none =>
    cases h2 : k_lo g 6 with
    | some q => exact ok_drp hk (k_lo_lt h2)
    | none => exact hk
theorem R_tdy {tr qs : Nat → Int32} {g : Nat → Nat} (hk : k_ok g) (h : k_R tr qs g) : k_R tr qs (m_tdy g) := by
  unfold m_tdy
  cases h1 : k_go g 6 with
  | some q => exact R_bld hk h
  | none =>
    cases h2 : k_lo g 6 with
    | some q => exact R_drp hk h
    | none => exact h
/-- whether a question has an order of the set among the first n that reaches all it binds -/
def k_hs (set x : Nat) : Nat → Bool
  | 0 => false
  | q + 1 => k_hs set x q || (k_in set q && decide (k_rch x q = k_bnd x))
def k_en0 (g : Nat → Nat) (set : Nat) : Nat → Bool
  | 0 => true
  | n + 1 => k_en0 g set n && k_hs set (g (47 + n)) 6
def k_en (g : Nat → Nat) (set : Nat) : Bool := k_en0 g set (g 46)
/-- the smallest set among the first n that is enough -/
def k_nd (g : Nat → Nat) : Nat → Option Nat
  | 0 => none
  | set + 1 => match k_nd g set with
    | none => if k_en g set = true then some set else none
    | some r => if k_en g set = true ∧ k_pc set < k_pc r then some set else some r
/-- what a set of orders would cost, with their upkeep -/
def k_ct (g : Nat → Nat) (set : Nat) : Nat := k_sum g set + k_pc set * k_due g
theorem k_ct_le {g : Nat → Nat} (hk : k_ok g) (set : Nat) : k_ct g set ≤ 4638 := by
  have h1 := k_sum_le hk (set := set)
  have h2 := Nat.mul_le_mul (k_pc_le set) (k_due_le hk)
  unfold k_ct; omega
def k_bm (g : Nat → Nat) : Nat → Nat
  | 0 => k_sum g 0
  | n + 1 => if k_ct g (n + 1) < k_bm g n then k_ct g (n + 1) else k_bm g n
def k_bs (g : Nat → Nat) : Nat → Nat
  | 0 => 0
  | n + 1 => if k_ct g (n + 1) < k_bm g n then n + 1 else k_bs g n
theorem k_bm_le {g : Nat → Nat} (hk : k_ok g) : ∀ n, k_bm g n ≤ 480
  | 0 => k_sum_le hk
  | n + 1 => by have h := k_bm_le hk n; rw [k_bm]; split <;> omega
theorem k_bs_le {g : Nat → Nat} : ∀ n, k_bs g n ≤ n
  | 0 => Nat.le_refl 0
  | n + 1 => by have h := k_bs_le (g := g) n; rw [k_bs]; split <;> omega
theorem k_nd_lt {g : Nat → Nat} : ∀ {n r : Nat}, k_nd g n = some r → r < n
  | 0, r, h => by cases h
  | n + 1, r, h => by
    rw [k_nd] at h
    cases h1 : k_nd g n with
    | none =>
      rw [h1] at h
      by_cases q : k_en g n = true
      · have h2 := (if_pos q).symm.trans h
        cases h2; omega
      · have h2 := (if_neg q).symm.trans h
        cases h2
    | some w =>
      rw [h1] at h
      have hw := k_nd_lt h1
      by_cases q : k_en g n = true ∧ k_pc n < k_pc w
      · have h2 := (if_pos q).symm.trans h
        cases h2; omega
      · have h2 := (if_neg q).symm.trans h
        cases h2; omega
end
section
/-! SPEC: rows copied, the text, what is remembered. -/
/-- h with n places from d on taken from f, from s0 on -/
def k_win (f h : Nat → Nat) (d s0 n : Nat) : Nat → Nat := fun k => if d ≤ k ∧ k < d + n then f (s0 + (k - d)) else h k
theorem k_win_0 (f h : Nat → Nat) (d s0 : Nat) : k_win f h d s0 0 = h := by funext k; exact if_neg (fun h => by omega)
theorem k_win_1 {f h gf : Nat → Nat} {d s0 i x : Nat} (e : gf = k_win f h d s0 i) (hx : x = f (s0 + i)) : k_up gf (d + i) x = k_win f h d s0 (i + 1) := by
  subst e hx
  funext k
  simp only [k_up, k_win]
  by_cases q : k = d + i
  · rw [if_pos q, if_pos (by omega)]
    congr 1
    omega
  · rw [if_neg q]
    by_cases q2 : d ≤ k ∧ k < d + i
    · rw [if_pos q2, if_pos (by omega)]
    · rw [if_neg q2, if_neg (by omega)]
theorem k_win_in {f h : Nat → Nat} {d s0 n k : Nat} (h1 : d ≤ k) (h2 : k < d + n) : k_win f h d s0 n k = f (s0 + (k - d)) := if_pos ⟨h1, h2⟩
theorem k_win_out {f h : Nat → Nat} {d s0 n k : Nat} (h1 : k < d ∨ d + n ≤ k) : k_win f h d s0 n k = h k := if_neg (fun q => by omega)
/-- states alike in their 60 places -/
def k_lik (g g' : Nat → Nat) : Prop := ∀ k, k < 60 → g' k = g k
theorem ok_lik {g g' : Nat → Nat} (h : k_lik g g') (hk : k_ok g) : k_ok g' := by
  obtain ⟨h0, h1, h2, h3, h4, h5, h6⟩ := hk
  unfold k_ok
  rw [h 0 (by omega), h 41 (by omega), h 46 (by omega), h 59 (by omega)]
  refine ⟨h0, h1, h2, h3, fun i hi => by rw [h _ (by omega)]; exact h4 i hi, fun i hi => by rw [h _ (by omega)]; exact h5 i hi, fun i j hi hj e => h6 i j hi hj ?_⟩
  rw [h _ (by omega), h _ (by omega)] at e
  exact e
theorem R_lik {tr qs : Nat → Int32} {g g' : Nat → Nat} (h : k_lik g g') (hk : k_ok g) (hR : k_R tr qs g) : k_R tr qs g' := by
  have h0 := hk.1
  have h2 := hk.2.2.1
  exact R_same hR (h 0 (by omega)) (h 46 (by omega)) (fun i hi => h _ (by omega)) (fun i hi => h _ (by omega))
/-- a state behind another is remembered -/
def k_sv1 (sv : Nat → Nat) (n : Nat) : Nat → Nat := if n = 14 then k_win sv sv 0 60 780 else sv
def k_n1 (n : Nat) : Nat := if n = 14 then 13 else n
def k_rem (sv : Nat → Nat) (n : Nat) (g : Nat → Nat) : Nat → Nat := k_win g (k_sv1 sv n) (60 * k_n1 n) 0 60
/-- the text -/
def byI (c : Nat) : Int32 := (nI c).toInt8.toInt32
theorem k_by_in : ∀ c, c < 256 → decide ((48 : Int64) ≤ (byI c).toInt64 ∧ (byI c).toInt64 ≤ (57 : Int64)) = decide (48 ≤ c ∧ c ≤ 57) := by decide +kernel
theorem k_by_42 : ∀ c, c < 256 → (byI c = nI 42 ↔ c = 42) := by decide +kernel
theorem k_by_44 : ∀ c, c < 256 → (byI c = nI 44 ↔ c = 44) := by decide +kernel
theorem k_by_sm : ∀ c, c < 128 → byI c = nI c := by decide +kernel
def k_fq0 (u : Nat → Nat) : Nat → Option Nat
  | 0 => none
  | k + 1 => match k_fq0 u k with
    | some j => some j
    | none => if k < 3 ∧ (48 ≤ u k ∧ u k ≤ 57 ∨ u k = 42) then none else some k
/-- the error position of the text as a question -/
def k_fq (u : Nat → Nat) (ln : Nat) : Option Nat := match k_fq0 u ln with
  | some j => some j
  | none => if ln = 3 then none else some ln
def k_ft0 (u : Nat → Nat) : Nat → Option Nat
  | 0 => none
  | k + 1 => match k_ft0 u k with
    | some j => some j
    | none => if (k % 4 = 3 ∧ u k = 44) ∨ (k % 4 ≠ 3 ∧ 48 ≤ u k ∧ u k ≤ 57) then none else some k
/-- the error position of the text as triples -/
def k_ft (u : Nat → Nat) (ln : Nat) : Option Nat := match k_ft0 u ln with
  | some j => some j
  | none => if ln % 4 = 3 then none else some ln
theorem k_fq0_mono {u : Nat → Nat} {r i : Nat} (h : k_fq0 u i = some r) : ∀ {n : Nat}, i ≤ n → k_fq0 u n = some r
  | 0, hn => by have e : i = 0 := (by omega); subst e; exact h
  | n + 1, hn => by
    rcases Nat.lt_or_ge n i with q | q
    · have e : i = n + 1 := by omega
      subst e; exact h
    · rw [k_fq0, k_fq0_mono h q]
theorem k_ft0_mono {u : Nat → Nat} {r i : Nat} (h : k_ft0 u i = some r) : ∀ {n : Nat}, i ≤ n → k_ft0 u n = some r
  | 0, hn => by have e : i = 0 := (by omega); subst e; exact h
  | n + 1, hn => by
    rcases Nat.lt_or_ge n i with q | q
    · have e : i = n + 1 := by omega
      subst e; exact h
    · rw [k_ft0, k_ft0_mono h q]
theorem k_fq_hit {u : Nat → Nat} {k ln : Nat} (h : k_fq0 u k = none) (hk : k < ln) (hb : ¬ (k < 3 ∧ (48 ≤ u k ∧ u k ≤ 57 ∨ u k = 42))) : k_fq u ln = some k := by
  have h1 : k_fq0 u (k + 1) = some k := by rw [k_fq0, h]; exact if_neg hb
  unfold k_fq
  rw [k_fq0_mono h1 hk]
theorem k_ft_hit {u : Nat → Nat} {k ln : Nat} (h : k_ft0 u k = none) (hk : k < ln) (hb : ¬ ((k % 4 = 3 ∧ u k = 44) ∨ (k % 4 ≠ 3 ∧ 48 ≤ u k ∧ u k ≤ 57))) : k_ft u ln = some k := by
  have h1 : k_ft0 u (k + 1) = some k := by rw [k_ft0, h]; exact if_neg hb
  unfold k_ft
  rw [k_ft0_mono h1 hk]
theorem k_fq_go {u : Nat → Nat} {k : Nat} (h : k_fq0 u k = none) (hb : k < 3 ∧ (48 ≤ u k ∧ u k ≤ 57 ∨ u k = 42)) : k_fq0 u (k + 1) = none := by rw [k_fq0, h]; exact if_pos hb
theorem k_ft_go {u : Nat → Nat} {k : Nat} (h : k_ft0 u k = none) (hb : (k % 4 = 3 ∧ u k = 44) ∨ (k % 4 ≠ 3 ∧ 48 ≤ u k ∧ u k ≤ 57)) : k_ft0 u (k + 1) = none := by rw [k_ft0, h]; exact if_pos hb
theorem k_fq_end {u : Nat → Nat} {ln : Nat} (h : k_fq0 u ln = none) : k_fq u ln = if ln = 3 then none else some ln := by unfold k_fq; rw [h]
theorem k_ft_end {u : Nat → Nat} {ln : Nat} (h : k_ft0 u ln = none) : k_ft u ln = if ln % 4 = 3 then none else some ln := by unfold k_ft; rw [h]
theorem k_fq0_all {u : Nat → Nat} : ∀ {n : Nat}, k_fq0 u n = none → ∀ k, k < n → k < 3 ∧ (48 ≤ u k ∧ u k ≤ 57 ∨ u k = 42)
  | 0, _, k, hk => absurd hk (Nat.not_lt_zero k)
  | n + 1, h, k, hk => by
    rw [k_fq0] at h
    cases h1 : k_fq0 u n with
    | some j => rw [h1] at h; cases h
    | none =>
      rw [h1] at h
      by_cases hb : n < 3 ∧ (48 ≤ u n ∧ u n ≤ 57 ∨ u n = 42)
      · rcases Nat.lt_or_ge k n with q | q
        · exact k_fq0_all h1 k q
        · have e : k = n := by omega
          subst e; exact hb
      · have h2 := (if_neg hb).symm.trans h
        cases h2
theorem k_ft0_all {u : Nat → Nat} : ∀ {n : Nat}, k_ft0 u n = none → ∀ k, k < n → (k % 4 = 3 ∧ u k = 44) ∨ (k % 4 ≠ 3 ∧ 48 ≤ u k ∧ u k ≤ 57)
  | 0, _, k, hk => absurd hk (Nat.not_lt_zero k)
  | n + 1, h, k, hk => by
    rw [k_ft0] at h
    cases h1 : k_ft0 u n with
    | some j => rw [h1] at h; cases h
    | none =>
      rw [h1] at h
      by_cases hb : (n % 4 = 3 ∧ u n = 44) ∨ (n % 4 ≠ 3 ∧ 48 ≤ u n ∧ u n ≤ 57)
      · rcases Nat.lt_or_ge k n with q | q
        · exact k_ft0_all h1 k q
        · have e : k = n := by omega
          subst e; exact hb
      · have h2 := (if_neg hb).symm.trans h
        cases h2
theorem k_fq_none {u : Nat → Nat} {ln : Nat} (h : k_fq u ln = none) : ln = 3 ∧ ∀ k, k < 3 → (48 ≤ u k ∧ u k ≤ 57 ∨ u k = 42) := by
  unfold k_fq at h
  cases h1 : k_fq0 u ln with
  | some j => rw [h1] at h; cases h
  | none =>
    rw [h1] at h
    by_cases q : ln = 3
    · subst q; exact ⟨rfl, fun k hk => (k_fq0_all h1 k hk).2⟩
    · have h2 := (if_neg q).symm.trans h
      cases h2
theorem k_ft_none {u : Nat → Nat} {ln : Nat} (h : k_ft u ln = none) : ln % 4 = 3 ∧ ∀ k, k < ln → (k % 4 = 3 ∧ u k = 44) ∨ (k % 4 ≠ 3 ∧ 48 ≤ u k ∧ u k ≤ 57) := by
  unfold k_ft at h
  cases h1 : k_ft0 u ln with
  | some j => rw [h1] at h; cases h
  | none =>
    rw [h1] at h
    by_cases q : ln % 4 = 3
    · exact ⟨q, k_ft0_all h1⟩
    · have h2 := (if_neg q).symm.trans h
      cases h2
def k_ch (c : Nat) : Nat := if c = 42 then 10 else c - 48
/-- the question of the text -/
def k_tq (u : Nat → Nat) : Nat := 121 * k_ch (u 0) + 11 * k_ch (u 1) + k_ch (u 2)
/-- the i-th triple of the text -/
def k_tt (u : Nat → Nat) (i : Nat) : Nat := 100 * (u (4 * i) - 48) + 10 * (u (4 * i + 1) - 48) + (u (4 * i + 2) - 48)
def m_all (g u : Nat → Nat) : Nat → Nat → Nat
  | 0 => g
  | n + 1 => m_put (m_all g u n) (k_tt u n)
def k_all (g u : Nat → Nat) : Nat → Nat
  | 0 => 0
  | n + 1 => k_all g u n + k_pv (m_all g u n) (k_tt u n)
theorem k_tt_lt {u : Nat → Nat} {ln i : Nat} (h : k_ft u ln = none) (hi : 4 * i < ln) : k_tt u i < 1000 := by
  obtain ⟨h1, h2⟩ := k_ft_none h
  have a := h2 (4 * i) (by omega)
  have b := h2 (4 * i + 1) (by omega)
  have c := h2 (4 * i + 2) (by omega)
  unfold k_tt
  omega
theorem ok_all {g u : Nat → Nat} {ln : Nat} (hk : k_ok g) (h : k_ft u ln = none) : ∀ n, 4 * n ≤ ln + 1 → k_ok (m_all g u n)
  | 0, _ => hk
  | n + 1, hn => ok_put (ok_all hk h n (by omega)) (k_tt_lt h (by omega))
/-- the whole reference: its object, the state, the state put aside, the states remembered, the slots, which are filled, the text -/
abbrev w_md (tc : Nat → ClassId) (b b1 b2 b3 b4 b5 b6 : Nat) (th : Int32) (g ga sv : Nat → Nat) (n : Nat) (sl : Nat → Nat) (iz : Nat → Bool) (u : Nat → Nat) (ln : Nat) : va_W := [(b, .inr (6, [.int th, .ref b1, .ref b2, .ref b3, .int (nI n), .ref b4, .ref b5, .ref b6, .int (nI ln)])), (b1, .inl (tc 0, 60, .inl (fun k => nI (g k)))), (b2, .inl (tc 0, 60, .inl (fun k => nI (ga k)))), (b3, .inl (tc 0, 840, .inl (fun k => nI (sv k)))), (b4, .inl (tc 0, 120, .inl (fun k => nI (sl k)))), (b5, .inl (tc 3, 2, .inl (fun k => bI (iz k)))), (b6, .inl (tc 2, 100, .inl (fun k => byI (u k))))]
end
section
/-! ROWS over bytes, booleans, characters. -/
theorem k_upBy (u : Nat → Nat) (i c : Nat) : upd (fun k => byI (u k)) i (byI c) = fun k => byI (k_up u i c k) := by
  funext k
  show (if k = i then byI c else byI (u k)) = byI (if k = i then c else u k)
  split <;> rfl
theorem k_upBo (iz : Nat → Bool) (i : Nat) (v : Bool) : upd (fun k => bI (iz k)) i (bI v) = fun k => bI (va_up iz i v k) := by
  funext k
  show (if k = i then bI v else bI (iz k)) = bI (if k = i then v else iz k)
  split <;> rfl
theorem k_narBy (c : Nat) : vp_nar .byte (byI c) = byI c := pk_vb (nI c)
theorem k_narBo (v : Bool) : vp_nar .boolean (bI v) = bI v := by cases v <;> decide
theorem k_narCh {c : Nat} (h : c < 65536) : vp_nar .char (nI c) = nI c := by
  unfold vp_nar
  rw [(pk_charN h).1]
theorem k_i2c {c : Nat} (h : c < 65536) : ((nI c).toUInt32 % 65536).toInt32 = nI c := by
  rw [pk_char, pk_tn (Nat.lt_trans h (by decide)), Nat.mod_eq_of_lt h]
section RBY
variable {p : Program} {l : Launch} {e : Env} {R : Room} {s : State} {m : MethodId} {args : Array Value} {below : List Frame} {meth : Method} {c : Code} {H : Heap} {locs : List Loc} {cells slots : Nat} {Q : State → Prop} {cc : ByteArray} {pc : Nat} {ls : Array Slot} {rest : List Value} {D : va_G} {A : Nat → Prop} {wl : va_W} {cl : List vw_C} {tys : List (ClassId × FieldType)} {a : Nat} {H0 : Heap}
theorem ln_bald (hx : p.tables.exec = Jvm.exec) (hb : c.code = cc) (hK : va_K D cl tys s) (hP : va_P D cl wl H) (q0 t0 : Nat) {cA : ClassId} {n i : Nat} {f : Nat → Int32} {v : Int32} (ha : wl[q0]? = some (a, .inl (cA, n, .inl f))) (ht : tys[t0]? = some (cA, .byte)) (hdg : decode cc pc = .ok (.baload, 1)) (hn : n < 2 ^ 31) (hi : i < n) (hv : f i = v) (k : W p l e R s m args below meth c H locs cells slots Q (F0 m (pc + 1) ls (.int v :: rest))) : W p l e R s m args below meth c H locs cells slots Q (F0 m pc ls (.int (nI i) :: .ref a :: rest)) :=
  va_bald hx hb hK hP q0 t0 ha ht (vp_in_nI hi hn) hdg (by rw [nI_clamp (Nat.lt_trans hi hn), hv]; exact k)
theorem ln_zald (hx : p.tables.exec = Jvm.exec) (hb : c.code = cc) (hK : va_K D cl tys s) (hP : va_P D cl wl H) (q0 t0 : Nat) {cA : ClassId} {n i : Nat} {f : Nat → Int32} {v : Int32} (ha : wl[q0]? = some (a, .inl (cA, n, .inl f))) (ht : tys[t0]? = some (cA, .boolean)) (hdg : decode cc pc = .ok (.baload, 1)) (hn : n < 2 ^ 31) (hi : i < n) (hv : f i = v) (k : W p l e R s m args below meth c H locs cells slots Q (F0 m (pc + 1) ls (.int v :: rest))) : W p l e R s m args below meth c H locs cells slots Q (F0 m pc ls (.int (nI i) :: .ref a :: rest)) :=
  va_zald hx hb hK hP q0 t0 ha ht (vp_in_nI hi hn) hdg (by rw [nI_clamp (Nat.lt_trans hi hn), hv]; exact k)
theorem ln_cald (hx : p.tables.exec = Jvm.exec) (hb : c.code = cc) (hK : va_K D cl tys s) (hP : va_P D cl wl H) (q0 t0 : Nat) {cA : ClassId} {n i : Nat} {f : Nat → Int32} {v : Int32} (ha : wl[q0]? = some (a, .inl (cA, n, .inl f))) (ht : tys[t0]? = some (cA, .char)) (hdg : decode cc pc = .ok (.caload, 1)) (hn : n < 2 ^ 31) (hi : i < n) (hv : f i = v) (k : W p l e R s m args below meth c H locs cells slots Q (F0 m (pc + 1) ls (.int v :: rest))) : W p l e R s m args below meth c H locs cells slots Q (F0 m pc ls (.int (nI i) :: .ref a :: rest)) :=
  va_cald hx hb hK hP q0 t0 ha ht (vp_in_nI hi hn) hdg (by rw [nI_clamp (Nat.lt_trans hi hn), hv]; exact k)
theorem ln_bastU (hx : p.tables.exec = Jvm.exec) (hb : c.code = cc) (hK : va_K D cl tys s) (hP : va_P D cl wl H) (hD : va_D A wl) (hS : va_S A H0 H locs) (q0 t0 : Nat) {cA : ClassId} {N i : Nat} {u : Nat → Nat} {d : Nat} (ha : wl[q0]? = some (a, .inl (cA, N, .inl (fun k => byI (u k))))) (ht : tys[t0]? = some (cA, .byte)) (hdg : decode cc pc = .ok (.bastore, 1)) (hn : N < 2 ^ 31) (hi : i < N)
    (kk : ∀ (H1 : Heap) (locs1 : List Loc), va_P D cl (wl.set q0 (a, .inl (cA, N, .inl (fun k => byI (k_up u i d k))))) H1 → va_D A (wl.set q0 (a, .inl (cA, N, .inl (fun k => byI (k_up u i d k))))) → va_S A H0 H1 locs1 → W p l e R s m args below meth c H1 locs1 cells slots Q (F0 m (pc + 1) ls rest)) : W p l e R s m args below meth c H locs cells slots Q (F0 m pc ls (.int (byI d) :: .int (nI i) :: .ref a :: rest)) := by
  refine va_bast hx hb hK hP hD hS q0 t0 ha ht (vp_in_nI hi hn) hdg ?_
  rw [nI_clamp (Nat.lt_trans hi hn), k_narBy, k_upBy]
  exact kk
theorem ln_zastB (hx : p.tables.exec = Jvm.exec) (hb : c.code = cc) (hK : va_K D cl tys s) (hP : va_P D cl wl H) (hD : va_D A wl) (hS : va_S A H0 H locs) (q0 t0 : Nat) {cA : ClassId} {N i : Nat} {iz : Nat → Bool} {v : Bool} (ha : wl[q0]? = some (a, .inl (cA, N, .inl (fun k => bI (iz k))))) (ht : tys[t0]? = some (cA, .boolean)) (hdg : decode cc pc = .ok (.bastore, 1)) (hn : N < 2 ^ 31) (hi : i < N)
    (kk : ∀ (H1 : Heap) (locs1 : List Loc), va_P D cl (wl.set q0 (a, .inl (cA, N, .inl (fun k => bI (va_up iz i v k))))) H1 → va_D A (wl.set q0 (a, .inl (cA, N, .inl (fun k => bI (va_up iz i v k))))) → va_S A H0 H1 locs1 → W p l e R s m args below meth c H1 locs1 cells slots Q (F0 m (pc + 1) ls rest)) : W p l e R s m args below meth c H locs cells slots Q (F0 m pc ls (.int (bI v) :: .int (nI i) :: .ref a :: rest)) := by
  refine va_zast hx hb hK hP hD hS q0 t0 ha ht (vp_in_nI hi hn) hdg ?_
  rw [nI_clamp (Nat.lt_trans hi hn), k_narBo, k_upBo]
  exact kk
theorem ln_castU (hx : p.tables.exec = Jvm.exec) (hb : c.code = cc) (hK : va_K D cl tys s) (hP : va_P D cl wl H) (hD : va_D A wl) (hS : va_S A H0 H locs) (q0 t0 : Nat) {cA : ClassId} {N i : Nat} {u : Nat → Nat} {d : Nat} (ha : wl[q0]? = some (a, .inl (cA, N, .inl (fun k => nI (u k))))) (ht : tys[t0]? = some (cA, .char)) (hdg : decode cc pc = .ok (.castore, 1)) (hn : N < 2 ^ 31) (hi : i < N) (hd : d < 65536)
    (kk : ∀ (H1 : Heap) (locs1 : List Loc), va_P D cl (wl.set q0 (a, .inl (cA, N, .inl (fun k => nI (k_up u i d k))))) H1 → va_D A (wl.set q0 (a, .inl (cA, N, .inl (fun k => nI (k_up u i d k))))) → va_S A H0 H1 locs1 → W p l e R s m args below meth c H1 locs1 cells slots Q (F0 m (pc + 1) ls rest)) : W p l e R s m args below meth c H locs cells slots Q (F0 m pc ls (.int (nI d) :: .int (nI i) :: .ref a :: rest)) := by
  refine va_cast hx hb hK hP hD hS q0 t0 ha ht (vp_in_nI hi hn) hdg ?_
  rw [nI_clamp (Nat.lt_trans hi hn), k_narCh hd, k_upI]
  exact kk
theorem ln_icmp_eqBy (hx : p.tables.exec = Jvm.exec) (hb : c.code = cc) {d v : Nat} {off : Int} {tgt : Nat} (hdg : decode cc pc = .ok (.if_icmp .eq off, 3)) (ht : (pc : Int) + off = (tgt : Int)) (hv : byI d = nI v ↔ d = v) (kt : d = v → W p l e R s m args below meth c H locs cells slots Q (F0 m tgt ls rest)) (kf : ¬ d = v → W p l e R s m args below meth c H locs cells slots Q (F0 m (pc + 3) ls rest)) : W p l e R s m args below meth c H locs cells slots Q (F0 m pc ls (.int (nI v) :: .int (byI d) :: rest)) :=
  lv_icmp_eq hx hb hdg ht (fun h => kt (hv.mp h)) (fun h => kf (fun q => h (hv.mpr q)))
theorem ln_icmp_neBy (hx : p.tables.exec = Jvm.exec) (hb : c.code = cc) {d v : Nat} {off : Int} {tgt : Nat} (hdg : decode cc pc = .ok (.if_icmp .ne off, 3)) (ht : (pc : Int) + off = (tgt : Int)) (hv : byI d = nI v ↔ d = v) (kt : ¬ d = v → W p l e R s m args below meth c H locs cells slots Q (F0 m tgt ls rest)) (kf : d = v → W p l e R s m args below meth c H locs cells slots Q (F0 m (pc + 3) ls rest)) : W p l e R s m args below meth c H locs cells slots Q (F0 m pc ls (.int (nI v) :: .int (byI d) :: rest)) :=
  lv_icmp_ne hx hb hdg ht (fun h => kt (fun q => h (hv.mpr q))) (fun h => kf (hv.mp h))
end RBY
end
