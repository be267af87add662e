/-! BASE. amb: what every method here may take as given of the world beside its own cells (class numbers, the table BY, the two statics of Throwable). RO: the contract of a method that changes nothing and answers v. ln_: the kit's rows over natural numbers (.int (nI k)). -/
abbrev TY (tc : Nat → ClassId) : List (ClassId × FieldType) := [(tc 0, .int), (tc 1, .char), (tc 0, .int), (tc 0, .int), (tc 0, .int), (tc 5, .object "TripleWays$State")]
def byl : List Nat := [0, 1, 2, 0, 2, 1, 1, 0, 2, 1, 2, 0, 2, 0, 1, 2, 1, 0]
def byf (j : Nat) : Nat := byl.getD j 0
def nstF : List (String × Nat × String × String × String) := [("TripleWays$Advice", 25, "TripleWays$State", "size", "I"), ("TripleWays", 85, "TripleWays$State", "size", "I"), ("TripleWays$Advice", 31, "TripleWays$State", "kept", "I"), ("TripleWays", 89, "TripleWays$State", "kept", "I"), ("TripleWays", 92, "TripleWays$State", "upkeepCosts", "I"), ("TripleWays", 95, "TripleWays$State", "buildingCosts", "I"), ("TripleWays", 98, "TripleWays$State", "answerCosts", "I"), ("TripleWays", 101, "TripleWays$State", "asked", "I"), ("TripleWays$Advice", 18, "TripleWays$State", "questionCount", "I"), ("TripleWays", 104, "TripleWays$State", "questionCount", "I"), ("TripleWays$Advice", 35, "TripleWays$State", "weight", "I"), ("TripleWays", 126, "TripleWays$State", "weight", "I"), ("TripleWays", 214, "TripleWays$History", "size", "I")]
def nstM : List (String × Nat × MethodName) := [("TripleWays", 9, ⟨"TripleWays$Text", "<init>", "()V"⟩), ("TripleWays", 18, ⟨"TripleWays$State", "<init>", "()V"⟩), ("TripleWays$History", 17, ⟨"TripleWays$State", "<init>", "()V"⟩), ("TripleWays", 35, ⟨"TripleWays$Advice", "<init>", "()V"⟩), ("TripleWays", 42, ⟨"TripleWays$Slot", "<init>", "()V"⟩), ("TripleWays$Slot", 9, ⟨"TripleWays$State", "<init>", "()V"⟩)]
def strL : List (String × Nat × String) := []
def cstL : List (String × String) := []
def ncL : List (String × String) := []
/-- what the tables say of members of nest mates, of the texts of exceptions, of the exceptions' classes -/
def xamb (U : State) : Prop := (∀ q ∈ nstF, va_Nw (.fieldLinkNest q.1 q.2.1 q.2.2.1 q.2.2.2.1 q.2.2.2.2 "TripleWays") U) ∧ (∀ q ∈ nstM, va_Nw (.methodLinkNest q.1 q.2.1 q.2.2 "TripleWays") U) ∧ (∀ q ∈ strL, ∃ a : Nat, vk_R q.1 q.2.1 q.2.2 a U) ∧ (∀ q ∈ cstL, va_Nw (.castable q.1 q.2) U) ∧ ∀ q ∈ ncL, va_Nc q.1 q.2 U
theorem xamb.warm {s U : State} (hW : s.WarmedH U.vm) (h : xamb s) : xamb U := ⟨fun q hq => va_Nw.warmF hW (h.1 q hq), fun q hq => va_Nw.warmM hW (h.2.1 q hq), fun q hq => (h.2.2.1 q hq).elim fun a ha => ⟨a, vk_R.warm hW ha⟩, fun q hq => va_Nw.warmC hW (h.2.2.2.1 q hq), fun q hq => va_Nc.moved hW.alike (h.2.2.2.2 q hq)⟩
theorem xamb.same {u U : State} (hv : u.vm = U.vm) (h : xamb u) : xamb U := ⟨fun q hq => va_Nw.same rfl hv (h.1 q hq), fun q hq => va_Nw.same rfl hv (h.2.1 q hq), fun q hq => (h.2.2.1 q hq).elim fun a ha => ⟨a, vk_R.same hv.symm ha⟩, fun q hq => va_Nw.same rfl hv (h.2.2.2.1 q hq), fun q hq => va_Nc.moved (by rw [hv]; exact Vm.Alike.refl _) (h.2.2.2.2 q hq)⟩
def amb (D : va_G) (tc : Nat → ClassId) (zb : Nat) (A : Nat → Prop) (U : State) (H : Heap) : Prop := va_K D vwCl (TY tc) U ∧ va_Z RX2 "BY" "[I" (.ref zb) A U H ∧ va_T .int zb 18 (fun j => .int (nI (byf j))) A U H ∧ vx_Zq Bundle.tN "UNASSIGNED_STACK" Bundle.steD A U H ∧ vx_Zq Bundle.tN "SUPPRESSED_SENTINEL" Bundle.listD A U H ∧ xamb U
theorem amb.moved {D : va_G} {tc : Nat → ClassId} {zb : Nat} {A : Nat → Prop} {u U : State} {H : Heap} (hW : u.WarmedH U.vm) (h : amb D tc zb A u H) : amb D tc zb A U H := ⟨va_K.moved hW.alike h.1, va_Z.moved hW.alike h.2.1, va_T.moved hW.alike h.2.2.1, vx_Zq.moved hW.alike h.2.2.2.1, vx_Zq.moved hW.alike h.2.2.2.2.1, h.2.2.2.2.2.warm hW⟩
theorem amb.same {D : va_G} {tc : Nat → ClassId} {zb : Nat} {A : Nat → Prop} {u U : State} {H : Heap} (hv : u.vm = U.vm) (h : amb D tc zb A u H) : amb D tc zb A U H :=
  have ha : u.vm.Alike U.vm := by rw [hv]; exact Vm.Alike.refl _
  ⟨va_K.moved ha h.1, va_Z.moved ha h.2.1, va_T.moved ha h.2.2.1, vx_Zq.moved ha h.2.2.2.1, vx_Zq.moved ha h.2.2.2.2.1, h.2.2.2.2.2.same hv⟩
theorem amb.kept {D : va_G} {tc : Nat → ClassId} {zb : Nat} {A : Nat → Prop} {U : State} {H H1 : Heap} (h : amb D tc zb A U H) (hq : ∀ a : Nat, a < H.size → ¬ A a → H1[a]? = H[a]?) : amb D tc zb A U H1 := ⟨h.1, va_Z.kept h.2.1 hq, va_T.kept h.2.2.1 hq, vx_Zq.kept h.2.2.2.1 hq, vx_Zq.kept h.2.2.2.2.1 hq, h.2.2.2.2.2⟩
theorem amb.narrow {D : va_G} {tc : Nat → ClassId} {zb : Nat} {A B : Nat → Prop} {U : State} {H : Heap} (h : amb D tc zb A U H) (hAB : ∀ q, B q → A q) : amb D tc zb B U H := ⟨h.1, va_Z.narrow h.2.1 hAB, va_T.narrow h.2.2.1 hAB, vx_Zq.narrow h.2.2.2.1 hAB, vx_Zq.narrow h.2.2.2.2.1 hAB, h.2.2.2.2.2⟩
theorem amb.go {D : va_G} {tc : Nat → ClassId} {zb : Nat} {A : Nat → Prop} {s : State} {H : Heap} {locs : List Loc} (h : amb D tc zb A s s.heap) (hS : va_S A s.heap H locs) : amb D tc zb A s H := h.kept hS.2.1
/-- the world of a method that changes nothing -/
def roB (D : va_G) (tc : Nat → ClassId) (zb : Nat) (w : va_W) (U : State) : Prop := amb D tc zb (fun _ => False) U U.heap ∧ va_P D vwCl w U.heap
def roQ (v : Value) : Array Value → State → Outcome → State → Prop := fun _ st oc t => oc = .returned (some v) ∧ t.heap = st.heap
/-- method y changes nothing, and answers v -/
def RO (l : Launch) (y : MethodName) (ws : List Cond) (fr lo : Nat) (D : va_G) (tc : Nat → ClassId) (zb : Nat) (w : va_W) (av : List Value) (v : Value) : Prop := Met l y ws ({ frames := fr, cells := 0, slots := 0, locals := lo } : Room) (va_Pc av (roB D tc zb w)) (roQ v) 0 0 (fun _ => False)
theorem roB_blind {D : va_G} {tc : Nat → ClassId} {zb : Nat} {w : va_W} {av : List Value} : FrameBlind (va_Pc av (roB D tc zb w)) := fun a U g mk q => ⟨q.1, amb.same (u := U) (U := U.calling g mk a) rfl q.2.1, q.2.2⟩
theorem RO.of {l : Launch} {y : MethodName} {ws ws' : List Cond} {fr lo : Nat} {D : va_G} {tc : Nat → ClassId} {zb : Nat} {w : va_W} {av : List Value} {v : Value} {cc : ByteArray} {maxL : Nat} {ret : Option FieldType}
    (hy : plainName y.cls = true) (hw : ws = Cond.code y cc maxL ret :: ws') (hlen : (lg_sl av).length ≤ maxL)
    (body : ∀ (p : Program) (e : Env) (s : State) (m : MethodId) (args : Array Value) (below : List Frame) (meth : Method) (c : Code), p.tables.exec = Jvm.exec → c.code = cc → meth.sig.returnType = ret → c.maxLocals = maxL → meth.locks = false → (∀ x ∈ ws, x.before args s = true) → s.vm.findClass y.cls = some m.cls → amb D tc zb (fun _ => False) s s.heap → va_S (fun _ => False) s.heap s.heap [] → va_P D vwCl w s.heap → ∀ ls : Array Slot, lv_has ls maxL (lv_args 0 av) →
      W p l e ({ frames := fr, cells := 0, slots := 0, locals := lo } : Room) s m args below meth c s.heap [] 0 0 (MQ below (roQ v) args s 0 0 (fun _ => False)) (F0 m 0 ls [])) : RO l y ws fr lo D tc zb w av v := by
  refine Met.ofW (cc := cc) (maxL := maxL) (ret := ret) hy hw ?_
  intro p e s m args below meth c s₁ B hml hv
  obtain ⟨rfl, hM, hP⟩ := hv
  have hts := atoms_spec (ws := ws) B.pre
  have hown : s.vm.findClass y.cls = some m.cls := findClass_of_methodNamed B.named
  have hl := lv_entry av (n := maxL) hlen
  have h9 := body p e s m _ below meth c B.exec B.bytes B.returns hml B.notSynchronized hts hown hM va_S.rf hP _ hl
  rw [lg_entry_eq]
  exact h9
section ROC
variable {p : Program} {l : Launch} {e : Env} {R : Room} {s : State} {m : MethodId} {args : Array Value} {below : List Frame} {meth : Method} {c : Code} {H : Heap} {locs : List Loc} {cells slots : Nat} {Q : State → Prop} {pc : Nat} {ls : Array Slot} {rest st0 : List Value}
variable {y : MethodName} {bytes cc : ByteArray} {maxL nL n idx fr lo : Nat} {ret : Option FieldType} {wsy ws' : List Cond} {Ts : List Cond} {own C : String} {b : Nat} {As : List Value} {v : Value} {D : va_G} {tc : Nat → ClassId} {zb : Nat} {A : Nat → Prop} {wl wc : va_W}
theorem ro_V (S : CallFix p m c cc nL s args Ts own) (hM : amb D tc zb A s s.heap) (hS : va_S A s.heap H locs) (hP : va_P D vwCl wl H) (hc : RO l y wsy fr lo D tc zb wc (.ref b :: As) v) (hg : GoodIn Ts (wsV own idx C y wsy)) (hw : wsy = Cond.code y bytes maxL ret :: ws')
    (hd : y.cls = C ∧ y.cls ≠ "java/lang/invoke/MethodHandle" ∧ y.cls ≠ "java/lang/invoke/VarHandle" ∧ (parseMethodDescriptor y.desc).map (fun d => d.parameters.length) = some n) (hR : fr + 1 ≤ R.frames ∧ 8 + (maxL + 11) + lo ≤ R.locals)
    (isC : List Nat) (hC : isC.filterMap (fun i => wl[i]?) = wc) (hrecv : ∃ cell : Cell, H[b]? = some cell ∧ cell.vm.isStatics = false ∧ s.vm.findClass C = some cell.cls) (hn : As.length = n) (hls : ls.size = nL) (hst : st0 = As.reverse ++ .ref b :: rest) (hW : (rest.map fun v => v.category).sum ≤ 8) (hdg : decode cc pc = .ok (.invokevirtual idx, 3)) (hf : cells ≤ R.cells ∧ slots ≤ R.slots)
    (kk : W p l e R s m args below meth c H locs cells slots Q (F0 m (pc + 3) ls (v :: rest))) : W p l e R s m args below meth c H locs cells slots Q (F0 m pc ls st0) := by
  have hr := va_runV (e := e) (H := H) (locs := locs) (cells := cells) (slots := slots) (below := below) (meth := meth) (g := F0 m pc ls st0) (rest := rest) S hc (cwV n S.2.2.2.2 hg hw rfl rfl hd hR) ⟨roB_blind, hrecv, fun U hU hW => ⟨rfl, by rw [hU]; exact amb.narrow (amb.moved hW (hM.go hS)) (fun _ h => h.elim), by rw [hU]; exact hP.sub isC hC⟩⟩ rfl hn hls hst (lv_room hW) hdg hf
  intro T hT X
  obtain ⟨v', st₀, t, T', L, h0, X', hL, e1, e2, ⟨hv, hh⟩, st⟩ := hr T hT X
  cases L with
  | cons q L => exact (hL q List.mem_cons_self).elim
  | nil =>
    cases hv
    rw [List.append_nil] at X'
    obtain ⟨t2, a1, b1⟩ := kk T' (by rw [e1, hh, h0]) X'
    exact ⟨t2, st t2 a1, b1⟩
theorem ro_S (S : CallFix p m c cc nL s args Ts own) (hM : amb D tc zb A s s.heap) (hS : va_S A s.heap H locs) (hP : va_P D vwCl wl H) (hc : RO l y wsy fr lo D tc zb wc As v) (hg : GoodIn Ts (va_wsS own idx y wsy)) (hw : wsy = Cond.code y bytes maxL ret :: ws')
    (hd : y.cls ≠ "java/lang/invoke/MethodHandle" ∧ y.cls ≠ "java/lang/invoke/VarHandle" ∧ (parseMethodDescriptor y.desc).map (fun d => d.parameters.length) = some n) (hR : fr + 1 ≤ R.frames ∧ 8 + (maxL + 11) + lo ≤ R.locals)
    (isC : List Nat) (hC : isC.filterMap (fun i => wl[i]?) = wc) (hn : As.length = n) (hls : ls.size = nL) (hst : st0 = As.reverse ++ rest) (hW : (rest.map fun v => v.category).sum ≤ 8) (hdg : decode cc pc = .ok (.invokestatic idx, 3)) (hf : cells ≤ R.cells ∧ slots ≤ R.slots)
    (kk : W p l e R s m args below meth c H locs cells slots Q (F0 m (pc + 3) ls (v :: rest))) : W p l e R s m args below meth c H locs cells slots Q (F0 m pc ls st0) := by
  have hr := va_runS (e := e) (H := H) (locs := locs) (cells := cells) (slots := slots) (below := below) (meth := meth) (g := F0 m pc ls st0) (rest := rest) S hc (va_cwS n S.2.2.2.2 hg hw rfl rfl hd hR) ⟨roB_blind, fun U hU hW => ⟨rfl, by rw [hU]; exact amb.narrow (amb.moved hW (hM.go hS)) (fun _ h => h.elim), by rw [hU]; exact hP.sub isC hC⟩⟩ rfl hn hls hst (lv_room hW) hdg hf
  intro T hT X
  obtain ⟨v', st₀, t, T', L, h0, X', hL, e1, e2, ⟨hv, hh⟩, st⟩ := hr T hT X
  cases L with
  | cons q L => exact (hL q List.mem_cons_self).elim
  | nil =>
    cases hv
    rw [List.append_nil] at X'
    obtain ⟨t2, a1, b1⟩ := kk T' (by rw [e1, hh, h0]) X'
    exact ⟨t2, st t2 a1, b1⟩
theorem ro_iret {x x' : Int32} (hx : p.tables.exec = Jvm.exec) (hb : c.code = cc) (hr : meth.sig.returnType = some .int) (hlk : meth.locks = false) (hdg : decode cc pc = .ok (.ireturn, 1)) (hv : x' = x) : W p l e R s m args below meth c s.heap [] 0 0 (MQ below (roQ (.int x)) args s 0 0 (fun _ => False)) (F0 m pc ls [.int x']) :=
  W.iret hx hb hr (fun t ht _ => ⟨by rw [hv], ht⟩) (fun _ h => by cases h) hdg hlk
def bI (b : Bool) : Int32 := if b then 1 else 0
theorem bI_n (b : Bool) : narrow .boolean (.int (bI b)) = .int (bI b) := by cases b <;> decide
theorem ro_zret {x' : Int32} {v : Bool} (hx : p.tables.exec = Jvm.exec) (hb : c.code = cc) (hr : meth.sig.returnType = some .boolean) (hlk : meth.locks = false) (hdg : decode cc pc = .ok (.ireturn, 1)) (hv : x' = bI v) : W p l e R s m args below meth c s.heap [] 0 0 (MQ below (roQ (.int (bI v))) args s 0 0 (fun _ => False)) (F0 m pc ls [.int x']) := by
  subst hv
  exact W.zret hx hb hr (bI_n v) (fun t ht _ => ⟨rfl, ht⟩) (fun _ h => by cases h) hdg hlk
theorem ro_zretN {x x' : Nat} (hx : p.tables.exec = Jvm.exec) (hb : c.code = cc) (hr : meth.sig.returnType = some .boolean) (hlk : meth.locks = false) (hdg : decode cc pc = .ok (.ireturn, 1)) (hv : nI x' = nI x) (h1 : x < 2 := by decide) : W p l e R s m args below meth c s.heap [] 0 0 (MQ below (roQ (.int (nI x))) args s 0 0 (fun _ => False)) (F0 m pc ls [.int (nI x')]) := by
  rw [hv]
  exact W.zret hx hb hr (by rcases (show x = 0 ∨ x = 1 by omega) with q | q <;> subst q <;> decide) (fun t ht _ => ⟨rfl, ht⟩) (fun _ h => by cases h) hdg hlk
end ROC
def oI : Option Nat → Int32
  | none => -1
  | some n => nI n
theorem nI_nm1 {a : Nat} (h : a < 2 ^ 31) : ¬ nI a = -1 := by
  intro q
  have h2 := congrArg Int32.toInt q
  rw [nI_toInt h] at h2
  have : (-1 : Int32).toInt = -1 := by decide
  omega
theorem nI_nltm1 {a : Nat} (h : a < 2 ^ 31) : ¬ nI a < -1 := by
  intro q
  rw [Int32.lt_iff_toInt_lt, nI_toInt h] at q
  have : (-1 : Int32).toInt = -1 := by decide
  omega
section LN
variable {p : Program} {l : Launch} {e : Env} {R : Room} {s : State} {m : MethodId} {args : Array Value} {below : List Frame} {meth : Method} {c : Code} {H : Heap} {locs : List Loc} {cells slots : Nat} {Q : State → Prop} {cc : ByteArray} {pc : Nat} {ls : Array Slot} {rest : List Value}
theorem ln_eq {x x' : Int32} (h : x = x') (k : W p l e R s m args below meth c H locs cells slots Q (F0 m pc ls (.int x' :: rest))) : W p l e R s m args below meth c H locs cells slots Q (F0 m pc ls (.int x :: rest)) := h ▸ k
theorem ln_iadd (hx : p.tables.exec = Jvm.exec) (hb : c.code = cc) {x y : Nat} (hdg : decode cc pc = .ok (.iadd, 1)) (k : W p l e R s m args below meth c H locs cells slots Q (F0 m (pc + 1) ls (.int (nI (x + y)) :: rest))) : W p l e R s m args below meth c H locs cells slots Q (F0 m pc ls (.int (nI y) :: .int (nI x) :: rest)) :=
  lv_iadd hx hb hdg (by rw [nI_add]; exact k)
theorem ln_isub (hx : p.tables.exec = Jvm.exec) (hb : c.code = cc) {x y : Nat} (hdg : decode cc pc = .ok (.isub, 1)) (h : y ≤ x) (k : W p l e R s m args below meth c H locs cells slots Q (F0 m (pc + 1) ls (.int (nI (x - y)) :: rest))) : W p l e R s m args below meth c H locs cells slots Q (F0 m pc ls (.int (nI y) :: .int (nI x) :: rest)) :=
  lv_isub hx hb hdg (by rw [pk_sub h]; exact k)
theorem ln_imul (hx : p.tables.exec = Jvm.exec) (hb : c.code = cc) {x y : Nat} (hdg : decode cc pc = .ok (.imul, 1)) (k : W p l e R s m args below meth c H locs cells slots Q (F0 m (pc + 1) ls (.int (nI (x * y)) :: rest))) : W p l e R s m args below meth c H locs cells slots Q (F0 m pc ls (.int (nI y) :: .int (nI x) :: rest)) :=
  lv_imul hx hb hdg (by rw [pk_mul]; exact k)
theorem ln_idiv (hx : p.tables.exec = Jvm.exec) (hb : c.code = cc) {x y : Nat} (hdg : decode cc pc = .ok (.idiv, 1)) (h1 : x < 2 ^ 31) (h2 : 0 < y) (h3 : y < 2 ^ 31) (k : W p l e R s m args below meth c H locs cells slots Q (F0 m (pc + 1) ls (.int (nI (x / y)) :: rest))) : W p l e R s m args below meth c H locs cells slots Q (F0 m pc ls (.int (nI y) :: .int (nI x) :: rest)) :=
  lv_idiv hx hb hdg (nI_ne0 h2 h3) (by rw [pk_div h1 h2 h3]; exact k)
theorem ln_irem (hx : p.tables.exec = Jvm.exec) (hb : c.code = cc) {x y : Nat} (hdg : decode cc pc = .ok (.irem, 1)) (h1 : x < 2 ^ 31) (h2 : 0 < y) (h3 : y < 2 ^ 31) (k : W p l e R s m args below meth c H locs cells slots Q (F0 m (pc + 1) ls (.int (nI (x % y)) :: rest))) : W p l e R s m args below meth c H locs cells slots Q (F0 m pc ls (.int (nI y) :: .int (nI x) :: rest)) :=
  lv_irem hx hb hdg (nI_ne0 h2 h3) (by rw [pk_rem h1 h2 h3]; exact k)
theorem ln_sl : ∀ n, n < 32 → ((nI n &&& 31).toBitVec.smod 32).toNat = n := by decide +kernel
theorem ln_ishl (hx : p.tables.exec = Jvm.exec) (hb : c.code = cc) {x y : Nat} (hdg : decode cc pc = .ok (.ishl, 1)) (h1 : y < 31) (h2 : x * 2 ^ y < 2 ^ 32) (k : W p l e R s m args below meth c H locs cells slots Q (F0 m (pc + 1) ls (.int (nI (x * 2 ^ y)) :: rest))) : W p l e R s m args below meth c H locs cells slots Q (F0 m pc ls (.int (nI y) :: .int (nI x) :: rest)) :=
  lv_ishl hx hb hdg (by rw [pk_shlN _ y (ln_sl y (by omega)) h2]; exact k)
theorem k_shl1 {y : Nat} (h : y < 31) : 1 * 2 ^ y < 2 ^ 32 := by
  have h1 : 2 ^ y ≤ 2 ^ 30 := Nat.pow_le_pow_right (by decide) (by omega)
  omega
theorem ln_ishl1 (hx : p.tables.exec = Jvm.exec) (hb : c.code = cc) {y : Nat} (hdg : decode cc pc = .ok (.ishl, 1)) (h1 : y < 31) (k : W p l e R s m args below meth c H locs cells slots Q (F0 m (pc + 1) ls (.int (nI (2 ^ y)) :: rest))) : W p l e R s m args below meth c H locs cells slots Q (F0 m pc ls (.int (nI y) :: .int (nI 1) :: rest)) :=
  ln_ishl hx hb hdg h1 (k_shl1 h1) (by rw [Nat.one_mul]; exact k)
theorem k_orI (a b : Nat) : nI a ||| nI b = nI (a ||| b) := by
  apply Int32.toBitVec_inj.mp
  show BitVec.ofNat 32 a ||| BitVec.ofNat 32 b = BitVec.ofNat 32 (a ||| b)
  apply BitVec.eq_of_getLsbD_eq
  intro i hi
  simp [hi]
theorem ln_ior (hx : p.tables.exec = Jvm.exec) (hb : c.code = cc) {x y : Nat} (hdg : decode cc pc = .ok (.ior, 1)) (k : W p l e R s m args below meth c H locs cells slots Q (F0 m (pc + 1) ls (.int (nI (x ||| y)) :: rest))) : W p l e R s m args below meth c H locs cells slots Q (F0 m pc ls (.int (nI y) :: .int (nI x) :: rest)) :=
  lv_ior hx hb hdg (by rw [k_orI]; exact k)
theorem k_andn : ∀ x, x < 64 → ∀ y, y < 64 → nI x &&& (nI y ^^^ (-1)) = nI (x &&& (63 ^^^ y)) := by decide +kernel
theorem ln_iandn (hx : p.tables.exec = Jvm.exec) (hb : c.code = cc) {x y : Nat} (hdg : decode cc pc = .ok (.iand, 1)) (h1 : x < 64) (h2 : y < 64) (k : W p l e R s m args below meth c H locs cells slots Q (F0 m (pc + 1) ls (.int (nI (x &&& (63 ^^^ y))) :: rest))) : W p l e R s m args below meth c H locs cells slots Q (F0 m pc ls (.int (nI y ^^^ (-1)) :: .int (nI x) :: rest)) :=
  lv_iand hx hb hdg (by rw [k_andn x h1 y h2]; exact k)
theorem ln_ishr (hx : p.tables.exec = Jvm.exec) (hb : c.code = cc) {x y : Nat} (hdg : decode cc pc = .ok (.ishr, 1)) (h1 : y < 32) (h2 : x < 2 ^ 31) (k : W p l e R s m args below meth c H locs cells slots Q (F0 m (pc + 1) ls (.int (nI (x / 2 ^ y)) :: rest))) : W p l e R s m args below meth c H locs cells slots Q (F0 m pc ls (.int (nI y) :: .int (nI x) :: rest)) :=
  lv_ishr hx hb hdg (by rw [pk_shrN h2 _ y (ln_sl y h1)]; exact k)
theorem ln_and1 (x : Nat) (hx : x < 2 ^ 31) : nI x &&& nI 1 = nI (x % 2) := by
  rw [pk_andN (m := nI 1) (show x < 2 ^ 32 by omega) 1 (by decide)]
theorem ln_iand1 (hx : p.tables.exec = Jvm.exec) (hb : c.code = cc) {x : Nat} (hdg : decode cc pc = .ok (.iand, 1)) (h1 : x < 2 ^ 31) (k : W p l e R s m args below meth c H locs cells slots Q (F0 m (pc + 1) ls (.int (nI (x % 2)) :: rest))) : W p l e R s m args below meth c H locs cells slots Q (F0 m pc ls (.int (nI 1) :: .int (nI x) :: rest)) :=
  lv_iand hx hb hdg (by rw [ln_and1 x h1]; exact k)
theorem ln_if_eq (hx : p.tables.exec = Jvm.exec) (hb : c.code = cc) {x : Nat} {off : Int} {tgt : Nat} (hdg : decode cc pc = .ok (.ifCond .eq off, 3)) (ht : (pc : Int) + off = (tgt : Int)) (h1 : x < 2 ^ 31) (kt : x = 0 → W p l e R s m args below meth c H locs cells slots Q (F0 m tgt ls rest)) (kf : 0 < x → W p l e R s m args below meth c H locs cells slots Q (F0 m (pc + 3) ls rest)) : W p l e R s m args below meth c H locs cells slots Q (F0 m pc ls (.int (nI x) :: rest)) :=
  lv_if_eq hx hb hdg ht (fun h => kt ((nI_eq h1 (by decide)).mp h)) (fun h => kf (Nat.pos_of_ne_zero fun q => h (by rw [q]; rfl)))
theorem ln_if_ne (hx : p.tables.exec = Jvm.exec) (hb : c.code = cc) {x : Nat} {off : Int} {tgt : Nat} (hdg : decode cc pc = .ok (.ifCond .ne off, 3)) (ht : (pc : Int) + off = (tgt : Int)) (h1 : x < 2 ^ 31) (kt : 0 < x → W p l e R s m args below meth c H locs cells slots Q (F0 m tgt ls rest)) (kf : x = 0 → W p l e R s m args below meth c H locs cells slots Q (F0 m (pc + 3) ls rest)) : W p l e R s m args below meth c H locs cells slots Q (F0 m pc ls (.int (nI x) :: rest)) :=
  lv_if_ne hx hb hdg ht (fun h => kt (Nat.pos_of_ne_zero fun q => h (by rw [q]; rfl))) (fun h => kf ((nI_eq h1 (by decide)).mp h))
theorem ln_if_lt (hx : p.tables.exec = Jvm.exec) (hb : c.code = cc) {x : Nat} {off : Int} {tgt : Nat} (hdg : decode cc pc = .ok (.ifCond .lt off, 3)) (ht : (pc : Int) + off = (tgt : Int)) (h1 : x < 2 ^ 31) (kf : W p l e R s m args below meth c H locs cells slots Q (F0 m (pc + 3) ls rest)) : W p l e R s m args below meth c H locs cells slots Q (F0 m pc ls (.int (nI x) :: rest)) :=
  lv_if_lt hx hb hdg ht (fun h => absurd h (nI_pos h1)) (fun _ => kf)
theorem ln_if_ge (hx : p.tables.exec = Jvm.exec) (hb : c.code = cc) {x : Nat} {off : Int} {tgt : Nat} (hdg : decode cc pc = .ok (.ifCond .ge off, 3)) (ht : (pc : Int) + off = (tgt : Int)) (h1 : x < 2 ^ 31) (kt : W p l e R s m args below meth c H locs cells slots Q (F0 m tgt ls rest)) : W p l e R s m args below meth c H locs cells slots Q (F0 m pc ls (.int (nI x) :: rest)) :=
  lv_if_ge hx hb hdg ht (fun _ => kt) (fun h => absurd (nI_pos' h1) h)
theorem ln_if_gt (hx : p.tables.exec = Jvm.exec) (hb : c.code = cc) {x : Nat} {off : Int} {tgt : Nat} (hdg : decode cc pc = .ok (.ifCond .gt off, 3)) (ht : (pc : Int) + off = (tgt : Int)) (h1 : x < 2 ^ 31) (kt : 0 < x → W p l e R s m args below meth c H locs cells slots Q (F0 m tgt ls rest)) (kf : x = 0 → W p l e R s m args below meth c H locs cells slots Q (F0 m (pc + 3) ls rest)) : W p l e R s m args below meth c H locs cells slots Q (F0 m pc ls (.int (nI x) :: rest)) :=
  lv_if_gt hx hb hdg ht (fun h => kt ((Nat.eq_zero_or_pos x).elim (fun q => absurd h (by rw [q]; decide)) id)) (fun h => kf ((Nat.eq_zero_or_pos x).elim id (fun q => absurd (nI_lt q h1) h)))
theorem ln_if_le (hx : p.tables.exec = Jvm.exec) (hb : c.code = cc) {x : Nat} {off : Int} {tgt : Nat} (hdg : decode cc pc = .ok (.ifCond .le off, 3)) (ht : (pc : Int) + off = (tgt : Int)) (h1 : x < 2 ^ 31) (kt : x = 0 → W p l e R s m args below meth c H locs cells slots Q (F0 m tgt ls rest)) (kf : 0 < x → W p l e R s m args below meth c H locs cells slots Q (F0 m (pc + 3) ls rest)) : W p l e R s m args below meth c H locs cells slots Q (F0 m pc ls (.int (nI x) :: rest)) :=
  lv_if_le hx hb hdg ht (fun h => kt ((Nat.eq_zero_or_pos x).elim id (fun q => absurd h (nI_nle q h1)))) (fun h => kf ((Nat.eq_zero_or_pos x).elim (fun q => absurd (by rw [q]; decide) h) id))
theorem ln_icmp_eq (hx : p.tables.exec = Jvm.exec) (hb : c.code = cc) {x y : Nat} {off : Int} {tgt : Nat} (hdg : decode cc pc = .ok (.if_icmp .eq off, 3)) (ht : (pc : Int) + off = (tgt : Int)) (h1 : x < 2 ^ 31) (h2 : y < 2 ^ 31) (kt : x = y → W p l e R s m args below meth c H locs cells slots Q (F0 m tgt ls rest)) (kf : ¬ x = y → W p l e R s m args below meth c H locs cells slots Q (F0 m (pc + 3) ls rest)) : W p l e R s m args below meth c H locs cells slots Q (F0 m pc ls (.int (nI y) :: .int (nI x) :: rest)) :=
  lv_icmp_eq hx hb hdg ht (fun h => kt ((nI_eq h1 h2).mp h)) (fun h => kf (fun q => h ((nI_eq h1 h2).mpr q)))
theorem ln_icmp_ne (hx : p.tables.exec = Jvm.exec) (hb : c.code = cc) {x y : Nat} {off : Int} {tgt : Nat} (hdg : decode cc pc = .ok (.if_icmp .ne off, 3)) (ht : (pc : Int) + off = (tgt : Int)) (h1 : x < 2 ^ 31) (h2 : y < 2 ^ 31) (kt : ¬ x = y → W p l e R s m args below meth c H locs cells slots Q (F0 m tgt ls rest)) (kf : x = y → W p l e R s m args below meth c H locs cells slots Q (F0 m (pc + 3) ls rest)) : W p l e R s m args below meth c H locs cells slots Q (F0 m pc ls (.int (nI y) :: .int (nI x) :: rest)) :=
  lv_icmp_ne hx hb hdg ht (fun h => kt (fun q => h ((nI_eq h1 h2).mpr q))) (fun h => kf ((nI_eq h1 h2).mp h))
theorem ln_icmp_lt (hx : p.tables.exec = Jvm.exec) (hb : c.code = cc) {x y : Nat} {off : Int} {tgt : Nat} (hdg : decode cc pc = .ok (.if_icmp .lt off, 3)) (ht : (pc : Int) + off = (tgt : Int)) (h1 : x < 2 ^ 31) (h2 : y < 2 ^ 31) (kt : x < y → W p l e R s m args below meth c H locs cells slots Q (F0 m tgt ls rest)) (kf : y ≤ x → W p l e R s m args below meth c H locs cells slots Q (F0 m (pc + 3) ls rest)) : W p l e R s m args below meth c H locs cells slots Q (F0 m pc ls (.int (nI y) :: .int (nI x) :: rest)) :=
  lv_icmp_lt hx hb hdg ht (fun h => kt ((nI_ltI h1 h2).mp h)) (fun h => kf (Nat.le_of_not_lt fun q => h ((nI_ltI h1 h2).mpr q)))
theorem ln_icmp_ge (hx : p.tables.exec = Jvm.exec) (hb : c.code = cc) {x y : Nat} {off : Int} {tgt : Nat} (hdg : decode cc pc = .ok (.if_icmp .ge off, 3)) (ht : (pc : Int) + off = (tgt : Int)) (h1 : x < 2 ^ 31) (h2 : y < 2 ^ 31) (kt : y ≤ x → W p l e R s m args below meth c H locs cells slots Q (F0 m tgt ls rest)) (kf : x < y → W p l e R s m args below meth c H locs cells slots Q (F0 m (pc + 3) ls rest)) : W p l e R s m args below meth c H locs cells slots Q (F0 m pc ls (.int (nI y) :: .int (nI x) :: rest)) :=
  lv_icmp_ge hx hb hdg ht (fun h => kt ((nI_leI h2 h1).mp h)) (fun h => kf (Nat.lt_of_not_le fun q => h ((nI_leI h2 h1).mpr q)))
theorem ln_icmp_gt (hx : p.tables.exec = Jvm.exec) (hb : c.code = cc) {x y : Nat} {off : Int} {tgt : Nat} (hdg : decode cc pc = .ok (.if_icmp .gt off, 3)) (ht : (pc : Int) + off = (tgt : Int)) (h1 : x < 2 ^ 31) (h2 : y < 2 ^ 31) (kt : y < x → W p l e R s m args below meth c H locs cells slots Q (F0 m tgt ls rest)) (kf : x ≤ y → W p l e R s m args below meth c H locs cells slots Q (F0 m (pc + 3) ls rest)) : W p l e R s m args below meth c H locs cells slots Q (F0 m pc ls (.int (nI y) :: .int (nI x) :: rest)) :=
  lv_icmp_gt hx hb hdg ht (fun h => kt ((nI_ltI h2 h1).mp h)) (fun h => kf (Nat.le_of_not_lt fun q => h ((nI_ltI h2 h1).mpr q)))
theorem ln_icmp_le (hx : p.tables.exec = Jvm.exec) (hb : c.code = cc) {x y : Nat} {off : Int} {tgt : Nat} (hdg : decode cc pc = .ok (.if_icmp .le off, 3)) (ht : (pc : Int) + off = (tgt : Int)) (h1 : x < 2 ^ 31) (h2 : y < 2 ^ 31) (kt : x ≤ y → W p l e R s m args below meth c H locs cells slots Q (F0 m tgt ls rest)) (kf : y < x → W p l e R s m args below meth c H locs cells slots Q (F0 m (pc + 3) ls rest)) : W p l e R s m args below meth c H locs cells slots Q (F0 m pc ls (.int (nI y) :: .int (nI x) :: rest)) :=
  lv_icmp_le hx hb hdg ht (fun h => kt ((nI_leI h1 h2).mp h)) (fun h => kf (Nat.lt_of_not_le fun q => h ((nI_leI h1 h2).mpr q)))
theorem ln_eq_m1 (hx : p.tables.exec = Jvm.exec) (hb : c.code = cc) {x : Nat} {off : Int} {tgt : Nat} (hdg : decode cc pc = .ok (.if_icmp .eq off, 3)) (ht : (pc : Int) + off = (tgt : Int)) (h1 : x < 2 ^ 31) (kf : W p l e R s m args below meth c H locs cells slots Q (F0 m (pc + 3) ls rest)) : W p l e R s m args below meth c H locs cells slots Q (F0 m pc ls (.int (-1) :: .int (nI x) :: rest)) :=
  lv_icmp_eq hx hb hdg ht (fun h => absurd h (nI_nm1 h1)) (fun _ => kf)
theorem ln_ne_m1 (hx : p.tables.exec = Jvm.exec) (hb : c.code = cc) {x : Nat} {off : Int} {tgt : Nat} (hdg : decode cc pc = .ok (.if_icmp .ne off, 3)) (ht : (pc : Int) + off = (tgt : Int)) (h1 : x < 2 ^ 31) (kt : W p l e R s m args below meth c H locs cells slots Q (F0 m tgt ls rest)) : W p l e R s m args below meth c H locs cells slots Q (F0 m pc ls (.int (-1) :: .int (nI x) :: rest)) :=
  lv_icmp_ne hx hb hdg ht (fun _ => kt) (fun h => absurd h (nI_nm1 h1))
theorem ln_if_eqB (hx : p.tables.exec = Jvm.exec) (hb : c.code = cc) {x : Bool} {off : Int} {tgt : Nat} (hdg : decode cc pc = .ok (.ifCond .eq off, 3)) (ht : (pc : Int) + off = (tgt : Int)) (kt : x = false → W p l e R s m args below meth c H locs cells slots Q (F0 m tgt ls rest)) (kf : x = true → W p l e R s m args below meth c H locs cells slots Q (F0 m (pc + 3) ls rest)) : W p l e R s m args below meth c H locs cells slots Q (F0 m pc ls (.int (bI x) :: rest)) :=
  lv_if_eq hx hb hdg ht (fun h => kt (by cases x <;> first | rfl | exact absurd h (by decide))) (fun h => kf (by cases x <;> first | rfl | exact absurd (by decide) h))
theorem ln_if_neB (hx : p.tables.exec = Jvm.exec) (hb : c.code = cc) {x : Bool} {off : Int} {tgt : Nat} (hdg : decode cc pc = .ok (.ifCond .ne off, 3)) (ht : (pc : Int) + off = (tgt : Int)) (kt : x = true → W p l e R s m args below meth c H locs cells slots Q (F0 m tgt ls rest)) (kf : x = false → W p l e R s m args below meth c H locs cells slots Q (F0 m (pc + 3) ls rest)) : W p l e R s m args below meth c H locs cells slots Q (F0 m pc ls (.int (bI x) :: rest)) :=
  lv_if_ne hx hb hdg ht (fun h => kt (by cases x <;> first | rfl | exact absurd (by decide) h)) (fun h => kf (by cases x <;> first | rfl | exact absurd h (by decide)))
theorem ln_iald {D : va_G} {cl : List vw_C} {tys : List (ClassId × FieldType)} {wl : va_W} {a : Nat} (hx : p.tables.exec = Jvm.exec) (hb : c.code = cc) (hK : va_K D cl tys s) (hP : va_P D cl wl H) (q0 t0 : Nat) {cA : ClassId} {n i : Nat} {f : Nat → Int32} {v : Int32} (ha : wl[q0]? = some (a, .inl (cA, n, .inl f))) (ht : tys[t0]? = some (cA, .int)) (hdg : decode cc pc = .ok (.iaload, 1)) (hn : n < 2 ^ 31) (hi : i < n) (hv : f i = v) (k : W p l e R s m args below meth c H locs cells slots Q (F0 m (pc + 1) ls (.int v :: rest))) : W p l e R s m args below meth c H locs cells slots Q (F0 m pc ls (.int (nI i) :: .ref a :: rest)) :=
  va_iald hx hb hK hP q0 t0 ha ht (vp_in_nI hi hn) hdg (by rw [nI_clamp (Nat.lt_trans hi hn), hv]; exact k)
theorem ln_ti {A : Nat → Prop} {t N i : Nat} {f : Nat → Value} {v : Value} (hx : p.tables.exec = Jvm.exec) (hb : c.code = cc) (hT : va_T .int t N f A s s.heap) (hS : va_S A s.heap H locs) (hdg : decode cc pc = .ok (.iaload, 1)) (hn : N < 2 ^ 31) (hi : i < N) (hv : f i = v) (k : W p l e R s m args below meth c H locs cells slots Q (F0 m (pc + 1) ls (v :: rest))) : W p l e R s m args below meth c H locs cells slots Q (F0 m pc ls (.int (nI i) :: .ref t :: rest)) :=
  va_ti hx hb hT hS (vp_in_nI hi hn) (by rw [nI_clamp (Nat.lt_trans hi hn)]; exact hv) hdg k
end LN
section LNN
variable {p : Program} {l : Launch} {e : Env} {R : Room} {s : State} {m : MethodId} {args : Array Value} {below : List Frame} {meth : Method} {c : Code} {H : Heap} {locs : List Loc} {cells slots : Nat} {Q : State → Prop} {cc : ByteArray} {pc : Nat} {ls : Array Slot} {rest : List Value}
theorem ln_isubN (hx : p.tables.exec = Jvm.exec) (hb : c.code = cc) {x y : Nat} (hdg : decode cc pc = .ok (.isub, 1)) (h : x ≤ y) (k : W p l e R s m args below meth c H locs cells slots Q (F0 m (pc + 1) ls (.int (-(nI (y - x))) :: rest))) : W p l e R s m args below meth c H locs cells slots Q (F0 m pc ls (.int (nI y) :: .int (nI x) :: rest)) :=
  lv_isub hx hb hdg (by rw [show nI x - nI y = -(nI (y - x)) by rw [← pk_sub h, Int32.neg_sub]]; exact k)
theorem ln_imulN (hx : p.tables.exec = Jvm.exec) (hb : c.code = cc) {x y : Nat} (hdg : decode cc pc = .ok (.imul, 1)) (k : W p l e R s m args below meth c H locs cells slots Q (F0 m (pc + 1) ls (.int (-(nI (x * y))) :: rest))) : W p l e R s m args below meth c H locs cells slots Q (F0 m pc ls (.int (-(nI y)) :: .int (nI x) :: rest)) :=
  lv_imul hx hb hdg (by rw [Int32.mul_neg, pk_mul]; exact k)
theorem ln_iaddN (hx : p.tables.exec = Jvm.exec) (hb : c.code = cc) {x y : Nat} (hdg : decode cc pc = .ok (.iadd, 1)) (h : y ≤ x) (k : W p l e R s m args below meth c H locs cells slots Q (F0 m (pc + 1) ls (.int (nI (x - y)) :: rest))) : W p l e R s m args below meth c H locs cells slots Q (F0 m pc ls (.int (-(nI y)) :: .int (nI x) :: rest)) :=
  lv_iadd hx hb hdg (by rw [← Int32.sub_eq_add_neg, pk_sub h]; exact k)
end LNN
section LLC
variable {p : Program} {l : Launch} {e : Env} {R : Room} {s : State} {m : MethodId} {args : Array Value} {below : List Frame} {meth : Method} {c : Code} {H : Heap} {locs : List Loc} {cells slots : Nat} {Q : State → Prop} {cc : ByteArray} {pc : Nat} {ls : Array Slot} {rest : List Value}
theorem ln_lif_lt (hx : p.tables.exec = Jvm.exec) (hb : c.code = cc) {x y : Int64} {off : Int} {tgt : Nat} (hdg : decode cc pc = .ok (.ifCond .lt off, 3)) (ht : (pc : Int) + off = (tgt : Int)) (kt : x < y → W p l e R s m args below meth c H locs cells slots Q (F0 m tgt ls rest)) (kf : ¬ x < y → W p l e R s m args below meth c H locs cells slots Q (F0 m (pc + 3) ls rest)) : W p l e R s m args below meth c H locs cells slots Q (F0 m pc ls (.int (lg_cmp x y) :: rest)) :=
  lv_if_lt hx hb hdg ht (fun h => kt ((lg_cmp_lt x y).mp h)) (fun h => kf (fun q => h ((lg_cmp_lt x y).mpr q)))
theorem ln_lif_ge (hx : p.tables.exec = Jvm.exec) (hb : c.code = cc) {x y : Int64} {off : Int} {tgt : Nat} (hdg : decode cc pc = .ok (.ifCond .ge off, 3)) (ht : (pc : Int) + off = (tgt : Int)) (kt : y ≤ x → W p l e R s m args below meth c H locs cells slots Q (F0 m tgt ls rest)) (kf : ¬ y ≤ x → W p l e R s m args below meth c H locs cells slots Q (F0 m (pc + 3) ls rest)) : W p l e R s m args below meth c H locs cells slots Q (F0 m pc ls (.int (lg_cmp x y) :: rest)) :=
  lv_if_ge hx hb hdg ht (fun h => kt ((lg_cmp_ge x y).mp h)) (fun h => kf (fun q => h ((lg_cmp_ge x y).mpr q)))
theorem ln_lif_gt (hx : p.tables.exec = Jvm.exec) (hb : c.code = cc) {x y : Int64} {off : Int} {tgt : Nat} (hdg : decode cc pc = .ok (.ifCond .gt off, 3)) (ht : (pc : Int) + off = (tgt : Int)) (kt : y < x → W p l e R s m args below meth c H locs cells slots Q (F0 m tgt ls rest)) (kf : ¬ y < x → W p l e R s m args below meth c H locs cells slots Q (F0 m (pc + 3) ls rest)) : W p l e R s m args below meth c H locs cells slots Q (F0 m pc ls (.int (lg_cmp x y) :: rest)) :=
  lv_if_gt hx hb hdg ht (fun h => kt ((lg_cmp_gt x y).mp h)) (fun h => kf (fun q => h ((lg_cmp_gt x y).mpr q)))
theorem ln_lif_eq (hx : p.tables.exec = Jvm.exec) (hb : c.code = cc) {x y : Int64} {off : Int} {tgt : Nat} (hdg : decode cc pc = .ok (.ifCond .eq off, 3)) (ht : (pc : Int) + off = (tgt : Int)) (kt : x = y → W p l e R s m args below meth c H locs cells slots Q (F0 m tgt ls rest)) (kf : ¬ x = y → W p l e R s m args below meth c H locs cells slots Q (F0 m (pc + 3) ls rest)) : W p l e R s m args below meth c H locs cells slots Q (F0 m pc ls (.int (lg_cmp x y) :: rest)) :=
  lv_if_eq hx hb hdg ht (fun h => kt ((lg_cmp_eq x y).mp h)) (fun h => kf (fun q => h ((lg_cmp_eq x y).mpr q)))
end LLC
theorem k_wide_le (a b : Int32) : a.toInt64 ≤ b.toInt64 ↔ a ≤ b := by
  rw [Int64.le_iff_toInt_le, Int32.le_iff_toInt_le, Int32.toInt_toInt64, Int32.toInt_toInt64]
def zI (z : Int) : Int32 := Int32.ofInt z
theorem zI_toInt {z : Int} (h1 : -2147483648 ≤ z) (h2 : z < 2147483648) : (zI z).toInt = z := by
  unfold zI
  have hb : z.bmod (2 ^ 32) = z := by rw [Int.bmod_eq_of_le (by omega) (by omega)]
  rw [Int32.toInt_ofInt]
  exact hb
theorem zI_nat (k : Nat) : nI k = zI (k : Int) := (Int32.ofInt_eq_ofNat).symm
theorem zI_sub (a b : Int) : zI a - zI b = zI (a - b) := (Int32.ofInt_sub _ _).symm
theorem zI_inj {a b : Int} (h1 : -2147483648 ≤ a) (h2 : a < 2147483648) (h3 : -2147483648 ≤ b) (h4 : b < 2147483648) (h : zI a = zI b) : a = b := by
  have h5 := congrArg Int32.toInt h
  rwa [zI_toInt h1 h2, zI_toInt h3 h4] at h5
section LZ
variable {p : Program} {l : Launch} {e : Env} {R : Room} {s : State} {m : MethodId} {args : Array Value} {below : List Frame} {meth : Method} {c : Code} {H : Heap} {locs : List Loc} {cells slots : Nat} {Q : State → Prop} {cc : ByteArray} {pc : Nat} {ls : Array Slot} {rest : List Value}
theorem ln_isubZ (hx : p.tables.exec = Jvm.exec) (hb : c.code = cc) {x y : Nat} (hdg : decode cc pc = .ok (.isub, 1)) (k : W p l e R s m args below meth c H locs cells slots Q (F0 m (pc + 1) ls (.int (zI ((x : Int) - (y : Int))) :: rest))) : W p l e R s m args below meth c H locs cells slots Q (F0 m pc ls (.int (nI y) :: .int (nI x) :: rest)) :=
  lv_isub hx hb hdg (by rw [zI_nat, zI_nat, zI_sub]; exact k)
theorem ln_isubZN (hx : p.tables.exec = Jvm.exec) (hb : c.code = cc) {x : Int} {y : Nat} (hdg : decode cc pc = .ok (.isub, 1)) (k : W p l e R s m args below meth c H locs cells slots Q (F0 m (pc + 1) ls (.int (zI (x - (y : Int))) :: rest))) : W p l e R s m args below meth c H locs cells slots Q (F0 m pc ls (.int (nI y) :: .int (zI x) :: rest)) :=
  lv_isub hx hb hdg (by rw [zI_nat, zI_sub]; exact k)
theorem ln_icmp_ltZ (hx : p.tables.exec = Jvm.exec) (hb : c.code = cc) {x y : Int} {X Y : Int32} {off : Int} {tgt : Nat} (hdg : decode cc pc = .ok (.if_icmp .lt off, 3)) (ht : (pc : Int) + off = (tgt : Int)) (hX : X = zI x) (hY : Y = zI y) (b1 : -2147483648 ≤ x) (b2 : x < 2147483648) (b3 : -2147483648 ≤ y) (b4 : y < 2147483648) (kt : x < y → W p l e R s m args below meth c H locs cells slots Q (F0 m tgt ls rest)) (kf : ¬ x < y → W p l e R s m args below meth c H locs cells slots Q (F0 m (pc + 3) ls rest)) : W p l e R s m args below meth c H locs cells slots Q (F0 m pc ls (.int Y :: .int X :: rest)) := by
  have key : X < Y ↔ x < y := by rw [Int32.lt_iff_toInt_lt, hX, hY, zI_toInt b1 b2, zI_toInt b3 b4]
  exact lv_icmp_lt hx hb hdg ht (fun h => kt (key.mp h)) (fun h => kf (fun q => h (key.mpr q)))
theorem ln_icmp_leZ (hx : p.tables.exec = Jvm.exec) (hb : c.code = cc) {x y : Int} {X Y : Int32} {off : Int} {tgt : Nat} (hdg : decode cc pc = .ok (.if_icmp .le off, 3)) (ht : (pc : Int) + off = (tgt : Int)) (hX : X = zI x) (hY : Y = zI y) (b1 : -2147483648 ≤ x) (b2 : x < 2147483648) (b3 : -2147483648 ≤ y) (b4 : y < 2147483648) (kt : x ≤ y → W p l e R s m args below meth c H locs cells slots Q (F0 m tgt ls rest)) (kf : ¬ x ≤ y → W p l e R s m args below meth c H locs cells slots Q (F0 m (pc + 3) ls rest)) : W p l e R s m args below meth c H locs cells slots Q (F0 m pc ls (.int Y :: .int X :: rest)) := by
  have key : X ≤ Y ↔ x ≤ y := by rw [Int32.le_iff_toInt_le, hX, hY, zI_toInt b1 b2, zI_toInt b3 b4]
  exact lv_icmp_le hx hb hdg ht (fun h => kt (key.mp h)) (fun h => kf (fun q => h (key.mpr q)))
theorem ln_icmp_gtZ (hx : p.tables.exec = Jvm.exec) (hb : c.code = cc) {x y : Int} {X Y : Int32} {off : Int} {tgt : Nat} (hdg : decode cc pc = .ok (.if_icmp .gt off, 3)) (ht : (pc : Int) + off = (tgt : Int)) (hX : X = zI x) (hY : Y = zI y) (b1 : -2147483648 ≤ x) (b2 : x < 2147483648) (b3 : -2147483648 ≤ y) (b4 : y < 2147483648) (kt : y < x → W p l e R s m args below meth c H locs cells slots Q (F0 m tgt ls rest)) (kf : ¬ y < x → W p l e R s m args below meth c H locs cells slots Q (F0 m (pc + 3) ls rest)) : W p l e R s m args below meth c H locs cells slots Q (F0 m pc ls (.int Y :: .int X :: rest)) := by
  have key : Y < X ↔ y < x := by rw [Int32.lt_iff_toInt_lt, hX, hY, zI_toInt b1 b2, zI_toInt b3 b4]
  exact lv_icmp_gt hx hb hdg ht (fun h => kt (key.mp h)) (fun h => kf (fun q => h (key.mpr q)))
theorem ln_icmp_geZ (hx : p.tables.exec = Jvm.exec) (hb : c.code = cc) {x y : Int} {X Y : Int32} {off : Int} {tgt : Nat} (hdg : decode cc pc = .ok (.if_icmp .ge off, 3)) (ht : (pc : Int) + off = (tgt : Int)) (hX : X = zI x) (hY : Y = zI y) (b1 : -2147483648 ≤ x) (b2 : x < 2147483648) (b3 : -2147483648 ≤ y) (b4 : y < 2147483648) (kt : y ≤ x → W p l e R s m args below meth c H locs cells slots Q (F0 m tgt ls rest)) (kf : ¬ y ≤ x → W p l e R s m args below meth c H locs cells slots Q (F0 m (pc + 3) ls rest)) : W p l e R s m args below meth c H locs cells slots Q (F0 m pc ls (.int Y :: .int X :: rest)) := by
  have key : Y ≤ X ↔ y ≤ x := by rw [Int32.le_iff_toInt_le, hX, hY, zI_toInt b1 b2, zI_toInt b3 b4]
  exact lv_icmp_ge hx hb hdg ht (fun h => kt (key.mp h)) (fun h => kf (fun q => h (key.mpr q)))
theorem ln_icmp_eqB0 (hx : p.tables.exec = Jvm.exec) (hb : c.code = cc) {x : Bool} {off : Int} {tgt : Nat} (hdg : decode cc pc = .ok (.if_icmp .eq off, 3)) (ht : (pc : Int) + off = (tgt : Int)) (kt : x = false → W p l e R s m args below meth c H locs cells slots Q (F0 m tgt ls rest)) (kf : x = true → W p l e R s m args below meth c H locs cells slots Q (F0 m (pc + 3) ls rest)) : W p l e R s m args below meth c H locs cells slots Q (F0 m pc ls (.int (nI 0) :: .int (bI x) :: rest)) :=
  lv_icmp_eq hx hb hdg ht (fun h => kt (by cases x <;> first | rfl | exact False.elim (by revert h; decide))) (fun h => kf (by cases x <;> first | rfl | exact False.elim (by revert h; decide)))
theorem ln_icmp_eqB1 (hx : p.tables.exec = Jvm.exec) (hb : c.code = cc) {x : Bool} {off : Int} {tgt : Nat} (hdg : decode cc pc = .ok (.if_icmp .eq off, 3)) (ht : (pc : Int) + off = (tgt : Int)) (kt : x = true → W p l e R s m args below meth c H locs cells slots Q (F0 m tgt ls rest)) (kf : x = false → W p l e R s m args below meth c H locs cells slots Q (F0 m (pc + 3) ls rest)) : W p l e R s m args below meth c H locs cells slots Q (F0 m pc ls (.int (nI 1) :: .int (bI x) :: rest)) :=
  lv_icmp_eq hx hb hdg ht (fun h => kt (by cases x <;> first | rfl | exact False.elim (by revert h; decide))) (fun h => kf (by cases x <;> first | rfl | exact False.elim (by revert h; decide)))
theorem ln_icmp_neB0 (hx : p.tables.exec = Jvm.exec) (hb : c.code = cc) {x : Bool} {off : Int} {tgt : Nat} (hdg : decode cc pc = .ok (.if_icmp .ne off, 3)) (ht : (pc : Int) + off = (tgt : Int)) (kt : x = true → W p l e R s m args below meth c H locs cells slots Q (F0 m tgt ls rest)) (kf : x = false → W p l e R s m args below meth c H locs cells slots Q (F0 m (pc + 3) ls rest)) : W p l e R s m args below meth c H locs cells slots Q (F0 m pc ls (.int (nI 0) :: .int (bI x) :: rest)) :=
  lv_icmp_ne hx hb hdg ht (fun h => kt (by cases x <;> first | rfl | exact False.elim (by revert h; decide))) (fun h => kf (by cases x <;> first | rfl | exact False.elim (by revert h; decide)))
theorem ln_icmp_neB1 (hx : p.tables.exec = Jvm.exec) (hb : c.code = cc) {x : Bool} {off : Int} {tgt : Nat} (hdg : decode cc pc = .ok (.if_icmp .ne off, 3)) (ht : (pc : Int) + off = (tgt : Int)) (kt : x = false → W p l e R s m args below meth c H locs cells slots Q (F0 m tgt ls rest)) (kf : x = true → W p l e R s m args below meth c H locs cells slots Q (F0 m (pc + 3) ls rest)) : W p l e R s m args below meth c H locs cells slots Q (F0 m pc ls (.int (nI 1) :: .int (bI x) :: rest)) :=
  lv_icmp_ne hx hb hdg ht (fun h => kt (by cases x <;> first | rfl | exact False.elim (by revert h; decide))) (fun h => kf (by cases x <;> first | rfl | exact False.elim (by revert h; decide)))
end LZ
