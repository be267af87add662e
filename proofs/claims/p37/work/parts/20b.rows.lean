/-- as IP, with room for new cells -/
def IPn (l : Launch) (y : MethodName) (ws : List Cond) (fr lo mc ms : Nat) (D : va_G) (tc : Nat → ClassId) (zb : Nat) (w w1 : va_W) (av : List Value) (v : Option Value) : Prop := Met l y ws ({ frames := fr, cells := mc, slots := ms, locals := lo } : Room) (va_Pc av (ipB D tc zb w)) (ipQ D (inw w) w1 v) mc ms (inw w)
section LAWC
variable {p : Program} {l : Launch} {e : Env} {R : Room} {s : State} {m : MethodId} {args : Array Value} {below : List Frame} {meth : Method} {c : Code} {H : Heap} {locs : List Loc} {cells slots : Nat} {Q : State → Prop} {pc : Nat} {ls : Array Slot} {rest st0 : List Value}
variable {y : MethodName} {bytes cc : ByteArray} {maxL nL n idx fr lo mc ms : Nat} {ret : Option FieldType} {wsy ws' : List Cond} {Ts : List Cond} {own C E : String} {b : Nat} {As : List Value} {v : Option Value} {D : va_G} {tc : Nat → ClassId} {zb : Nat} {A : Nat → Prop} {wl wc w1 : va_W}
theorem ipF_go {g : JFrame} {a : Array Value} (hg9 : g = F0 m pc ls st0) (hr : va_Run p l e R s m args below meth c H locs cells slots mc ms g rest (ipQ D (inw wl) w1 v a) (inw wl)) (hS : va_S A s.heap H locs) (hP : va_P D vwCl wl H) (hD : va_D A wl) (had : w1.map Prod.fst = wl.map Prod.fst)
    (kk : ∀ (H1 : Heap) (locs1 : List Loc), va_P D vwCl w1 H1 → va_D A w1 → va_S A s.heap H1 locs1 → W p l e R s m args below meth c H1 locs1 (cells + mc) (slots + ms) Q (F0 m (pc + 3) ls (v.toList ++ rest))) : W p l e R s m args below meth c H locs cells slots Q g := by
  subst hg9
  intro T hT X
  obtain ⟨v', st₀, t, T', L, h0, X', hL, e1, e2, ⟨hv, hp1, hz, hk⟩, st⟩ := hr T hT X
  cases hv
  rw [h0] at hz hk
  have hsub : ∀ q, inw wl q → A q := fun q ⟨k, e, h⟩ => hD.2 k (q, e) h
  have hS1 : va_S A s.heap T'.heap (locs ++ L) := ⟨Nat.le_trans hS.1 (by rw [e1]; exact hz), fun q h1 h2 => by rw [e1, hk q (Nat.lt_of_lt_of_le h1 hS.1) (fun z => h2 (hsub q z))]; exact hS.2.1 q h1 h2, fun q hq => (List.mem_append.mp hq).elim (hS.2.2 q) (fun h => hsub _ (hL q h))⟩
  obtain ⟨t2, a1, b1⟩ := kk T'.heap (locs ++ L) (by rw [e1]; exact hp1) (va_D_addr hD had) hS1 T' rfl X'
  exact ⟨t2, st t2 a1, b1⟩
theorem ipF_V (S : CallFix p m c cc nL s args Ts own) (hM : amb D tc zb A s s.heap) (hS : va_S A s.heap H locs) (hP : va_P D vwCl wl H) (hD : va_D A wl) (hc : IPn l y wsy fr lo mc ms D tc zb wl w1 (.ref b :: As) v) (hg : GoodIn Ts (wsV own idx C y wsy)) (hw : wsy = Cond.code y bytes maxL ret :: ws')
    (hd : y.cls = C ∧ y.cls ≠ "java/lang/invoke/MethodHandle" ∧ y.cls ≠ "java/lang/invoke/VarHandle" ∧ (parseMethodDescriptor y.desc).map (fun d => d.parameters.length) = some n) (hR : fr + 1 ≤ R.frames ∧ 8 + (maxL + 11) + lo ≤ R.locals) (had : w1.map Prod.fst = wl.map Prod.fst)
    (hrecv : ∃ cell : Cell, H[b]? = some cell ∧ cell.vm.isStatics = false ∧ s.vm.findClass C = some cell.cls) (hn : As.length = n) (hls : ls.size = nL) (hst : st0 = As.reverse ++ .ref b :: rest) (hW : (rest.map fun v => v.category).sum ≤ 8) (hdg : decode cc pc = .ok (.invokevirtual idx, 3)) (hf : cells + mc ≤ R.cells ∧ slots + ms ≤ R.slots)
    (kk : ∀ (H1 : Heap) (locs1 : List Loc), va_P D vwCl w1 H1 → va_D A w1 → va_S A s.heap H1 locs1 → W p l e R s m args below meth c H1 locs1 (cells + mc) (slots + ms) Q (F0 m (pc + 3) ls (v.toList ++ rest))) : W p l e R s m args below meth c H locs cells slots Q (F0 m pc ls st0) := by
  have hsub : ∀ q, inw wl q → A q := fun q ⟨k, e, h⟩ => hD.2 k (q, e) h
  have hr := va_runV (e := e) (H := H) (locs := locs) (cells := cells) (slots := slots) (below := below) (meth := meth) (g := F0 m pc ls st0) (rest := rest) S hc (cwV n S.2.2.2.2 hg hw rfl rfl hd hR) ⟨ipB_blind, hrecv, fun U hU hW => ⟨rfl, by rw [hU]; exact amb.narrow (amb.moved hW (hM.go hS)) hsub, by rw [hU]; exact hP, inw_self hD⟩⟩ rfl hn hls hst (lv_room hW) hdg hf
  exact ipF_go rfl hr hS hP hD had kk
theorem ipF_S (S : CallFix p m c cc nL s args Ts own) (hM : amb D tc zb A s s.heap) (hS : va_S A s.heap H locs) (hP : va_P D vwCl wl H) (hD : va_D A wl) (hc : IPn l y wsy fr lo mc ms D tc zb wl w1 As v) (hg : GoodIn Ts (va_wsS own idx y wsy)) (hw : wsy = Cond.code y bytes maxL ret :: ws')
    (hd : y.cls ≠ "java/lang/invoke/MethodHandle" ∧ y.cls ≠ "java/lang/invoke/VarHandle" ∧ (parseMethodDescriptor y.desc).map (fun d => d.parameters.length) = some n) (hR : fr + 1 ≤ R.frames ∧ 8 + (maxL + 11) + lo ≤ R.locals) (had : w1.map Prod.fst = wl.map Prod.fst)
    (hn : As.length = n) (hls : ls.size = nL) (hst : st0 = As.reverse ++ rest) (hW : (rest.map fun v => v.category).sum ≤ 8) (hdg : decode cc pc = .ok (.invokestatic idx, 3)) (hf : cells + mc ≤ R.cells ∧ slots + ms ≤ R.slots)
    (kk : ∀ (H1 : Heap) (locs1 : List Loc), va_P D vwCl w1 H1 → va_D A w1 → va_S A s.heap H1 locs1 → W p l e R s m args below meth c H1 locs1 (cells + mc) (slots + ms) Q (F0 m (pc + 3) ls (v.toList ++ rest))) : W p l e R s m args below meth c H locs cells slots Q (F0 m pc ls st0) := by
  have hsub : ∀ q, inw wl q → A q := fun q ⟨k, e, h⟩ => hD.2 k (q, e) h
  have hr := va_runS (e := e) (H := H) (locs := locs) (cells := cells) (slots := slots) (below := below) (meth := meth) (g := F0 m pc ls st0) (rest := rest) S hc (va_cwS n S.2.2.2.2 hg hw rfl rfl hd hR) ⟨ipB_blind, fun U hU hW => ⟨rfl, by rw [hU]; exact amb.narrow (amb.moved hW (hM.go hS)) hsub, by rw [hU]; exact hP, inw_self hD⟩⟩ rfl hn hls hst (lv_room hW) hdg hf
  exact ipF_go rfl hr hS hP hD had kk
theorem ln_if_ltZ (hx : p.tables.exec = Jvm.exec) (hb : c.code = cc) {x : Int} {off : Int} {tgt : Nat} (hdg : decode cc pc = .ok (.ifCond .lt off, 3)) (ht : (pc : Int) + off = (tgt : Int)) (b1 : -2147483648 ≤ x) (b2 : x < 2147483648) (kt : x < 0 → W p l e R s m args below meth c H locs cells slots Q (F0 m tgt ls rest)) (kf : 0 ≤ x → W p l e R s m args below meth c H locs cells slots Q (F0 m (pc + 3) ls rest)) : W p l e R s m args below meth c H locs cells slots Q (F0 m pc ls (.int (zI x) :: rest)) := by
  have z0 : (0 : Int32).toInt = 0 := by decide
  have key : zI x < 0 ↔ x < 0 := by rw [Int32.lt_iff_toInt_lt, zI_toInt b1 b2, z0]
  exact lv_if_lt hx hb hdg ht (fun h => kt (key.mp h)) (fun h => kf (by (have h1 : ¬ (x < 0) := fun q => h (key.mpr q)); omega))
theorem ln_if_geZ (hx : p.tables.exec = Jvm.exec) (hb : c.code = cc) {x : Int} {off : Int} {tgt : Nat} (hdg : decode cc pc = .ok (.ifCond .ge off, 3)) (ht : (pc : Int) + off = (tgt : Int)) (b1 : -2147483648 ≤ x) (b2 : x < 2147483648) (kt : 0 ≤ x → W p l e R s m args below meth c H locs cells slots Q (F0 m tgt ls rest)) (kf : x < 0 → W p l e R s m args below meth c H locs cells slots Q (F0 m (pc + 3) ls rest)) : W p l e R s m args below meth c H locs cells slots Q (F0 m pc ls (.int (zI x) :: rest)) := by
  have z0 : (0 : Int32).toInt = 0 := by decide
  have key : 0 ≤ zI x ↔ 0 ≤ x := by rw [Int32.le_iff_toInt_le, zI_toInt b1 b2, z0]
  exact lv_if_ge hx hb hdg ht (fun h => kt (key.mp h)) (fun h => kf (by (have h1 : ¬ (0 ≤ x) := fun q => h (key.mpr q)); omega))
theorem ln_if_gtZ (hx : p.tables.exec = Jvm.exec) (hb : c.code = cc) {x : Int} {off : Int} {tgt : Nat} (hdg : decode cc pc = .ok (.ifCond .gt off, 3)) (ht : (pc : Int) + off = (tgt : Int)) (b1 : -2147483648 ≤ x) (b2 : x < 2147483648) (kt : 0 < x → W p l e R s m args below meth c H locs cells slots Q (F0 m tgt ls rest)) (kf : x ≤ 0 → W p l e R s m args below meth c H locs cells slots Q (F0 m (pc + 3) ls rest)) : W p l e R s m args below meth c H locs cells slots Q (F0 m pc ls (.int (zI x) :: rest)) := by
  have z0 : (0 : Int32).toInt = 0 := by decide
  have key : 0 < zI x ↔ 0 < x := by rw [Int32.lt_iff_toInt_lt, zI_toInt b1 b2, z0]
  exact lv_if_gt hx hb hdg ht (fun h => kt (key.mp h)) (fun h => kf (by (have h1 : ¬ (0 < x) := fun q => h (key.mpr q)); omega))
theorem ln_if_leZ (hx : p.tables.exec = Jvm.exec) (hb : c.code = cc) {x : Int} {off : Int} {tgt : Nat} (hdg : decode cc pc = .ok (.ifCond .le off, 3)) (ht : (pc : Int) + off = (tgt : Int)) (b1 : -2147483648 ≤ x) (b2 : x < 2147483648) (kt : x ≤ 0 → W p l e R s m args below meth c H locs cells slots Q (F0 m tgt ls rest)) (kf : 0 < x → W p l e R s m args below meth c H locs cells slots Q (F0 m (pc + 3) ls rest)) : W p l e R s m args below meth c H locs cells slots Q (F0 m pc ls (.int (zI x) :: rest)) := by
  have z0 : (0 : Int32).toInt = 0 := by decide
  have key : zI x ≤ 0 ↔ x ≤ 0 := by rw [Int32.le_iff_toInt_le, zI_toInt b1 b2, z0]
  exact lv_if_le hx hb hdg ht (fun h => kt (key.mp h)) (fun h => kf (by (have h1 : ¬ (x ≤ 0) := fun q => h (key.mpr q)); omega))
end LAWC
/-- over the script alone -/
def RX (l : Launch) (y : MethodName) (ws : List Cond) (fr lo b L : Nat) (xs : Nat → Int32) (av : List Value) (v : Value) : Prop := Met l y ws ({ frames := fr, cells := 0, slots := 0, locals := lo } : Room) (va_Pc av (fun U => va_X b L xs U U.heap)) (roQ v) 0 0 (fun _ => False)
theorem rx_blind {b L : Nat} {xs : Nat → Int32} {av : List Value} : FrameBlind (va_Pc av (fun U => va_X b L xs U U.heap)) := fun a U g mk q => ⟨q.1, va_X.moved (u := U) (U := U.calling g mk a) (Vm.Alike.refl _) q.2⟩
theorem RX.of {l : Launch} {y : MethodName} {ws ws' : List Cond} {fr lo b L : Nat} {xs : Nat → Int32} {av : List Value} {v : Value} {cc : ByteArray} {maxL : Nat} {ret : Option FieldType}
    (hy : plainName y.cls = true) (hw : ws = Cond.code y cc maxL ret :: ws') (hlen : (lg_sl av).length ≤ maxL)
    (body : ∀ (p : Program) (e : Env) (s : State) (m : MethodId) (args : Array Value) (below : List Frame) (meth : Method) (c : Code), p.tables.exec = Jvm.exec → c.code = cc → meth.sig.returnType = ret → c.maxLocals = maxL → meth.locks = false → va_X b L xs s s.heap → ∀ ls : Array Slot, lv_has ls maxL (lv_args 0 av) →
      W p l e ({ frames := fr, cells := 0, slots := 0, locals := lo } : Room) s m args below meth c s.heap [] 0 0 (MQ below (roQ v) args s 0 0 (fun _ => False)) (F0 m 0 ls [])) : RX l y ws fr lo b L xs av v := by
  refine Met.ofW (cc := cc) (maxL := maxL) (ret := ret) hy hw ?_
  intro p e s m args below meth c s₁ B hml hv
  obtain ⟨rfl, hX⟩ := hv
  have hl := lv_entry av (n := maxL) hlen
  have h9 := body p e s m av.toArray below meth c B.exec B.bytes B.returns hml B.notSynchronized hX _ hl
  rw [lg_entry_eq]
  exact h9
section RXS
variable {p : Program} {l : Launch} {e : Env} {R : Room} {s : State} {m : MethodId} {args : Array Value} {below : List Frame} {meth : Method} {c : Code} {H : Heap} {locs : List Loc} {cells slots : Nat} {Q : State → Prop} {pc : Nat} {ls : Array Slot} {rest st0 : List Value}
variable {y : MethodName} {bytes cc : ByteArray} {maxL nL n idx fr lo : Nat} {ret : Option FieldType} {wsy ws' : List Cond} {Ts : List Cond} {own C : String} {b L : Nat} {xs : Nat → Int32} {As : List Value} {v : Value} {A : Nat → Prop}
theorem rx_S (S : CallFix p m c cc nL s args Ts own) (hX : va_X b L xs s s.heap) (hbl : b < s.heap.size) (hbA : ¬ A b) (hS : va_S A s.heap H locs) (hc : RX l y wsy fr lo b L xs As v) (hg : GoodIn Ts (va_wsS own idx y wsy)) (hw : wsy = Cond.code y bytes maxL ret :: ws')
    (hd : y.cls ≠ "java/lang/invoke/MethodHandle" ∧ y.cls ≠ "java/lang/invoke/VarHandle" ∧ (parseMethodDescriptor y.desc).map (fun d => d.parameters.length) = some n) (hR : fr + 1 ≤ R.frames ∧ 8 + (maxL + 11) + lo ≤ R.locals)
    (hn : As.length = n) (hls : ls.size = nL) (hst : st0 = As.reverse ++ rest) (hW : (rest.map fun v => v.category).sum ≤ 8) (hdg : decode cc pc = .ok (.invokestatic idx, 3)) (hf : cells ≤ R.cells ∧ slots ≤ R.slots)
    (kk : W p l e R s m args below meth c H locs cells slots Q (F0 m (pc + 3) ls (v :: rest))) : W p l e R s m args below meth c H locs cells slots Q (F0 m pc ls st0) := by
  have hr := va_runS (e := e) (H := H) (locs := locs) (cells := cells) (slots := slots) (below := below) (meth := meth) (g := F0 m pc ls st0) (rest := rest) S hc (va_cwS n S.2.2.2.2 hg hw rfl rfl hd hR) ⟨rx_blind, fun U hU hW => ⟨rfl, by show va_X b L xs U U.heap; rw [hU]; exact va_X.moved hW.alike (va_X.kept hX (hS.2.1 b hbl hbA))⟩⟩ rfl hn hls hst (lv_room hW) hdg hf
  intro T hT X
  obtain ⟨v', st₀, t, T', L, h0, X', hL, e1, e2, ⟨hv, hh⟩, st⟩ := hr T hT X
  cases L with
  | cons q L => exact (hL q List.mem_cons_self).elim
  | nil =>
    cases hv
    rw [List.append_nil] at X'
    obtain ⟨t2, a1, b1⟩ := kk T' (by rw [e1, hh, h0]) X'
    exact ⟨t2, st t2 a1, b1⟩
theorem lx_sld (hx : p.tables.exec = Jvm.exec) (hb : c.code = cc) {sb : Nat} (hX : va_X sb L xs s s.heap) (hbl : sb < s.heap.size) (hbA : ¬ A sb) (hS : va_S A s.heap H locs) {i : Nat} (hi : i < L) (hL : L < 2 ^ 31) (hdg : decode cc pc = .ok (.iaload, 1))
    (kk : W p l e R s m args below meth c H locs cells slots Q (F0 m (pc + 1) ls (.int (xs i) :: rest))) : W p l e R s m args below meth c H locs cells slots Q (F0 m pc ls (.int (nI i) :: .ref sb :: rest)) :=
  va_sld hx hb hX hbl hbA hS (vp_in_nI hi hL) hdg (by rw [nI_clamp (Nat.lt_trans hi hL)]; exact kk)
end RXS
def k_cell (xs : Nat → Int32) (L k : Nat) : Int32 := if k < L then xs k else nI 7919 * (nI k + nI 3) * (nI k + nI 11)
set_option maxHeartbeats 4000000 in
set_option maxRecDepth 100000 in
theorem l_cell (l : Launch) (b L : Nat) (xs : Nat → Int32) (k : Nat) (hL : L < 2 ^ 31) (hk : k < 2 ^ 31) : RX l yL_cell wsL_cell 0 0 b L xs [.ref b, .int (nI k)] (.int (k_cell xs L k)) := by
  refine RX.of (cc := cL_cell) (maxL := 2) (ret := some .int) (by decide) rfl (Nat.le_of_ble_eq_true rfl) ?_
  intro p e s m args below meth c hx hb hr hml hlk hX ls hl
  have hl : lv_has ls 2 [(0, .ref b), (1, .int (nI k))] := hl
  have hbl : b < s.heap.size := by
    obtain ⟨scr, h1, h2⟩ := hX
    exact (Array.getElem?_eq_some_iff.mp h1).1
  have hS : va_S (fun _ => False) s.heap s.heap [] := va_S.rf
  refine lv_iload_n hx hb dL_cell_0 rfl (lv_at hl 1 rfl) ?_
  refine lv_aload_n hx hb dL_cell_1 rfl (lv_at hl 0 rfl) ?_
  refine va_slen hx hb hX hbl (fun h => h) hS dL_cell_2 ?_
  refine W.eq (g2 := F0 m 3 ls [.int (nI L), .int (nI k)]) rfl ?_
  refine ln_icmp_ge (tgt := 12) hx hb dL_cell_3 (by decide) hk hL (fun h1 => ?_) (fun h1 => ?_)
  · refine lv_sipush (v := nI 7919) hx hb dL_cell_12 (by decide) ?_
    refine lv_iload_n hx hb dL_cell_15 rfl (lv_at hl 1 rfl) ?_
    refine lv_iconst (v := nI 3) hx hb dL_cell_16 (by decide) ?_
    refine lv_iadd hx hb dL_cell_17 ?_
    refine lv_imul hx hb dL_cell_18 ?_
    refine lv_iload_n hx hb dL_cell_19 rfl (lv_at hl 1 rfl) ?_
    refine lv_bipush (v := nI 11) hx hb dL_cell_20 (by decide) ?_
    refine lv_iadd hx hb dL_cell_22 ?_
    refine lv_imul hx hb dL_cell_23 ?_
    exact ro_iret hx hb hr hlk dL_cell_24 (if_neg (Nat.not_lt.mpr h1)).symm
  · refine lv_aload_n hx hb dL_cell_6 rfl (lv_at hl 0 rfl) ?_
    refine lv_iload_n hx hb dL_cell_7 rfl (lv_at hl 1 rfl) ?_
    refine lx_sld hx hb hX hbl (fun h => h) hS h1 hL dL_cell_8 ?_
    refine lv_goto (tgt := 24) hx hb dL_cell_9 (by decide) ?_
    exact ro_iret hx hb hr hlk dL_cell_24 (if_pos h1).symm
