/-- what the law's own walk stands on -/
def lw_C (p : Program) (s : State) (m : MethodId) (meth : Method) (c : Code) (l : Launch) (D : va_G) (tc : Nat → ClassId) (zb sb L : Nat) (xs : Nat → Int32) : Prop :=
  p.tables.exec = Jvm.exec ∧ c.code = cL_law ∧ c.maxLocals = 7 ∧ s.vm.findClass RL = some m.cls ∧ (∀ w ∈ wsL_law, w.before #[Value.ref sb] s = true) ∧ amb D tc zb (fun q => s.heap.size ≤ q) s s.heap ∧ va_X sb L xs s s.heap ∧ sb < s.heap.size ∧ l.stackTraces = false ∧ meth.sig.returnType = ret ∧ meth.locks = false ∧ L ≤ 3072
/-- what follows an arm of the law -/
def lw_K (p : Program) (l : Launch) (e : Env) (s : State) (m : MethodId) (below : List Frame) (meth : Method) (c : Code) (D : va_G) (tc : Nat → ClassId) (x0 : Nat) (as : Nat → Nat) (b : Nat) (bs : Nat → Nat) (bo sb i cells slots : Nat) : Prop :=
  ∀ (tr : Nat → Int32) (qs : Nat → Int32) (g : Nat → Nat) (trc : Nat → Int32) (qsc : Nat → Int32) (gc : Nat → Nat) (od : Nat) (n : Nat) (tri : Nat → Nat → Int32) (qsi : Nat → Nat → Int32) (gi : Nat → Nat → Nat) (fc : Nat → Int32) (hc : Nat → Int32) (v1 : Int32) (v2 : Int32) (v3 : Int32) (v4 : Int32) (trs : Nat → Nat → Int32) (qss : Nat → Nat → Int32) (gs : Nat → Nat → Nat) (iz : Nat → Bool) (u : Nat → Nat) (ln : Nat) (th : Int32) (ga : Nat → Nat) (sv : Nat → Nat) (sl : Nat → Nat) (fo : Nat → Int64), INV tr qs g od n tri qsi gi trs qss gs iz u ln sv sl → ∀ (H : Heap) (locs : List Loc), va_P D vwCl (((CW tc x0 as tr qs g trc qsc gc od n tri qsi gi fc hc v1 v2 v3 v4 trs qss gs iz u ln) ++ [w_o tc bo fo]) ++ (w_md tc b (bs 0) (bs 1) (bs 2) (bs 3) (bs 4) (bs 5) th g ga sv n sl iz u ln)) H → va_D (fun q => s.heap.size ≤ q) (((CW tc x0 as tr qs g trc qsc gc od n tri qsi gi fc hc v1 v2 v3 v4 trs qss gs iz u ln) ++ [w_o tc bo fo]) ++ (w_md tc b (bs 0) (bs 1) (bs 2) (bs 3) (bs 4) (bs 5) th g ga sv n sl iz u ln)) → va_S (fun q => s.heap.size ≤ q) s.heap H locs → ∀ ls : Array Slot, lv_has ls 7 [(4, .int (nI i)), (3, .ref bo), (2, .ref b), (1, .ref x0), (0, .ref sb)] → W p l e room_1 s m #[Value.ref sb] below meth c H locs cells slots (lw_Z below #[Value.ref sb] s) (F0 m 1980 ls [])
section LXS
variable {p : Program} {l : Launch} {e : Env} {R : Room} {s : State} {m : MethodId} {args : Array Value} {below : List Frame} {meth : Method} {c : Code} {H : Heap} {locs : List Loc} {cells slots : Nat} {Q : State → Prop} {cc : ByteArray} {pc : Nat} {ls : Array Slot} {rest : List Value} {A : Nat → Prop}
theorem lx_sld (hx : p.tables.exec = Jvm.exec) (hb : c.code = cc) {sb L : Nat} {xs : Nat → Int32} (hX : va_X sb L xs s s.heap) (hbl : sb < s.heap.size) (hbA : ¬ A sb) (hS : va_S A s.heap H locs) {i : Nat} (hi : i < L) (hL : L < 2 ^ 31) (hdg : decode cc pc = .ok (.iaload, 1))
    (kk : W p l e R s m args below meth c H locs cells slots Q (F0 m (pc + 1) ls (.int (xs i) :: rest))) : W p l e R s m args below meth c H locs cells slots Q (F0 m pc ls (.int (nI i) :: .ref sb :: rest)) :=
  va_sld hx hb hX hbl hbA hS (vp_in_nI hi hL) hdg (by rw [nI_clamp (Nat.lt_trans hi hL)]; exact kk)
end LXS
theorem k_and63 (x : Int32) : ∃ z : Nat, z < 64 ∧ x &&& nI 63 = nI z := by
  have e : nI 63 = (63 : Int32) := by decide
  rw [e]
  refine ⟨(x &&& 63).toUInt32.toNat, ?_, ?_⟩
  · show ((x.toUInt32 &&& (63 : Int32).toUInt32)).toNat < 64
    rw [UInt32.toNat_and]
    exact Nat.lt_of_le_of_lt Nat.and_le_right (by decide)
  · show _ = Int32.ofNat _
    apply Int32.toBitVec_inj.mp
    show _ = BitVec.ofNat 32 _
    apply BitVec.eq_of_toNat_eq
    simp
set_option maxHeartbeats 4000000 in
set_option maxRecDepth 100000 in
theorem a_append {p : Program} {e : Env} {s : State} {m : MethodId} {below : List Frame} {meth : Method} {c : Code} (l : Launch) (D : va_G) (tc : Nat → ClassId) (zb x0 : Nat) (as : Nat → Nat) (b : Nat) (bs : Nat → Nat) (bo sb L : Nat) (xs : Nat → Int32) (i cells slots : Nat) (C0 : lw_C p s m meth c l D tc zb sb L xs) (kk : lw_K p l e s m below meth c D tc x0 as b bs bo sb i (cells + 1) (slots + 6)) (hi : i + 6 ≤ L) (hce : cells + 1 ≤ 601024) (hsl : slots + 6 ≤ 7293033) (tr : Nat → Int32) (qs : Nat → Int32) (g : Nat → Nat) (trc : Nat → Int32) (qsc : Nat → Int32) (gc : Nat → Nat) (od : Nat) (n : Nat) (tri : Nat → Nat → Int32) (qsi : Nat → Nat → Int32) (gi : Nat → Nat → Nat) (fc : Nat → Int32) (hc : Nat → Int32) (v1 : Int32) (v2 : Int32) (v3 : Int32) (v4 : Int32) (trs : Nat → Nat → Int32) (qss : Nat → Nat → Int32) (gs : Nat → Nat → Nat) (iz : Nat → Bool) (u : Nat → Nat) (ln : Nat) (th : Int32) (ga : Nat → Nat) (sv : Nat → Nat) (sl : Nat → Nat) (fo : Nat → Int64) (hinv : INV tr qs g od n tri qsi gi trs qss gs iz u ln sv sl) (H : Heap) (locs : List Loc) (hP : va_P D vwCl (((CW tc x0 as tr qs g trc qsc gc od n tri qsi gi fc hc v1 v2 v3 v4 trs qss gs iz u ln) ++ [w_o tc bo fo]) ++ (w_md tc b (bs 0) (bs 1) (bs 2) (bs 3) (bs 4) (bs 5) th g ga sv n sl iz u ln)) H) (hD : va_D (fun q => s.heap.size ≤ q) (((CW tc x0 as tr qs g trc qsc gc od n tri qsi gi fc hc v1 v2 v3 v4 trs qss gs iz u ln) ++ [w_o tc bo fo]) ++ (w_md tc b (bs 0) (bs 1) (bs 2) (bs 3) (bs 4) (bs 5) th g ga sv n sl iz u ln))) (hS : va_S (fun q => s.heap.size ≤ q) s.heap H locs) (ls : Array Slot) (hl : lv_has ls 7 [(4, .int (nI i)), (3, .ref bo), (2, .ref b), (1, .ref x0), (0, .ref sb)]) : W p l e room_1 s m #[Value.ref sb] below meth c H locs cells slots (lw_Z below #[Value.ref sb] s) (F0 m 192 ls []) := by
  obtain ⟨hx, hb, hml, hown, hts, hM, hX, hbl, hfl, hrt, hlk, hL⟩ := id C0
  have hbA : ¬ (fun q : Nat => s.heap.size ≤ q) sb := Nat.not_le.mpr hbl
  have hL31 : L < 2 ^ 31 := Nat.lt_of_le_of_lt hL (by decide)
  obtain ⟨tr', qs', g', trc', qsc', gc', od', n', tri', qsi', gi', fc', hc', v1', v2', v3', v4', trs', qss', gs', iz', u', ln', th', ga', sv', sl', fo', k, bb, fr, lo, hk3, hfr, hlo, hcL, hcM, hth, hval, hinv'⟩ := s_append l hfl D tc zb x0 as b bs bo tr qs g trc qsc gc od n tri qsi gi fc hc v1 v2 v3 v4 trs qss gs iz u ln th ga sv sl fo hinv (xs (i + 1))
  refine lv_aload_n hx hb dL_law_192 rfl (lv_at hl 3 rfl) ?_
  refine lv_aload_n hx hb dL_law_193 rfl (lv_at hl 4 rfl) ?_
  refine lv_iload hx hb dL_law_194 (lv_at hl 0 rfl) ?_
  refine lv_iconst (v := nI 1) hx hb dL_law_196 (by decide) ?_
  refine ln_iadd hx hb dL_law_197 ?_
  refine lx_sld hx hb hX hbl hbA hS (by omega) hL31 dL_law_198 ?_
  refine lv_aload_n hx hb dL_law_199 rfl (lv_at hl 1 rfl) ?_
  refine ipF_SW (n := 3) ⟨hx, hb, hml, hown, hts⟩ hM hS hP hD (IPn.app hcL (w_md tc b (bs 0) (bs 1) (bs 2) (bs 3) (bs 4) (bs 5) th g ga sv n sl iz u ln)) gL_law_L_append rfl (by decide +kernel) ⟨Nat.le_of_ble_eq_true rfl, Nat.le_of_ble_eq_true rfl⟩ rfl rfl hl.1 rfl (Nat.le_of_ble_eq_true rfl) dL_law_200 ⟨by show _ ≤ 601024; omega, by show _ ≤ 7293033; omega⟩ (fun H locs hP hD hS => ?_)
  refine W.eq (g2 := F0 m 203 ls [.int (nI k)]) rfl ?_
  refine lv_istore (lv' := [(5, .int (nI k)), (4, .int (nI i)), (3, .ref bo), (2, .ref b), (1, .ref x0), (0, .ref sb)]) hx hb dL_law_203 hl (by decide) rfl (fun ls hl => ?_)
  refine lv_aload_n hx hb dL_law_205 rfl (lv_at hl 3 rfl) ?_
  refine lv_aload_n hx hb dL_law_206 rfl (lv_at hl 5 rfl) ?_
  refine lv_iload hx hb dL_law_207 (lv_at hl 1 rfl) ?_
  refine lv_iconst (v := nI 1) hx hb dL_law_209 (by decide) ?_
  refine ln_iadd hx hb dL_law_210 ?_
  refine lx_sld hx hb hX hbl hbA hS (by omega) hL31 dL_law_211 ?_
  refine ipF_V (C := RX7) (n := 1) ⟨hx, hb, hml, hown, hts⟩ hM hS hP hD (IPn.appl (mc := 0) (ms := 0) hcM ((CW tc x0 as tr' qs' g' trc' qsc' gc' od' n' tri' qsi' gi' fc' hc' v1' v2' v3' v4' trs' qss' gs' iz' u' ln') ++ [w_o tc bo fo'])) gL_law_X7_append rfl (by decide +kernel) ⟨Nat.le_trans (Nat.succ_le_succ hfr) (by decide), Nat.le_trans (Nat.add_le_add_left hlo _) (by decide)⟩ rfl (va_recv hM.1 (va_P_r hP) (ci := 6) (q0 := 0) rfl rfl) rfl hl.1 rfl (Nat.le_of_ble_eq_true rfl) dL_law_212 ⟨by show _ ≤ 601024; omega, by show _ ≤ 7293033; omega⟩ (fun H locs hP hD hS => ?_)
  refine W.eq (g2 := F0 m 215 ls [.int bb]) rfl ?_
  refine lv_istore (lv' := [(6, .int bb), (5, .int (nI k)), (4, .int (nI i)), (3, .ref bo), (2, .ref b), (1, .ref x0), (0, .ref sb)]) hx hb dL_law_215 hl (by decide) rfl (fun ls hl => ?_)
  refine lv_aload_n hx hb dL_law_217 rfl (lv_at hl 4 rfl) ?_
  refine ro_V (C := RX7) (n := 0) ⟨hx, hb, hml, hown, hts⟩ hM hS (va_P_r hP) (RO.up (c7_thrown l D tc zb b th' (fun k9 => match k9 with | 1 => .ref (bs 0) | 2 => .ref (bs 1) | 3 => .ref (bs 2) | 4 => .int (nI n') | 5 => .ref (bs 3) | 6 => .ref (bs 4) | 7 => .ref (bs 5) | 8 => .int (nI ln') | _ => .null)) [0] rfl) gL_law_X7_thrown rfl (by decide +kernel) ⟨Nat.le_of_ble_eq_true rfl, Nat.le_of_ble_eq_true rfl⟩ [0, 1, 2, 3, 4, 5, 6] rfl (va_recv hM.1 (va_P_r hP) (ci := 6) (q0 := 0) rfl rfl) rfl hl.1 rfl (Nat.le_of_ble_eq_true rfl) dL_law_218 ⟨by show _ ≤ 601024; omega, by show _ ≤ 7293033; omega⟩ ?_
  refine lv_iload hx hb dL_law_221 (lv_at hl 1 rfl) ?_
  refine lv_icmp_eq (tgt := 228) hx hb dL_law_223 (by decide) (fun _ => ?_) (fun h9 => absurd hth h9)
  refine lv_iload hx hb dL_law_228 (lv_at hl 1 rfl) ?_
  refine ln_if_ne (tgt := 245) hx hb dL_law_230 (by decide) (Nat.lt_trans hk3 (by decide)) (fun hk9 => ?_) (fun hk9 => ?_)
  · refine lv_goto (tgt := 1980) hx hb dL_law_245 (by decide) ?_
    exact kk tr' qs' g' trc' qsc' gc' od' n' tri' qsi' gi' fc' hc' v1' v2' v3' v4' trs' qss' gs' iz' u' ln' th' ga' sv' sl' fo' hinv' _ _ hP hD hS _ (lv_sub hl [2, 3, 4, 5, 6] rfl)
  · refine lv_aload_n hx hb dL_law_233 rfl (lv_at hl 3 rfl) ?_
    refine lv_iconst (v := nI 0) hx hb dL_law_234 (by decide) ?_
    refine lx_lald hx hb hM.1 hP dL_law_235 ?_
    refine lv_iload hx hb dL_law_236 (lv_at hl 0 rfl) ?_
    refine lv_i2l (v := (bb).toInt64) hx hb dL_law_238 rfl ?_
    refine W.lcmp hx hb dL_law_239 ?_
    refine ln_lif_eq (tgt := 245) hx hb dL_law_240 (by decide) (fun _ => ?_) (fun h9 => absurd (hval hk9) h9)
    refine lv_goto (tgt := 1980) hx hb dL_law_245 (by decide) ?_
    exact kk tr' qs' g' trc' qsc' gc' od' n' tri' qsi' gi' fc' hc' v1' v2' v3' v4' trs' qss' gs' iz' u' ln' th' ga' sv' sl' fo' hinv' _ _ hP hD hS _ (lv_sub hl [2, 3, 4, 5, 6] rfl)
set_option maxHeartbeats 4000000 in
set_option maxRecDepth 100000 in
theorem a_clearText {p : Program} {e : Env} {s : State} {m : MethodId} {below : List Frame} {meth : Method} {c : Code} (l : Launch) (D : va_G) (tc : Nat → ClassId) (zb x0 : Nat) (as : Nat → Nat) (b : Nat) (bs : Nat → Nat) (bo sb L : Nat) (xs : Nat → Int32) (i cells slots : Nat) (C0 : lw_C p s m meth c l D tc zb sb L xs) (kk : lw_K p l e s m below meth c D tc x0 as b bs bo sb i (cells + 1) (slots + 6)) (hi : i + 6 ≤ L) (hce : cells + 1 ≤ 601024) (hsl : slots + 6 ≤ 7293033) (tr : Nat → Int32) (qs : Nat → Int32) (g : Nat → Nat) (trc : Nat → Int32) (qsc : Nat → Int32) (gc : Nat → Nat) (od : Nat) (n : Nat) (tri : Nat → Nat → Int32) (qsi : Nat → Nat → Int32) (gi : Nat → Nat → Nat) (fc : Nat → Int32) (hc : Nat → Int32) (v1 : Int32) (v2 : Int32) (v3 : Int32) (v4 : Int32) (trs : Nat → Nat → Int32) (qss : Nat → Nat → Int32) (gs : Nat → Nat → Nat) (iz : Nat → Bool) (u : Nat → Nat) (ln : Nat) (th : Int32) (ga : Nat → Nat) (sv : Nat → Nat) (sl : Nat → Nat) (fo : Nat → Int64) (hinv : INV tr qs g od n tri qsi gi trs qss gs iz u ln sv sl) (H : Heap) (locs : List Loc) (hP : va_P D vwCl (((CW tc x0 as tr qs g trc qsc gc od n tri qsi gi fc hc v1 v2 v3 v4 trs qss gs iz u ln) ++ [w_o tc bo fo]) ++ (w_md tc b (bs 0) (bs 1) (bs 2) (bs 3) (bs 4) (bs 5) th g ga sv n sl iz u ln)) H) (hD : va_D (fun q => s.heap.size ≤ q) (((CW tc x0 as tr qs g trc qsc gc od n tri qsi gi fc hc v1 v2 v3 v4 trs qss gs iz u ln) ++ [w_o tc bo fo]) ++ (w_md tc b (bs 0) (bs 1) (bs 2) (bs 3) (bs 4) (bs 5) th g ga sv n sl iz u ln))) (hS : va_S (fun q => s.heap.size ≤ q) s.heap H locs) (ls : Array Slot) (hl : lv_has ls 7 [(4, .int (nI i)), (3, .ref bo), (2, .ref b), (1, .ref x0), (0, .ref sb)]) : W p l e room_1 s m #[Value.ref sb] below meth c H locs cells slots (lw_Z below #[Value.ref sb] s) (F0 m 248 ls []) := by
  obtain ⟨hx, hb, hml, hown, hts, hM, hX, hbl, hfl, hrt, hlk, hL⟩ := id C0
  have hbA : ¬ (fun q : Nat => s.heap.size ≤ q) sb := Nat.not_le.mpr hbl
  have hL31 : L < 2 ^ 31 := Nat.lt_of_le_of_lt hL (by decide)
  obtain ⟨tr', qs', g', trc', qsc', gc', od', n', tri', qsi', gi', fc', hc', v1', v2', v3', v4', trs', qss', gs', iz', u', ln', th', ga', sv', sl', fo', r9, fx, lx, fr, lo, hfx, hlx, hfr, hlo, hcL, hcM, hfo, hinv'⟩ := s_clearText l hfl D tc zb x0 as b bs bo tr qs g trc qsc gc od n tri qsi gi fc hc v1 v2 v3 v4 trs qss gs iz u ln th ga sv sl fo hinv 
  refine lv_aload_n hx hb dL_law_248 rfl (lv_at hl 3 rfl) ?_
  refine ipF_V (C := RX6) (n := 0) ⟨hx, hb, hml, hown, hts⟩ hM hS hP hD (IPn.app (mc := 0) (ms := 0) (IPn.app (mc := 0) (ms := 0) hcL [w_o tc bo fo]) (w_md tc b (bs 0) (bs 1) (bs 2) (bs 3) (bs 4) (bs 5) th g ga sv n sl iz u ln)) gL_law_X6_clearText rfl (by decide +kernel) ⟨Nat.le_trans (Nat.succ_le_succ hfx) (by decide), Nat.le_trans (Nat.add_le_add_left hlx _) (by decide)⟩ rfl (va_recv hM.1 hP (ci := 5) (q0 := 0) rfl rfl) rfl hl.1 rfl (Nat.le_of_ble_eq_true rfl) dL_law_249 ⟨by show _ ≤ 601024; omega, by show _ ≤ 7293033; omega⟩ (fun H locs hP hD hS => ?_)
  refine W.eq (g2 := F0 m 252 ls [.int r9]) rfl ?_
  refine lv_aload_n hx hb dL_law_252 rfl (lv_at hl 2 rfl) ?_
  refine ipF_V (C := RX7) (n := 0) ⟨hx, hb, hml, hown, hts⟩ hM hS hP hD (IPn.appl (mc := 0) (ms := 0) hcM ((CW tc x0 as tr' qs' g' trc' qsc' gc' od' n' tri' qsi' gi' fc' hc' v1' v2' v3' v4' trs' qss' gs' iz' u' ln') ++ [w_o tc bo fo])) gL_law_X7_clearText rfl (by decide +kernel) ⟨Nat.le_trans (Nat.succ_le_succ hfr) (by decide), Nat.le_trans (Nat.add_le_add_left hlo _) (by decide)⟩ rfl (va_recv hM.1 (va_P_r hP) (ci := 6) (q0 := 0) rfl rfl) rfl hl.1 rfl (Nat.le_of_ble_eq_true rfl) dL_law_253 ⟨by show _ ≤ 601024; omega, by show _ ≤ 7293033; omega⟩ (fun H locs hP hD hS => ?_)
  refine W.eq (g2 := F0 m 256 ls [.int r9, .int r9]) rfl ?_
  refine lv_icmp_eq (tgt := 1980) hx hb dL_law_256 (by decide) (fun _ => ?_) (fun h9 => absurd rfl h9)
  exact W.widen (Nat.le_succ _) (Nat.le_add_right _ _) (kk tr' qs' g' trc' qsc' gc' od' n' tri' qsi' gi' fc' hc' v1' v2' v3' v4' trs' qss' gs' iz' u' ln' th' ga' sv' sl' fo hinv' _ _ hP hD hS _ (lv_sub hl [0, 1, 2, 3, 4] rfl))
set_option maxHeartbeats 4000000 in
set_option maxRecDepth 100000 in
theorem a_errorPosition {p : Program} {e : Env} {s : State} {m : MethodId} {below : List Frame} {meth : Method} {c : Code} (l : Launch) (D : va_G) (tc : Nat → ClassId) (zb x0 : Nat) (as : Nat → Nat) (b : Nat) (bs : Nat → Nat) (bo sb L : Nat) (xs : Nat → Int32) (i cells slots : Nat) (C0 : lw_C p s m meth c l D tc zb sb L xs) (kk : lw_K p l e s m below meth c D tc x0 as b bs bo sb i (cells + 1) (slots + 6)) (hi : i + 6 ≤ L) (hce : cells + 1 ≤ 601024) (hsl : slots + 6 ≤ 7293033) (tr : Nat → Int32) (qs : Nat → Int32) (g : Nat → Nat) (trc : Nat → Int32) (qsc : Nat → Int32) (gc : Nat → Nat) (od : Nat) (n : Nat) (tri : Nat → Nat → Int32) (qsi : Nat → Nat → Int32) (gi : Nat → Nat → Nat) (fc : Nat → Int32) (hc : Nat → Int32) (v1 : Int32) (v2 : Int32) (v3 : Int32) (v4 : Int32) (trs : Nat → Nat → Int32) (qss : Nat → Nat → Int32) (gs : Nat → Nat → Nat) (iz : Nat → Bool) (u : Nat → Nat) (ln : Nat) (th : Int32) (ga : Nat → Nat) (sv : Nat → Nat) (sl : Nat → Nat) (fo : Nat → Int64) (hinv : INV tr qs g od n tri qsi gi trs qss gs iz u ln sv sl) (H : Heap) (locs : List Loc) (hP : va_P D vwCl (((CW tc x0 as tr qs g trc qsc gc od n tri qsi gi fc hc v1 v2 v3 v4 trs qss gs iz u ln) ++ [w_o tc bo fo]) ++ (w_md tc b (bs 0) (bs 1) (bs 2) (bs 3) (bs 4) (bs 5) th g ga sv n sl iz u ln)) H) (hD : va_D (fun q => s.heap.size ≤ q) (((CW tc x0 as tr qs g trc qsc gc od n tri qsi gi fc hc v1 v2 v3 v4 trs qss gs iz u ln) ++ [w_o tc bo fo]) ++ (w_md tc b (bs 0) (bs 1) (bs 2) (bs 3) (bs 4) (bs 5) th g ga sv n sl iz u ln))) (hS : va_S (fun q => s.heap.size ≤ q) s.heap H locs) (ls : Array Slot) (hl : lv_has ls 7 [(4, .int (nI i)), (3, .ref bo), (2, .ref b), (1, .ref x0), (0, .ref sb)]) : W p l e room_1 s m #[Value.ref sb] below meth c H locs cells slots (lw_Z below #[Value.ref sb] s) (F0 m 261 ls []) := by
  obtain ⟨hx, hb, hml, hown, hts, hM, hX, hbl, hfl, hrt, hlk, hL⟩ := id C0
  have hbA : ¬ (fun q : Nat => s.heap.size ≤ q) sb := Nat.not_le.mpr hbl
  have hL31 : L < 2 ^ 31 := Nat.lt_of_le_of_lt hL (by decide)
  by_cases hz : xs (i + 1) = 0
  · obtain ⟨tr', qs', g', trc', qsc', gc', od', n', tri', qsi', gi', fc', hc', v1', v2', v3', v4', trs', qss', gs', iz', u', ln', th', ga', sv', sl', fo', r9, fx, lx, fr, lo, hfx, hlx, hfr, hlo, hcL, hcM, hfo, hinv'⟩ := s_errorPosition_0 l hfl D tc zb x0 as b bs bo tr qs g trc qsc gc od n tri qsi gi fc hc v1 v2 v3 v4 trs qss gs iz u ln th ga sv sl fo hinv 
    refine lv_aload_n hx hb dL_law_261 rfl (lv_at hl 3 rfl) ?_
    refine lv_aload_n hx hb dL_law_262 rfl (lv_at hl 4 rfl) ?_
    refine lv_iload hx hb dL_law_263 (lv_at hl 0 rfl) ?_
    refine lv_iconst (v := nI 1) hx hb dL_law_265 (by decide) ?_
    refine ln_iadd hx hb dL_law_266 ?_
    refine lx_sld hx hb hX hbl hbA hS (by omega) hL31 dL_law_267 ?_
    refine lv_if_eq (tgt := 275) hx hb dL_law_268 (by decide) (fun _ => ?_) (fun h9 => absurd hz h9)
    refine lv_iconst (v := nI 0) hx hb dL_law_275 (by decide) ?_
    refine ipF_V (C := RX6) (n := 1) ⟨hx, hb, hml, hown, hts⟩ hM hS hP hD (IPn.app (mc := 0) (ms := 0) (IPn.app (mc := 0) (ms := 0) hcL [w_o tc bo fo]) (w_md tc b (bs 0) (bs 1) (bs 2) (bs 3) (bs 4) (bs 5) th g ga sv n sl iz u ln)) gL_law_X6_errorPosition rfl (by decide +kernel) ⟨Nat.le_trans (Nat.succ_le_succ hfx) (by decide), Nat.le_trans (Nat.add_le_add_left hlx _) (by decide)⟩ rfl (va_recv hM.1 hP (ci := 5) (q0 := 0) rfl rfl) rfl hl.1 rfl (Nat.le_of_ble_eq_true rfl) dL_law_276 ⟨by show _ ≤ 601024; omega, by show _ ≤ 7293033; omega⟩ (fun H locs hP hD hS => ?_)
    refine W.eq (g2 := F0 m 279 ls [.int r9]) rfl ?_
    refine lv_aload_n hx hb dL_law_279 rfl (lv_at hl 2 rfl) ?_
    refine lv_aload_n hx hb dL_law_280 rfl (lv_at hl 4 rfl) ?_
    refine lv_iload hx hb dL_law_281 (lv_at hl 0 rfl) ?_
    refine lv_iconst (v := nI 1) hx hb dL_law_283 (by decide) ?_
    refine ln_iadd hx hb dL_law_284 ?_
    refine lx_sld hx hb hX hbl hbA hS (by omega) hL31 dL_law_285 ?_
    refine lv_if_eq (tgt := 293) hx hb dL_law_286 (by decide) (fun _ => ?_) (fun h9 => absurd hz h9)
    refine lv_iconst (v := nI 0) hx hb dL_law_293 (by decide) ?_
    refine ipF_V (C := RX7) (n := 1) ⟨hx, hb, hml, hown, hts⟩ hM hS hP hD (IPn.appl (mc := 0) (ms := 0) hcM ((CW tc x0 as tr' qs' g' trc' qsc' gc' od' n' tri' qsi' gi' fc' hc' v1' v2' v3' v4' trs' qss' gs' iz' u' ln') ++ [w_o tc bo fo])) gL_law_X7_errorPosition rfl (by decide +kernel) ⟨Nat.le_trans (Nat.succ_le_succ hfr) (by decide), Nat.le_trans (Nat.add_le_add_left hlo _) (by decide)⟩ rfl (va_recv hM.1 (va_P_r hP) (ci := 6) (q0 := 0) rfl rfl) rfl hl.1 rfl (Nat.le_of_ble_eq_true rfl) dL_law_294 ⟨by show _ ≤ 601024; omega, by show _ ≤ 7293033; omega⟩ (fun H locs hP hD hS => ?_)
    refine W.eq (g2 := F0 m 297 ls [.int r9, .int r9]) rfl ?_
    refine lv_icmp_eq (tgt := 1980) hx hb dL_law_297 (by decide) (fun _ => ?_) (fun h9 => absurd rfl h9)
    exact W.widen (Nat.le_succ _) (Nat.le_add_right _ _) (kk tr' qs' g' trc' qsc' gc' od' n' tri' qsi' gi' fc' hc' v1' v2' v3' v4' trs' qss' gs' iz' u' ln' th' ga' sv' sl' fo hinv' _ _ hP hD hS _ (lv_sub hl [0, 1, 2, 3, 4] rfl))
  · obtain ⟨tr', qs', g', trc', qsc', gc', od', n', tri', qsi', gi', fc', hc', v1', v2', v3', v4', trs', qss', gs', iz', u', ln', th', ga', sv', sl', fo', r9, fx, lx, fr, lo, hfx, hlx, hfr, hlo, hcL, hcM, hfo, hinv'⟩ := s_errorPosition_1 l hfl D tc zb x0 as b bs bo tr qs g trc qsc gc od n tri qsi gi fc hc v1 v2 v3 v4 trs qss gs iz u ln th ga sv sl fo hinv 
    refine lv_aload_n hx hb dL_law_261 rfl (lv_at hl 3 rfl) ?_
    refine lv_aload_n hx hb dL_law_262 rfl (lv_at hl 4 rfl) ?_
    refine lv_iload hx hb dL_law_263 (lv_at hl 0 rfl) ?_
    refine lv_iconst (v := nI 1) hx hb dL_law_265 (by decide) ?_
    refine ln_iadd hx hb dL_law_266 ?_
    refine lx_sld hx hb hX hbl hbA hS (by omega) hL31 dL_law_267 ?_
    refine lv_if_eq (tgt := 275) hx hb dL_law_268 (by decide) (fun h9 => absurd h9 hz) (fun _ => ?_)
    refine lv_iconst (v := nI 1) hx hb dL_law_271 (by decide) ?_
    refine lv_goto (tgt := 276) hx hb dL_law_272 (by decide) ?_
    refine ipF_V (C := RX6) (n := 1) ⟨hx, hb, hml, hown, hts⟩ hM hS hP hD (IPn.app (mc := 0) (ms := 0) (IPn.app (mc := 0) (ms := 0) hcL [w_o tc bo fo]) (w_md tc b (bs 0) (bs 1) (bs 2) (bs 3) (bs 4) (bs 5) th g ga sv n sl iz u ln)) gL_law_X6_errorPosition rfl (by decide +kernel) ⟨Nat.le_trans (Nat.succ_le_succ hfx) (by decide), Nat.le_trans (Nat.add_le_add_left hlx _) (by decide)⟩ rfl (va_recv hM.1 hP (ci := 5) (q0 := 0) rfl rfl) rfl hl.1 rfl (Nat.le_of_ble_eq_true rfl) dL_law_276 ⟨by show _ ≤ 601024; omega, by show _ ≤ 7293033; omega⟩ (fun H locs hP hD hS => ?_)
    refine W.eq (g2 := F0 m 279 ls [.int r9]) rfl ?_
    refine lv_aload_n hx hb dL_law_279 rfl (lv_at hl 2 rfl) ?_
    refine lv_aload_n hx hb dL_law_280 rfl (lv_at hl 4 rfl) ?_
    refine lv_iload hx hb dL_law_281 (lv_at hl 0 rfl) ?_
    refine lv_iconst (v := nI 1) hx hb dL_law_283 (by decide) ?_
    refine ln_iadd hx hb dL_law_284 ?_
    refine lx_sld hx hb hX hbl hbA hS (by omega) hL31 dL_law_285 ?_
    refine lv_if_eq (tgt := 293) hx hb dL_law_286 (by decide) (fun h9 => absurd h9 hz) (fun _ => ?_)
    refine lv_iconst (v := nI 1) hx hb dL_law_289 (by decide) ?_
    refine lv_goto (tgt := 294) hx hb dL_law_290 (by decide) ?_
    refine ipF_V (C := RX7) (n := 1) ⟨hx, hb, hml, hown, hts⟩ hM hS hP hD (IPn.appl (mc := 0) (ms := 0) hcM ((CW tc x0 as tr' qs' g' trc' qsc' gc' od' n' tri' qsi' gi' fc' hc' v1' v2' v3' v4' trs' qss' gs' iz' u' ln') ++ [w_o tc bo fo])) gL_law_X7_errorPosition rfl (by decide +kernel) ⟨Nat.le_trans (Nat.succ_le_succ hfr) (by decide), Nat.le_trans (Nat.add_le_add_left hlo _) (by decide)⟩ rfl (va_recv hM.1 (va_P_r hP) (ci := 6) (q0 := 0) rfl rfl) rfl hl.1 rfl (Nat.le_of_ble_eq_true rfl) dL_law_294 ⟨by show _ ≤ 601024; omega, by show _ ≤ 7293033; omega⟩ (fun H locs hP hD hS => ?_)
    refine W.eq (g2 := F0 m 297 ls [.int r9, .int r9]) rfl ?_
    refine lv_icmp_eq (tgt := 1980) hx hb dL_law_297 (by decide) (fun _ => ?_) (fun h9 => absurd rfl h9)
    exact W.widen (Nat.le_succ _) (Nat.le_add_right _ _) (kk tr' qs' g' trc' qsc' gc' od' n' tri' qsi' gi' fc' hc' v1' v2' v3' v4' trs' qss' gs' iz' u' ln' th' ga' sv' sl' fo hinv' _ _ hP hD hS _ (lv_sub hl [0, 1, 2, 3, 4] rfl))
set_option maxHeartbeats 4000000 in
set_option maxRecDepth 100000 in
theorem a_question {p : Program} {e : Env} {s : State} {m : MethodId} {below : List Frame} {meth : Method} {c : Code} (l : Launch) (D : va_G) (tc : Nat → ClassId) (zb x0 : Nat) (as : Nat → Nat) (b : Nat) (bs : Nat → Nat) (bo sb L : Nat) (xs : Nat → Int32) (i cells slots : Nat) (C0 : lw_C p s m meth c l D tc zb sb L xs) (kk : lw_K p l e s m below meth c D tc x0 as b bs bo sb i (cells + 1) (slots + 6)) (hi : i + 6 ≤ L) (hce : cells + 1 ≤ 601024) (hsl : slots + 6 ≤ 7293033) (tr : Nat → Int32) (qs : Nat → Int32) (g : Nat → Nat) (trc : Nat → Int32) (qsc : Nat → Int32) (gc : Nat → Nat) (od : Nat) (n : Nat) (tri : Nat → Nat → Int32) (qsi : Nat → Nat → Int32) (gi : Nat → Nat → Nat) (fc : Nat → Int32) (hc : Nat → Int32) (v1 : Int32) (v2 : Int32) (v3 : Int32) (v4 : Int32) (trs : Nat → Nat → Int32) (qss : Nat → Nat → Int32) (gs : Nat → Nat → Nat) (iz : Nat → Bool) (u : Nat → Nat) (ln : Nat) (th : Int32) (ga : Nat → Nat) (sv : Nat → Nat) (sl : Nat → Nat) (fo : Nat → Int64) (hinv : INV tr qs g od n tri qsi gi trs qss gs iz u ln sv sl) (H : Heap) (locs : List Loc) (hP : va_P D vwCl (((CW tc x0 as tr qs g trc qsc gc od n tri qsi gi fc hc v1 v2 v3 v4 trs qss gs iz u ln) ++ [w_o tc bo fo]) ++ (w_md tc b (bs 0) (bs 1) (bs 2) (bs 3) (bs 4) (bs 5) th g ga sv n sl iz u ln)) H) (hD : va_D (fun q => s.heap.size ≤ q) (((CW tc x0 as tr qs g trc qsc gc od n tri qsi gi fc hc v1 v2 v3 v4 trs qss gs iz u ln) ++ [w_o tc bo fo]) ++ (w_md tc b (bs 0) (bs 1) (bs 2) (bs 3) (bs 4) (bs 5) th g ga sv n sl iz u ln))) (hS : va_S (fun q => s.heap.size ≤ q) s.heap H locs) (ls : Array Slot) (hl : lv_has ls 7 [(4, .int (nI i)), (3, .ref bo), (2, .ref b), (1, .ref x0), (0, .ref sb)]) : W p l e room_1 s m #[Value.ref sb] below meth c H locs cells slots (lw_Z below #[Value.ref sb] s) (F0 m 302 ls []) := by
  obtain ⟨hx, hb, hml, hown, hts, hM, hX, hbl, hfl, hrt, hlk, hL⟩ := id C0
  have hbA : ¬ (fun q : Nat => s.heap.size ≤ q) sb := Nat.not_le.mpr hbl
  have hL31 : L < 2 ^ 31 := Nat.lt_of_le_of_lt hL (by decide)
  obtain ⟨tr', qs', g', trc', qsc', gc', od', n', tri', qsi', gi', fc', hc', v1', v2', v3', v4', trs', qss', gs', iz', u', ln', th', ga', sv', sl', fo', k, bb, fr, lo, hk3, hfr, hlo, hcL, hcM, hth, hval, hinv'⟩ := s_question l hfl D tc zb x0 as b bs bo tr qs g trc qsc gc od n tri qsi gi fc hc v1 v2 v3 v4 trs qss gs iz u ln th ga sv sl fo hinv 
  refine lv_aload_n hx hb dL_law_302 rfl (lv_at hl 3 rfl) ?_
  refine lv_aload_n hx hb dL_law_303 rfl (lv_at hl 1 rfl) ?_
  refine ipF_SW (n := 2) ⟨hx, hb, hml, hown, hts⟩ hM hS hP hD (IPn.app hcL (w_md tc b (bs 0) (bs 1) (bs 2) (bs 3) (bs 4) (bs 5) th g ga sv n sl iz u ln)) gL_law_L_question rfl (by decide +kernel) ⟨Nat.le_of_ble_eq_true rfl, Nat.le_of_ble_eq_true rfl⟩ rfl rfl hl.1 rfl (Nat.le_of_ble_eq_true rfl) dL_law_304 ⟨by show _ ≤ 601024; omega, by show _ ≤ 7293033; omega⟩ (fun H locs hP hD hS => ?_)
  refine W.eq (g2 := F0 m 307 ls [.int (nI k)]) rfl ?_
  refine lv_istore (lv' := [(5, .int (nI k)), (4, .int (nI i)), (3, .ref bo), (2, .ref b), (1, .ref x0), (0, .ref sb)]) hx hb dL_law_307 hl (by decide) rfl (fun ls hl => ?_)
  refine lv_aload_n hx hb dL_law_309 rfl (lv_at hl 3 rfl) ?_
  refine ipF_V (C := RX7) (n := 0) ⟨hx, hb, hml, hown, hts⟩ hM hS hP hD (IPn.appl (mc := 0) (ms := 0) hcM ((CW tc x0 as tr' qs' g' trc' qsc' gc' od' n' tri' qsi' gi' fc' hc' v1' v2' v3' v4' trs' qss' gs' iz' u' ln') ++ [w_o tc bo fo'])) gL_law_X7_question rfl (by decide +kernel) ⟨Nat.le_trans (Nat.succ_le_succ hfr) (by decide), Nat.le_trans (Nat.add_le_add_left hlo _) (by decide)⟩ rfl (va_recv hM.1 (va_P_r hP) (ci := 6) (q0 := 0) rfl rfl) rfl hl.1 rfl (Nat.le_of_ble_eq_true rfl) dL_law_310 ⟨by show _ ≤ 601024; omega, by show _ ≤ 7293033; omega⟩ (fun H locs hP hD hS => ?_)
  refine W.eq (g2 := F0 m 313 ls [.int bb]) rfl ?_
  refine lv_istore (lv' := [(6, .int bb), (5, .int (nI k)), (4, .int (nI i)), (3, .ref bo), (2, .ref b), (1, .ref x0), (0, .ref sb)]) hx hb dL_law_313 hl (by decide) rfl (fun ls hl => ?_)
  refine lv_aload_n hx hb dL_law_315 rfl (lv_at hl 4 rfl) ?_
  refine ro_V (C := RX7) (n := 0) ⟨hx, hb, hml, hown, hts⟩ hM hS (va_P_r hP) (RO.up (c7_thrown l D tc zb b th' (fun k9 => match k9 with | 1 => .ref (bs 0) | 2 => .ref (bs 1) | 3 => .ref (bs 2) | 4 => .int (nI n') | 5 => .ref (bs 3) | 6 => .ref (bs 4) | 7 => .ref (bs 5) | 8 => .int (nI ln') | _ => .null)) [0] rfl) gL_law_X7_thrown rfl (by decide +kernel) ⟨Nat.le_of_ble_eq_true rfl, Nat.le_of_ble_eq_true rfl⟩ [0, 1, 2, 3, 4, 5, 6] rfl (va_recv hM.1 (va_P_r hP) (ci := 6) (q0 := 0) rfl rfl) rfl hl.1 rfl (Nat.le_of_ble_eq_true rfl) dL_law_316 ⟨by show _ ≤ 601024; omega, by show _ ≤ 7293033; omega⟩ ?_
  refine lv_iload hx hb dL_law_319 (lv_at hl 1 rfl) ?_
  refine lv_icmp_eq (tgt := 326) hx hb dL_law_321 (by decide) (fun _ => ?_) (fun h9 => absurd hth h9)
  refine lv_iload hx hb dL_law_326 (lv_at hl 1 rfl) ?_
  refine ln_if_ne (tgt := 343) hx hb dL_law_328 (by decide) (Nat.lt_trans hk3 (by decide)) (fun hk9 => ?_) (fun hk9 => ?_)
  · refine lv_goto (tgt := 1980) hx hb dL_law_343 (by decide) ?_
    exact kk tr' qs' g' trc' qsc' gc' od' n' tri' qsi' gi' fc' hc' v1' v2' v3' v4' trs' qss' gs' iz' u' ln' th' ga' sv' sl' fo' hinv' _ _ hP hD hS _ (lv_sub hl [2, 3, 4, 5, 6] rfl)
  · refine lv_aload_n hx hb dL_law_331 rfl (lv_at hl 3 rfl) ?_
    refine lv_iconst (v := nI 0) hx hb dL_law_332 (by decide) ?_
    refine lx_lald hx hb hM.1 hP dL_law_333 ?_
    refine lv_iload hx hb dL_law_334 (lv_at hl 0 rfl) ?_
    refine lv_i2l (v := (bb).toInt64) hx hb dL_law_336 rfl ?_
    refine W.lcmp hx hb dL_law_337 ?_
    refine ln_lif_eq (tgt := 343) hx hb dL_law_338 (by decide) (fun _ => ?_) (fun h9 => absurd (hval hk9) h9)
    refine lv_goto (tgt := 1980) hx hb dL_law_343 (by decide) ?_
    exact kk tr' qs' g' trc' qsc' gc' od' n' tri' qsi' gi' fc' hc' v1' v2' v3' v4' trs' qss' gs' iz' u' ln' th' ga' sv' sl' fo' hinv' _ _ hP hD hS _ (lv_sub hl [2, 3, 4, 5, 6] rfl)
set_option maxHeartbeats 4000000 in
set_option maxRecDepth 100000 in
theorem a_about {p : Program} {e : Env} {s : State} {m : MethodId} {below : List Frame} {meth : Method} {c : Code} (l : Launch) (D : va_G) (tc : Nat → ClassId) (zb x0 : Nat) (as : Nat → Nat) (b : Nat) (bs : Nat → Nat) (bo sb L : Nat) (xs : Nat → Int32) (i cells slots : Nat) (C0 : lw_C p s m meth c l D tc zb sb L xs) (kk : lw_K p l e s m below meth c D tc x0 as b bs bo sb i (cells + 1) (slots + 6)) (hi : i + 6 ≤ L) (hce : cells + 1 ≤ 601024) (hsl : slots + 6 ≤ 7293033) (tr : Nat → Int32) (qs : Nat → Int32) (g : Nat → Nat) (trc : Nat → Int32) (qsc : Nat → Int32) (gc : Nat → Nat) (od : Nat) (n : Nat) (tri : Nat → Nat → Int32) (qsi : Nat → Nat → Int32) (gi : Nat → Nat → Nat) (fc : Nat → Int32) (hc : Nat → Int32) (v1 : Int32) (v2 : Int32) (v3 : Int32) (v4 : Int32) (trs : Nat → Nat → Int32) (qss : Nat → Nat → Int32) (gs : Nat → Nat → Nat) (iz : Nat → Bool) (u : Nat → Nat) (ln : Nat) (th : Int32) (ga : Nat → Nat) (sv : Nat → Nat) (sl : Nat → Nat) (fo : Nat → Int64) (hinv : INV tr qs g od n tri qsi gi trs qss gs iz u ln sv sl) (H : Heap) (locs : List Loc) (hP : va_P D vwCl (((CW tc x0 as tr qs g trc qsc gc od n tri qsi gi fc hc v1 v2 v3 v4 trs qss gs iz u ln) ++ [w_o tc bo fo]) ++ (w_md tc b (bs 0) (bs 1) (bs 2) (bs 3) (bs 4) (bs 5) th g ga sv n sl iz u ln)) H) (hD : va_D (fun q => s.heap.size ≤ q) (((CW tc x0 as tr qs g trc qsc gc od n tri qsi gi fc hc v1 v2 v3 v4 trs qss gs iz u ln) ++ [w_o tc bo fo]) ++ (w_md tc b (bs 0) (bs 1) (bs 2) (bs 3) (bs 4) (bs 5) th g ga sv n sl iz u ln))) (hS : va_S (fun q => s.heap.size ≤ q) s.heap H locs) (ls : Array Slot) (hl : lv_has ls 7 [(4, .int (nI i)), (3, .ref bo), (2, .ref b), (1, .ref x0), (0, .ref sb)]) : W p l e room_1 s m #[Value.ref sb] below meth c H locs cells slots (lw_Z below #[Value.ref sb] s) (F0 m 346 ls []) := by
  obtain ⟨hx, hb, hml, hown, hts, hM, hX, hbl, hfl, hrt, hlk, hL⟩ := id C0
  have hbA : ¬ (fun q : Nat => s.heap.size ≤ q) sb := Nat.not_le.mpr hbl
  have hL31 : L < 2 ^ 31 := Nat.lt_of_le_of_lt hL (by decide)
  obtain ⟨tr', qs', g', trc', qsc', gc', od', n', tri', qsi', gi', fc', hc', v1', v2', v3', v4', trs', qss', gs', iz', u', ln', th', ga', sv', sl', fo', k, bb, fr, lo, hk3, hfr, hlo, hcL, hcM, hth, hval, hinv'⟩ := s_about l hfl D tc zb x0 as b bs bo tr qs g trc qsc gc od n tri qsi gi fc hc v1 v2 v3 v4 trs qss gs iz u ln th ga sv sl fo hinv (xs (i + 1))
  refine lv_aload_n hx hb dL_law_346 rfl (lv_at hl 3 rfl) ?_
  refine lv_aload_n hx hb dL_law_347 rfl (lv_at hl 4 rfl) ?_
  refine lv_iload hx hb dL_law_348 (lv_at hl 0 rfl) ?_
  refine lv_iconst (v := nI 1) hx hb dL_law_350 (by decide) ?_
  refine ln_iadd hx hb dL_law_351 ?_
  refine lx_sld hx hb hX hbl hbA hS (by omega) hL31 dL_law_352 ?_
  refine lv_aload_n hx hb dL_law_353 rfl (lv_at hl 1 rfl) ?_
  refine ipF_SW (n := 3) ⟨hx, hb, hml, hown, hts⟩ hM hS hP hD (IPn.app hcL (w_md tc b (bs 0) (bs 1) (bs 2) (bs 3) (bs 4) (bs 5) th g ga sv n sl iz u ln)) gL_law_L_about rfl (by decide +kernel) ⟨Nat.le_of_ble_eq_true rfl, Nat.le_of_ble_eq_true rfl⟩ rfl rfl hl.1 rfl (Nat.le_of_ble_eq_true rfl) dL_law_354 ⟨by show _ ≤ 601024; omega, by show _ ≤ 7293033; omega⟩ (fun H locs hP hD hS => ?_)
  refine W.eq (g2 := F0 m 357 ls [.int (nI k)]) rfl ?_
  refine lv_istore (lv' := [(5, .int (nI k)), (4, .int (nI i)), (3, .ref bo), (2, .ref b), (1, .ref x0), (0, .ref sb)]) hx hb dL_law_357 hl (by decide) rfl (fun ls hl => ?_)
  refine lv_aload_n hx hb dL_law_359 rfl (lv_at hl 3 rfl) ?_
  refine lv_aload_n hx hb dL_law_360 rfl (lv_at hl 5 rfl) ?_
  refine lv_iload hx hb dL_law_361 (lv_at hl 1 rfl) ?_
  refine lv_iconst (v := nI 1) hx hb dL_law_363 (by decide) ?_
  refine ln_iadd hx hb dL_law_364 ?_
  refine lx_sld hx hb hX hbl hbA hS (by omega) hL31 dL_law_365 ?_
  refine ipF_V (C := RX7) (n := 1) ⟨hx, hb, hml, hown, hts⟩ hM hS hP hD (IPn.appl (mc := 0) (ms := 0) hcM ((CW tc x0 as tr' qs' g' trc' qsc' gc' od' n' tri' qsi' gi' fc' hc' v1' v2' v3' v4' trs' qss' gs' iz' u' ln') ++ [w_o tc bo fo'])) gL_law_X7_about rfl (by decide +kernel) ⟨Nat.le_trans (Nat.succ_le_succ hfr) (by decide), Nat.le_trans (Nat.add_le_add_left hlo _) (by decide)⟩ rfl (va_recv hM.1 (va_P_r hP) (ci := 6) (q0 := 0) rfl rfl) rfl hl.1 rfl (Nat.le_of_ble_eq_true rfl) dL_law_366 ⟨by show _ ≤ 601024; omega, by show _ ≤ 7293033; omega⟩ (fun H locs hP hD hS => ?_)
  refine W.eq (g2 := F0 m 369 ls [.int bb]) rfl ?_
  refine lv_istore (lv' := [(6, .int bb), (5, .int (nI k)), (4, .int (nI i)), (3, .ref bo), (2, .ref b), (1, .ref x0), (0, .ref sb)]) hx hb dL_law_369 hl (by decide) rfl (fun ls hl => ?_)
  refine lv_aload_n hx hb dL_law_371 rfl (lv_at hl 4 rfl) ?_
  refine ro_V (C := RX7) (n := 0) ⟨hx, hb, hml, hown, hts⟩ hM hS (va_P_r hP) (RO.up (c7_thrown l D tc zb b th' (fun k9 => match k9 with | 1 => .ref (bs 0) | 2 => .ref (bs 1) | 3 => .ref (bs 2) | 4 => .int (nI n') | 5 => .ref (bs 3) | 6 => .ref (bs 4) | 7 => .ref (bs 5) | 8 => .int (nI ln') | _ => .null)) [0] rfl) gL_law_X7_thrown rfl (by decide +kernel) ⟨Nat.le_of_ble_eq_true rfl, Nat.le_of_ble_eq_true rfl⟩ [0, 1, 2, 3, 4, 5, 6] rfl (va_recv hM.1 (va_P_r hP) (ci := 6) (q0 := 0) rfl rfl) rfl hl.1 rfl (Nat.le_of_ble_eq_true rfl) dL_law_372 ⟨by show _ ≤ 601024; omega, by show _ ≤ 7293033; omega⟩ ?_
  refine lv_iload hx hb dL_law_375 (lv_at hl 1 rfl) ?_
  refine lv_icmp_eq (tgt := 382) hx hb dL_law_377 (by decide) (fun _ => ?_) (fun h9 => absurd hth h9)
  refine lv_iload hx hb dL_law_382 (lv_at hl 1 rfl) ?_
  refine ln_if_ne (tgt := 399) hx hb dL_law_384 (by decide) (Nat.lt_trans hk3 (by decide)) (fun hk9 => ?_) (fun hk9 => ?_)
  · refine lv_goto (tgt := 1980) hx hb dL_law_399 (by decide) ?_
    exact kk tr' qs' g' trc' qsc' gc' od' n' tri' qsi' gi' fc' hc' v1' v2' v3' v4' trs' qss' gs' iz' u' ln' th' ga' sv' sl' fo' hinv' _ _ hP hD hS _ (lv_sub hl [2, 3, 4, 5, 6] rfl)
  · refine lv_aload_n hx hb dL_law_387 rfl (lv_at hl 3 rfl) ?_
    refine lv_iconst (v := nI 0) hx hb dL_law_388 (by decide) ?_
    refine lx_lald hx hb hM.1 hP dL_law_389 ?_
    refine lv_iload hx hb dL_law_390 (lv_at hl 0 rfl) ?_
    refine lv_i2l (v := (bb).toInt64) hx hb dL_law_392 rfl ?_
    refine W.lcmp hx hb dL_law_393 ?_
    refine ln_lif_eq (tgt := 399) hx hb dL_law_394 (by decide) (fun _ => ?_) (fun h9 => absurd (hval hk9) h9)
    refine lv_goto (tgt := 1980) hx hb dL_law_399 (by decide) ?_
    exact kk tr' qs' g' trc' qsc' gc' od' n' tri' qsi' gi' fc' hc' v1' v2' v3' v4' trs' qss' gs' iz' u' ln' th' ga' sv' sl' fo' hinv' _ _ hP hD hS _ (lv_sub hl [2, 3, 4, 5, 6] rfl)
set_option maxHeartbeats 4000000 in
set_option maxRecDepth 100000 in
theorem a_triple {p : Program} {e : Env} {s : State} {m : MethodId} {below : List Frame} {meth : Method} {c : Code} (l : Launch) (D : va_G) (tc : Nat → ClassId) (zb x0 : Nat) (as : Nat → Nat) (b : Nat) (bs : Nat → Nat) (bo sb L : Nat) (xs : Nat → Int32) (i cells slots : Nat) (C0 : lw_C p s m meth c l D tc zb sb L xs) (kk : lw_K p l e s m below meth c D tc x0 as b bs bo sb i (cells + 1) (slots + 6)) (hi : i + 6 ≤ L) (hce : cells + 1 ≤ 601024) (hsl : slots + 6 ≤ 7293033) (tr : Nat → Int32) (qs : Nat → Int32) (g : Nat → Nat) (trc : Nat → Int32) (qsc : Nat → Int32) (gc : Nat → Nat) (od : Nat) (n : Nat) (tri : Nat → Nat → Int32) (qsi : Nat → Nat → Int32) (gi : Nat → Nat → Nat) (fc : Nat → Int32) (hc : Nat → Int32) (v1 : Int32) (v2 : Int32) (v3 : Int32) (v4 : Int32) (trs : Nat → Nat → Int32) (qss : Nat → Nat → Int32) (gs : Nat → Nat → Nat) (iz : Nat → Bool) (u : Nat → Nat) (ln : Nat) (th : Int32) (ga : Nat → Nat) (sv : Nat → Nat) (sl : Nat → Nat) (fo : Nat → Int64) (hinv : INV tr qs g od n tri qsi gi trs qss gs iz u ln sv sl) (H : Heap) (locs : List Loc) (hP : va_P D vwCl (((CW tc x0 as tr qs g trc qsc gc od n tri qsi gi fc hc v1 v2 v3 v4 trs qss gs iz u ln) ++ [w_o tc bo fo]) ++ (w_md tc b (bs 0) (bs 1) (bs 2) (bs 3) (bs 4) (bs 5) th g ga sv n sl iz u ln)) H) (hD : va_D (fun q => s.heap.size ≤ q) (((CW tc x0 as tr qs g trc qsc gc od n tri qsi gi fc hc v1 v2 v3 v4 trs qss gs iz u ln) ++ [w_o tc bo fo]) ++ (w_md tc b (bs 0) (bs 1) (bs 2) (bs 3) (bs 4) (bs 5) th g ga sv n sl iz u ln))) (hS : va_S (fun q => s.heap.size ≤ q) s.heap H locs) (ls : Array Slot) (hl : lv_has ls 7 [(4, .int (nI i)), (3, .ref bo), (2, .ref b), (1, .ref x0), (0, .ref sb)]) : W p l e room_1 s m #[Value.ref sb] below meth c H locs cells slots (lw_Z below #[Value.ref sb] s) (F0 m 402 ls []) := by
  obtain ⟨hx, hb, hml, hown, hts, hM, hX, hbl, hfl, hrt, hlk, hL⟩ := id C0
  have hbA : ¬ (fun q : Nat => s.heap.size ≤ q) sb := Nat.not_le.mpr hbl
  have hL31 : L < 2 ^ 31 := Nat.lt_of_le_of_lt hL (by decide)
  obtain ⟨tr', qs', g', trc', qsc', gc', od', n', tri', qsi', gi', fc', hc', v1', v2', v3', v4', trs', qss', gs', iz', u', ln', th', ga', sv', sl', fo', k, bb, fr, lo, hk3, hfr, hlo, hcL, hcM, hth, hval, hinv'⟩ := s_triple l hfl D tc zb x0 as b bs bo tr qs g trc qsc gc od n tri qsi gi fc hc v1 v2 v3 v4 trs qss gs iz u ln th ga sv sl fo hinv (xs (i + 1)) (xs (i + 2))
  refine lv_aload_n hx hb dL_law_402 rfl (lv_at hl 3 rfl) ?_
  refine lv_aload_n hx hb dL_law_403 rfl (lv_at hl 4 rfl) ?_
  refine lv_iload hx hb dL_law_404 (lv_at hl 0 rfl) ?_
  refine lv_iconst (v := nI 1) hx hb dL_law_406 (by decide) ?_
  refine ln_iadd hx hb dL_law_407 ?_
  refine lx_sld hx hb hX hbl hbA hS (by omega) hL31 dL_law_408 ?_
  refine lv_aload_n hx hb dL_law_409 rfl (lv_at hl 4 rfl) ?_
  refine lv_iload hx hb dL_law_410 (lv_at hl 0 rfl) ?_
  refine lv_iconst (v := nI 2) hx hb dL_law_412 (by decide) ?_
  refine ln_iadd hx hb dL_law_413 ?_
  refine lx_sld hx hb hX hbl hbA hS (by omega) hL31 dL_law_414 ?_
  refine lv_aload_n hx hb dL_law_415 rfl (lv_at hl 1 rfl) ?_
  refine ipF_SW (n := 4) ⟨hx, hb, hml, hown, hts⟩ hM hS hP hD (IPn.app hcL (w_md tc b (bs 0) (bs 1) (bs 2) (bs 3) (bs 4) (bs 5) th g ga sv n sl iz u ln)) gL_law_L_triple rfl (by decide +kernel) ⟨Nat.le_of_ble_eq_true rfl, Nat.le_of_ble_eq_true rfl⟩ rfl rfl hl.1 rfl (Nat.le_of_ble_eq_true rfl) dL_law_416 ⟨by show _ ≤ 601024; omega, by show _ ≤ 7293033; omega⟩ (fun H locs hP hD hS => ?_)
  refine W.eq (g2 := F0 m 419 ls [.int (nI k)]) rfl ?_
  refine lv_istore (lv' := [(5, .int (nI k)), (4, .int (nI i)), (3, .ref bo), (2, .ref b), (1, .ref x0), (0, .ref sb)]) hx hb dL_law_419 hl (by decide) rfl (fun ls hl => ?_)
  refine lv_aload_n hx hb dL_law_421 rfl (lv_at hl 3 rfl) ?_
  refine lv_aload_n hx hb dL_law_422 rfl (lv_at hl 5 rfl) ?_
  refine lv_iload hx hb dL_law_423 (lv_at hl 1 rfl) ?_
  refine lv_iconst (v := nI 1) hx hb dL_law_425 (by decide) ?_
  refine ln_iadd hx hb dL_law_426 ?_
  refine lx_sld hx hb hX hbl hbA hS (by omega) hL31 dL_law_427 ?_
  refine lv_aload_n hx hb dL_law_428 rfl (lv_at hl 5 rfl) ?_
  refine lv_iload hx hb dL_law_429 (lv_at hl 1 rfl) ?_
  refine lv_iconst (v := nI 2) hx hb dL_law_431 (by decide) ?_
  refine ln_iadd hx hb dL_law_432 ?_
  refine lx_sld hx hb hX hbl hbA hS (by omega) hL31 dL_law_433 ?_
  refine ipF_V (C := RX7) (n := 2) ⟨hx, hb, hml, hown, hts⟩ hM hS hP hD (IPn.appl (mc := 0) (ms := 0) hcM ((CW tc x0 as tr' qs' g' trc' qsc' gc' od' n' tri' qsi' gi' fc' hc' v1' v2' v3' v4' trs' qss' gs' iz' u' ln') ++ [w_o tc bo fo'])) gL_law_X7_triple rfl (by decide +kernel) ⟨Nat.le_trans (Nat.succ_le_succ hfr) (by decide), Nat.le_trans (Nat.add_le_add_left hlo _) (by decide)⟩ rfl (va_recv hM.1 (va_P_r hP) (ci := 6) (q0 := 0) rfl rfl) rfl hl.1 rfl (Nat.le_of_ble_eq_true rfl) dL_law_434 ⟨by show _ ≤ 601024; omega, by show _ ≤ 7293033; omega⟩ (fun H locs hP hD hS => ?_)
  refine W.eq (g2 := F0 m 437 ls [.int bb]) rfl ?_
  refine lv_istore (lv' := [(6, .int bb), (5, .int (nI k)), (4, .int (nI i)), (3, .ref bo), (2, .ref b), (1, .ref x0), (0, .ref sb)]) hx hb dL_law_437 hl (by decide) rfl (fun ls hl => ?_)
  refine lv_aload_n hx hb dL_law_439 rfl (lv_at hl 4 rfl) ?_
  refine ro_V (C := RX7) (n := 0) ⟨hx, hb, hml, hown, hts⟩ hM hS (va_P_r hP) (RO.up (c7_thrown l D tc zb b th' (fun k9 => match k9 with | 1 => .ref (bs 0) | 2 => .ref (bs 1) | 3 => .ref (bs 2) | 4 => .int (nI n') | 5 => .ref (bs 3) | 6 => .ref (bs 4) | 7 => .ref (bs 5) | 8 => .int (nI ln') | _ => .null)) [0] rfl) gL_law_X7_thrown rfl (by decide +kernel) ⟨Nat.le_of_ble_eq_true rfl, Nat.le_of_ble_eq_true rfl⟩ [0, 1, 2, 3, 4, 5, 6] rfl (va_recv hM.1 (va_P_r hP) (ci := 6) (q0 := 0) rfl rfl) rfl hl.1 rfl (Nat.le_of_ble_eq_true rfl) dL_law_440 ⟨by show _ ≤ 601024; omega, by show _ ≤ 7293033; omega⟩ ?_
  refine lv_iload hx hb dL_law_443 (lv_at hl 1 rfl) ?_
  refine lv_icmp_eq (tgt := 450) hx hb dL_law_445 (by decide) (fun _ => ?_) (fun h9 => absurd hth h9)
  refine lv_iload hx hb dL_law_450 (lv_at hl 1 rfl) ?_
  refine ln_if_ne (tgt := 467) hx hb dL_law_452 (by decide) (Nat.lt_trans hk3 (by decide)) (fun hk9 => ?_) (fun hk9 => ?_)
  · refine lv_goto (tgt := 1980) hx hb dL_law_467 (by decide) ?_
    exact kk tr' qs' g' trc' qsc' gc' od' n' tri' qsi' gi' fc' hc' v1' v2' v3' v4' trs' qss' gs' iz' u' ln' th' ga' sv' sl' fo' hinv' _ _ hP hD hS _ (lv_sub hl [2, 3, 4, 5, 6] rfl)
  · refine lv_aload_n hx hb dL_law_455 rfl (lv_at hl 3 rfl) ?_
    refine lv_iconst (v := nI 0) hx hb dL_law_456 (by decide) ?_
    refine lx_lald hx hb hM.1 hP dL_law_457 ?_
    refine lv_iload hx hb dL_law_458 (lv_at hl 0 rfl) ?_
    refine lv_i2l (v := (bb).toInt64) hx hb dL_law_460 rfl ?_
    refine W.lcmp hx hb dL_law_461 ?_
    refine ln_lif_eq (tgt := 467) hx hb dL_law_462 (by decide) (fun _ => ?_) (fun h9 => absurd (hval hk9) h9)
    refine lv_goto (tgt := 1980) hx hb dL_law_467 (by decide) ?_
    exact kk tr' qs' g' trc' qsc' gc' od' n' tri' qsi' gi' fc' hc' v1' v2' v3' v4' trs' qss' gs' iz' u' ln' th' ga' sv' sl' fo' hinv' _ _ hP hD hS _ (lv_sub hl [2, 3, 4, 5, 6] rfl)
set_option maxHeartbeats 4000000 in
set_option maxRecDepth 100000 in
theorem a_remembered {p : Program} {e : Env} {s : State} {m : MethodId} {below : List Frame} {meth : Method} {c : Code} (l : Launch) (D : va_G) (tc : Nat → ClassId) (zb x0 : Nat) (as : Nat → Nat) (b : Nat) (bs : Nat → Nat) (bo sb L : Nat) (xs : Nat → Int32) (i cells slots : Nat) (C0 : lw_C p s m meth c l D tc zb sb L xs) (kk : lw_K p l e s m below meth c D tc x0 as b bs bo sb i (cells + 1) (slots + 6)) (hi : i + 6 ≤ L) (hce : cells + 1 ≤ 601024) (hsl : slots + 6 ≤ 7293033) (tr : Nat → Int32) (qs : Nat → Int32) (g : Nat → Nat) (trc : Nat → Int32) (qsc : Nat → Int32) (gc : Nat → Nat) (od : Nat) (n : Nat) (tri : Nat → Nat → Int32) (qsi : Nat → Nat → Int32) (gi : Nat → Nat → Nat) (fc : Nat → Int32) (hc : Nat → Int32) (v1 : Int32) (v2 : Int32) (v3 : Int32) (v4 : Int32) (trs : Nat → Nat → Int32) (qss : Nat → Nat → Int32) (gs : Nat → Nat → Nat) (iz : Nat → Bool) (u : Nat → Nat) (ln : Nat) (th : Int32) (ga : Nat → Nat) (sv : Nat → Nat) (sl : Nat → Nat) (fo : Nat → Int64) (hinv : INV tr qs g od n tri qsi gi trs qss gs iz u ln sv sl) (H : Heap) (locs : List Loc) (hP : va_P D vwCl (((CW tc x0 as tr qs g trc qsc gc od n tri qsi gi fc hc v1 v2 v3 v4 trs qss gs iz u ln) ++ [w_o tc bo fo]) ++ (w_md tc b (bs 0) (bs 1) (bs 2) (bs 3) (bs 4) (bs 5) th g ga sv n sl iz u ln)) H) (hD : va_D (fun q => s.heap.size ≤ q) (((CW tc x0 as tr qs g trc qsc gc od n tri qsi gi fc hc v1 v2 v3 v4 trs qss gs iz u ln) ++ [w_o tc bo fo]) ++ (w_md tc b (bs 0) (bs 1) (bs 2) (bs 3) (bs 4) (bs 5) th g ga sv n sl iz u ln))) (hS : va_S (fun q => s.heap.size ≤ q) s.heap H locs) (ls : Array Slot) (hl : lv_has ls 7 [(4, .int (nI i)), (3, .ref bo), (2, .ref b), (1, .ref x0), (0, .ref sb)]) : W p l e room_1 s m #[Value.ref sb] below meth c H locs cells slots (lw_Z below #[Value.ref sb] s) (F0 m 470 ls []) := by
  obtain ⟨hx, hb, hml, hown, hts, hM, hX, hbl, hfl, hrt, hlk, hL⟩ := id C0
  have hbA : ¬ (fun q : Nat => s.heap.size ≤ q) sb := Nat.not_le.mpr hbl
  have hL31 : L < 2 ^ 31 := Nat.lt_of_le_of_lt hL (by decide)
  obtain ⟨tr', qs', g', trc', qsc', gc', od', n', tri', qsi', gi', fc', hc', v1', v2', v3', v4', trs', qss', gs', iz', u', ln', th', ga', sv', sl', fo', k, bb, fr, lo, hk3, hfr, hlo, hcL, hcM, hth, hval, hinv'⟩ := s_remembered l hfl D tc zb x0 as b bs bo tr qs g trc qsc gc od n tri qsi gi fc hc v1 v2 v3 v4 trs qss gs iz u ln th ga sv sl fo hinv (xs (i + 1))
  refine lv_aload_n hx hb dL_law_470 rfl (lv_at hl 3 rfl) ?_
  refine lv_aload_n hx hb dL_law_471 rfl (lv_at hl 4 rfl) ?_
  refine lv_iload hx hb dL_law_472 (lv_at hl 0 rfl) ?_
  refine lv_iconst (v := nI 1) hx hb dL_law_474 (by decide) ?_
  refine ln_iadd hx hb dL_law_475 ?_
  refine lx_sld hx hb hX hbl hbA hS (by omega) hL31 dL_law_476 ?_
  refine lv_aload_n hx hb dL_law_477 rfl (lv_at hl 1 rfl) ?_
  refine ipF_SW (n := 3) ⟨hx, hb, hml, hown, hts⟩ hM hS hP hD (IPn.app hcL (w_md tc b (bs 0) (bs 1) (bs 2) (bs 3) (bs 4) (bs 5) th g ga sv n sl iz u ln)) gL_law_L_remembered rfl (by decide +kernel) ⟨Nat.le_of_ble_eq_true rfl, Nat.le_of_ble_eq_true rfl⟩ rfl rfl hl.1 rfl (Nat.le_of_ble_eq_true rfl) dL_law_478 ⟨by show _ ≤ 601024; omega, by show _ ≤ 7293033; omega⟩ (fun H locs hP hD hS => ?_)
  refine W.eq (g2 := F0 m 481 ls [.int (nI k)]) rfl ?_
  refine lv_istore (lv' := [(5, .int (nI k)), (4, .int (nI i)), (3, .ref bo), (2, .ref b), (1, .ref x0), (0, .ref sb)]) hx hb dL_law_481 hl (by decide) rfl (fun ls hl => ?_)
  refine lv_aload_n hx hb dL_law_483 rfl (lv_at hl 3 rfl) ?_
  refine lv_aload_n hx hb dL_law_484 rfl (lv_at hl 5 rfl) ?_
  refine lv_iload hx hb dL_law_485 (lv_at hl 1 rfl) ?_
  refine lv_iconst (v := nI 1) hx hb dL_law_487 (by decide) ?_
  refine ln_iadd hx hb dL_law_488 ?_
  refine lx_sld hx hb hX hbl hbA hS (by omega) hL31 dL_law_489 ?_
  refine ipF_V (C := RX7) (n := 1) ⟨hx, hb, hml, hown, hts⟩ hM hS hP hD (IPn.appl (mc := 0) (ms := 0) hcM ((CW tc x0 as tr' qs' g' trc' qsc' gc' od' n' tri' qsi' gi' fc' hc' v1' v2' v3' v4' trs' qss' gs' iz' u' ln') ++ [w_o tc bo fo'])) gL_law_X7_remembered rfl (by decide +kernel) ⟨Nat.le_trans (Nat.succ_le_succ hfr) (by decide), Nat.le_trans (Nat.add_le_add_left hlo _) (by decide)⟩ rfl (va_recv hM.1 (va_P_r hP) (ci := 6) (q0 := 0) rfl rfl) rfl hl.1 rfl (Nat.le_of_ble_eq_true rfl) dL_law_490 ⟨by show _ ≤ 601024; omega, by show _ ≤ 7293033; omega⟩ (fun H locs hP hD hS => ?_)
  refine W.eq (g2 := F0 m 493 ls [.int bb]) rfl ?_
  refine lv_istore (lv' := [(6, .int bb), (5, .int (nI k)), (4, .int (nI i)), (3, .ref bo), (2, .ref b), (1, .ref x0), (0, .ref sb)]) hx hb dL_law_493 hl (by decide) rfl (fun ls hl => ?_)
  refine lv_aload_n hx hb dL_law_495 rfl (lv_at hl 4 rfl) ?_
  refine ro_V (C := RX7) (n := 0) ⟨hx, hb, hml, hown, hts⟩ hM hS (va_P_r hP) (RO.up (c7_thrown l D tc zb b th' (fun k9 => match k9 with | 1 => .ref (bs 0) | 2 => .ref (bs 1) | 3 => .ref (bs 2) | 4 => .int (nI n') | 5 => .ref (bs 3) | 6 => .ref (bs 4) | 7 => .ref (bs 5) | 8 => .int (nI ln') | _ => .null)) [0] rfl) gL_law_X7_thrown rfl (by decide +kernel) ⟨Nat.le_of_ble_eq_true rfl, Nat.le_of_ble_eq_true rfl⟩ [0, 1, 2, 3, 4, 5, 6] rfl (va_recv hM.1 (va_P_r hP) (ci := 6) (q0 := 0) rfl rfl) rfl hl.1 rfl (Nat.le_of_ble_eq_true rfl) dL_law_496 ⟨by show _ ≤ 601024; omega, by show _ ≤ 7293033; omega⟩ ?_
  refine lv_iload hx hb dL_law_499 (lv_at hl 1 rfl) ?_
  refine lv_icmp_eq (tgt := 506) hx hb dL_law_501 (by decide) (fun _ => ?_) (fun h9 => absurd hth h9)
  refine lv_iload hx hb dL_law_506 (lv_at hl 1 rfl) ?_
  refine ln_if_ne (tgt := 523) hx hb dL_law_508 (by decide) (Nat.lt_trans hk3 (by decide)) (fun hk9 => ?_) (fun hk9 => ?_)
  · refine lv_goto (tgt := 1980) hx hb dL_law_523 (by decide) ?_
    exact kk tr' qs' g' trc' qsc' gc' od' n' tri' qsi' gi' fc' hc' v1' v2' v3' v4' trs' qss' gs' iz' u' ln' th' ga' sv' sl' fo' hinv' _ _ hP hD hS _ (lv_sub hl [2, 3, 4, 5, 6] rfl)
  · refine lv_aload_n hx hb dL_law_511 rfl (lv_at hl 3 rfl) ?_
    refine lv_iconst (v := nI 0) hx hb dL_law_512 (by decide) ?_
    refine lx_lald hx hb hM.1 hP dL_law_513 ?_
    refine lv_iload hx hb dL_law_514 (lv_at hl 0 rfl) ?_
    refine lv_i2l (v := (bb).toInt64) hx hb dL_law_516 rfl ?_
    refine W.lcmp hx hb dL_law_517 ?_
    refine ln_lif_eq (tgt := 523) hx hb dL_law_518 (by decide) (fun _ => ?_) (fun h9 => absurd (hval hk9) h9)
    refine lv_goto (tgt := 1980) hx hb dL_law_523 (by decide) ?_
    exact kk tr' qs' g' trc' qsc' gc' od' n' tri' qsi' gi' fc' hc' v1' v2' v3' v4' trs' qss' gs' iz' u' ln' th' ga' sv' sl' fo' hinv' _ _ hP hD hS _ (lv_sub hl [2, 3, 4, 5, 6] rfl)
set_option maxHeartbeats 4000000 in
set_option maxRecDepth 100000 in
theorem a_weight {p : Program} {e : Env} {s : State} {m : MethodId} {below : List Frame} {meth : Method} {c : Code} (l : Launch) (D : va_G) (tc : Nat → ClassId) (zb x0 : Nat) (as : Nat → Nat) (b : Nat) (bs : Nat → Nat) (bo sb L : Nat) (xs : Nat → Int32) (i cells slots : Nat) (C0 : lw_C p s m meth c l D tc zb sb L xs) (kk : lw_K p l e s m below meth c D tc x0 as b bs bo sb i (cells + 1) (slots + 6)) (hi : i + 6 ≤ L) (hce : cells + 1 ≤ 601024) (hsl : slots + 6 ≤ 7293033) (tr : Nat → Int32) (qs : Nat → Int32) (g : Nat → Nat) (trc : Nat → Int32) (qsc : Nat → Int32) (gc : Nat → Nat) (od : Nat) (n : Nat) (tri : Nat → Nat → Int32) (qsi : Nat → Nat → Int32) (gi : Nat → Nat → Nat) (fc : Nat → Int32) (hc : Nat → Int32) (v1 : Int32) (v2 : Int32) (v3 : Int32) (v4 : Int32) (trs : Nat → Nat → Int32) (qss : Nat → Nat → Int32) (gs : Nat → Nat → Nat) (iz : Nat → Bool) (u : Nat → Nat) (ln : Nat) (th : Int32) (ga : Nat → Nat) (sv : Nat → Nat) (sl : Nat → Nat) (fo : Nat → Int64) (hinv : INV tr qs g od n tri qsi gi trs qss gs iz u ln sv sl) (H : Heap) (locs : List Loc) (hP : va_P D vwCl (((CW tc x0 as tr qs g trc qsc gc od n tri qsi gi fc hc v1 v2 v3 v4 trs qss gs iz u ln) ++ [w_o tc bo fo]) ++ (w_md tc b (bs 0) (bs 1) (bs 2) (bs 3) (bs 4) (bs 5) th g ga sv n sl iz u ln)) H) (hD : va_D (fun q => s.heap.size ≤ q) (((CW tc x0 as tr qs g trc qsc gc od n tri qsi gi fc hc v1 v2 v3 v4 trs qss gs iz u ln) ++ [w_o tc bo fo]) ++ (w_md tc b (bs 0) (bs 1) (bs 2) (bs 3) (bs 4) (bs 5) th g ga sv n sl iz u ln))) (hS : va_S (fun q => s.heap.size ≤ q) s.heap H locs) (ls : Array Slot) (hl : lv_has ls 7 [(4, .int (nI i)), (3, .ref bo), (2, .ref b), (1, .ref x0), (0, .ref sb)]) : W p l e room_1 s m #[Value.ref sb] below meth c H locs cells slots (lw_Z below #[Value.ref sb] s) (F0 m 526 ls []) := by
  obtain ⟨hx, hb, hml, hown, hts, hM, hX, hbl, hfl, hrt, hlk, hL⟩ := id C0
  have hbA : ¬ (fun q : Nat => s.heap.size ≤ q) sb := Nat.not_le.mpr hbl
  have hL31 : L < 2 ^ 31 := Nat.lt_of_le_of_lt hL (by decide)
  obtain ⟨tr', qs', g', trc', qsc', gc', od', n', tri', qsi', gi', fc', hc', v1', v2', v3', v4', trs', qss', gs', iz', u', ln', th', ga', sv', sl', fo', r9, fx, lx, fr, lo, hfx, hlx, hfr, hlo, hcL, hcM, hfo, hinv'⟩ := s_weight l hfl D tc zb x0 as b bs bo tr qs g trc qsc gc od n tri qsi gi fc hc v1 v2 v3 v4 trs qss gs iz u ln th ga sv sl fo hinv 
  refine lv_aload_n hx hb dL_law_526 rfl (lv_at hl 3 rfl) ?_
  refine ipF_V (C := RX6) (n := 0) ⟨hx, hb, hml, hown, hts⟩ hM hS hP hD (IPn.app (mc := 0) (ms := 0) (IPn.app (mc := 0) (ms := 0) hcL [w_o tc bo fo]) (w_md tc b (bs 0) (bs 1) (bs 2) (bs 3) (bs 4) (bs 5) th g ga sv n sl iz u ln)) gL_law_X6_weight rfl (by decide +kernel) ⟨Nat.le_trans (Nat.succ_le_succ hfx) (by decide), Nat.le_trans (Nat.add_le_add_left hlx _) (by decide)⟩ rfl (va_recv hM.1 hP (ci := 5) (q0 := 0) rfl rfl) rfl hl.1 rfl (Nat.le_of_ble_eq_true rfl) dL_law_527 ⟨by show _ ≤ 601024; omega, by show _ ≤ 7293033; omega⟩ (fun H locs hP hD hS => ?_)
  refine W.eq (g2 := F0 m 530 ls [.int r9]) rfl ?_
  refine lv_aload_n hx hb dL_law_530 rfl (lv_at hl 2 rfl) ?_
  refine ipF_V (C := RX7) (n := 0) ⟨hx, hb, hml, hown, hts⟩ hM hS hP hD (IPn.appl (mc := 0) (ms := 0) hcM ((CW tc x0 as tr' qs' g' trc' qsc' gc' od' n' tri' qsi' gi' fc' hc' v1' v2' v3' v4' trs' qss' gs' iz' u' ln') ++ [w_o tc bo fo])) gL_law_X7_weight rfl (by decide +kernel) ⟨Nat.le_trans (Nat.succ_le_succ hfr) (by decide), Nat.le_trans (Nat.add_le_add_left hlo _) (by decide)⟩ rfl (va_recv hM.1 (va_P_r hP) (ci := 6) (q0 := 0) rfl rfl) rfl hl.1 rfl (Nat.le_of_ble_eq_true rfl) dL_law_531 ⟨by show _ ≤ 601024; omega, by show _ ≤ 7293033; omega⟩ (fun H locs hP hD hS => ?_)
  refine W.eq (g2 := F0 m 534 ls [.int r9, .int r9]) rfl ?_
  refine lv_icmp_eq (tgt := 1980) hx hb dL_law_534 (by decide) (fun _ => ?_) (fun h9 => absurd rfl h9)
  exact W.widen (Nat.le_succ _) (Nat.le_add_right _ _) (kk tr' qs' g' trc' qsc' gc' od' n' tri' qsi' gi' fc' hc' v1' v2' v3' v4' trs' qss' gs' iz' u' ln' th' ga' sv' sl' fo hinv' _ _ hP hD hS _ (lv_sub hl [0, 1, 2, 3, 4] rfl))
set_option maxHeartbeats 4000000 in
set_option maxRecDepth 100000 in
theorem a_count {p : Program} {e : Env} {s : State} {m : MethodId} {below : List Frame} {meth : Method} {c : Code} (l : Launch) (D : va_G) (tc : Nat → ClassId) (zb x0 : Nat) (as : Nat → Nat) (b : Nat) (bs : Nat → Nat) (bo sb L : Nat) (xs : Nat → Int32) (i cells slots : Nat) (C0 : lw_C p s m meth c l D tc zb sb L xs) (kk : lw_K p l e s m below meth c D tc x0 as b bs bo sb i (cells + 1) (slots + 6)) (hi : i + 6 ≤ L) (hce : cells + 1 ≤ 601024) (hsl : slots + 6 ≤ 7293033) (tr : Nat → Int32) (qs : Nat → Int32) (g : Nat → Nat) (trc : Nat → Int32) (qsc : Nat → Int32) (gc : Nat → Nat) (od : Nat) (n : Nat) (tri : Nat → Nat → Int32) (qsi : Nat → Nat → Int32) (gi : Nat → Nat → Nat) (fc : Nat → Int32) (hc : Nat → Int32) (v1 : Int32) (v2 : Int32) (v3 : Int32) (v4 : Int32) (trs : Nat → Nat → Int32) (qss : Nat → Nat → Int32) (gs : Nat → Nat → Nat) (iz : Nat → Bool) (u : Nat → Nat) (ln : Nat) (th : Int32) (ga : Nat → Nat) (sv : Nat → Nat) (sl : Nat → Nat) (fo : Nat → Int64) (hinv : INV tr qs g od n tri qsi gi trs qss gs iz u ln sv sl) (H : Heap) (locs : List Loc) (hP : va_P D vwCl (((CW tc x0 as tr qs g trc qsc gc od n tri qsi gi fc hc v1 v2 v3 v4 trs qss gs iz u ln) ++ [w_o tc bo fo]) ++ (w_md tc b (bs 0) (bs 1) (bs 2) (bs 3) (bs 4) (bs 5) th g ga sv n sl iz u ln)) H) (hD : va_D (fun q => s.heap.size ≤ q) (((CW tc x0 as tr qs g trc qsc gc od n tri qsi gi fc hc v1 v2 v3 v4 trs qss gs iz u ln) ++ [w_o tc bo fo]) ++ (w_md tc b (bs 0) (bs 1) (bs 2) (bs 3) (bs 4) (bs 5) th g ga sv n sl iz u ln))) (hS : va_S (fun q => s.heap.size ≤ q) s.heap H locs) (ls : Array Slot) (hl : lv_has ls 7 [(4, .int (nI i)), (3, .ref bo), (2, .ref b), (1, .ref x0), (0, .ref sb)]) : W p l e room_1 s m #[Value.ref sb] below meth c H locs cells slots (lw_Z below #[Value.ref sb] s) (F0 m 539 ls []) := by
  obtain ⟨hx, hb, hml, hown, hts, hM, hX, hbl, hfl, hrt, hlk, hL⟩ := id C0
  have hbA : ¬ (fun q : Nat => s.heap.size ≤ q) sb := Nat.not_le.mpr hbl
  have hL31 : L < 2 ^ 31 := Nat.lt_of_le_of_lt hL (by decide)
  obtain ⟨tr', qs', g', trc', qsc', gc', od', n', tri', qsi', gi', fc', hc', v1', v2', v3', v4', trs', qss', gs', iz', u', ln', th', ga', sv', sl', fo', k, bb, fr, lo, hk3, hfr, hlo, hcL, hcM, hth, hval, hinv'⟩ := s_count l hfl D tc zb x0 as b bs bo tr qs g trc qsc gc od n tri qsi gi fc hc v1 v2 v3 v4 trs qss gs iz u ln th ga sv sl fo hinv (xs (i + 1))
  refine lv_aload_n hx hb dL_law_539 rfl (lv_at hl 3 rfl) ?_
  refine lv_aload_n hx hb dL_law_540 rfl (lv_at hl 4 rfl) ?_
  refine lv_iload hx hb dL_law_541 (lv_at hl 0 rfl) ?_
  refine lv_iconst (v := nI 1) hx hb dL_law_543 (by decide) ?_
  refine ln_iadd hx hb dL_law_544 ?_
  refine lx_sld hx hb hX hbl hbA hS (by omega) hL31 dL_law_545 ?_
  refine lv_aload_n hx hb dL_law_546 rfl (lv_at hl 1 rfl) ?_
  refine ipF_SW (n := 3) ⟨hx, hb, hml, hown, hts⟩ hM hS hP hD (IPn.app hcL (w_md tc b (bs 0) (bs 1) (bs 2) (bs 3) (bs 4) (bs 5) th g ga sv n sl iz u ln)) gL_law_L_count rfl (by decide +kernel) ⟨Nat.le_of_ble_eq_true rfl, Nat.le_of_ble_eq_true rfl⟩ rfl rfl hl.1 rfl (Nat.le_of_ble_eq_true rfl) dL_law_547 ⟨by show _ ≤ 601024; omega, by show _ ≤ 7293033; omega⟩ (fun H locs hP hD hS => ?_)
  refine W.eq (g2 := F0 m 550 ls [.int (nI k)]) rfl ?_
  refine lv_istore (lv' := [(5, .int (nI k)), (4, .int (nI i)), (3, .ref bo), (2, .ref b), (1, .ref x0), (0, .ref sb)]) hx hb dL_law_550 hl (by decide) rfl (fun ls hl => ?_)
  refine lv_aload_n hx hb dL_law_552 rfl (lv_at hl 3 rfl) ?_
  refine lv_aload_n hx hb dL_law_553 rfl (lv_at hl 5 rfl) ?_
  refine lv_iload hx hb dL_law_554 (lv_at hl 1 rfl) ?_
  refine lv_iconst (v := nI 1) hx hb dL_law_556 (by decide) ?_
  refine ln_iadd hx hb dL_law_557 ?_
  refine lx_sld hx hb hX hbl hbA hS (by omega) hL31 dL_law_558 ?_
  refine ipF_V (C := RX7) (n := 1) ⟨hx, hb, hml, hown, hts⟩ hM hS hP hD (IPn.appl (mc := 0) (ms := 0) hcM ((CW tc x0 as tr' qs' g' trc' qsc' gc' od' n' tri' qsi' gi' fc' hc' v1' v2' v3' v4' trs' qss' gs' iz' u' ln') ++ [w_o tc bo fo'])) gL_law_X7_count rfl (by decide +kernel) ⟨Nat.le_trans (Nat.succ_le_succ hfr) (by decide), Nat.le_trans (Nat.add_le_add_left hlo _) (by decide)⟩ rfl (va_recv hM.1 (va_P_r hP) (ci := 6) (q0 := 0) rfl rfl) rfl hl.1 rfl (Nat.le_of_ble_eq_true rfl) dL_law_559 ⟨by show _ ≤ 601024; omega, by show _ ≤ 7293033; omega⟩ (fun H locs hP hD hS => ?_)
  refine W.eq (g2 := F0 m 562 ls [.int bb]) rfl ?_
  refine lv_istore (lv' := [(6, .int bb), (5, .int (nI k)), (4, .int (nI i)), (3, .ref bo), (2, .ref b), (1, .ref x0), (0, .ref sb)]) hx hb dL_law_562 hl (by decide) rfl (fun ls hl => ?_)
  refine lv_aload_n hx hb dL_law_564 rfl (lv_at hl 4 rfl) ?_
  refine ro_V (C := RX7) (n := 0) ⟨hx, hb, hml, hown, hts⟩ hM hS (va_P_r hP) (RO.up (c7_thrown l D tc zb b th' (fun k9 => match k9 with | 1 => .ref (bs 0) | 2 => .ref (bs 1) | 3 => .ref (bs 2) | 4 => .int (nI n') | 5 => .ref (bs 3) | 6 => .ref (bs 4) | 7 => .ref (bs 5) | 8 => .int (nI ln') | _ => .null)) [0] rfl) gL_law_X7_thrown rfl (by decide +kernel) ⟨Nat.le_of_ble_eq_true rfl, Nat.le_of_ble_eq_true rfl⟩ [0, 1, 2, 3, 4, 5, 6] rfl (va_recv hM.1 (va_P_r hP) (ci := 6) (q0 := 0) rfl rfl) rfl hl.1 rfl (Nat.le_of_ble_eq_true rfl) dL_law_565 ⟨by show _ ≤ 601024; omega, by show _ ≤ 7293033; omega⟩ ?_
  refine lv_iload hx hb dL_law_568 (lv_at hl 1 rfl) ?_
  refine lv_icmp_eq (tgt := 575) hx hb dL_law_570 (by decide) (fun _ => ?_) (fun h9 => absurd hth h9)
  refine lv_iload hx hb dL_law_575 (lv_at hl 1 rfl) ?_
  refine ln_if_ne (tgt := 592) hx hb dL_law_577 (by decide) (Nat.lt_trans hk3 (by decide)) (fun hk9 => ?_) (fun hk9 => ?_)
  · refine lv_goto (tgt := 1980) hx hb dL_law_592 (by decide) ?_
    exact kk tr' qs' g' trc' qsc' gc' od' n' tri' qsi' gi' fc' hc' v1' v2' v3' v4' trs' qss' gs' iz' u' ln' th' ga' sv' sl' fo' hinv' _ _ hP hD hS _ (lv_sub hl [2, 3, 4, 5, 6] rfl)
  · refine lv_aload_n hx hb dL_law_580 rfl (lv_at hl 3 rfl) ?_
    refine lv_iconst (v := nI 0) hx hb dL_law_581 (by decide) ?_
    refine lx_lald hx hb hM.1 hP dL_law_582 ?_
    refine lv_iload hx hb dL_law_583 (lv_at hl 0 rfl) ?_
    refine lv_i2l (v := (bb).toInt64) hx hb dL_law_585 rfl ?_
    refine W.lcmp hx hb dL_law_586 ?_
    refine ln_lif_eq (tgt := 592) hx hb dL_law_587 (by decide) (fun _ => ?_) (fun h9 => absurd (hval hk9) h9)
    refine lv_goto (tgt := 1980) hx hb dL_law_592 (by decide) ?_
    exact kk tr' qs' g' trc' qsc' gc' od' n' tri' qsi' gi' fc' hc' v1' v2' v3' v4' trs' qss' gs' iz' u' ln' th' ga' sv' sl' fo' hinv' _ _ hP hD hS _ (lv_sub hl [2, 3, 4, 5, 6] rfl)
set_option maxHeartbeats 4000000 in
set_option maxRecDepth 100000 in
theorem a_cost {p : Program} {e : Env} {s : State} {m : MethodId} {below : List Frame} {meth : Method} {c : Code} (l : Launch) (D : va_G) (tc : Nat → ClassId) (zb x0 : Nat) (as : Nat → Nat) (b : Nat) (bs : Nat → Nat) (bo sb L : Nat) (xs : Nat → Int32) (i cells slots : Nat) (C0 : lw_C p s m meth c l D tc zb sb L xs) (kk : lw_K p l e s m below meth c D tc x0 as b bs bo sb i (cells + 1) (slots + 6)) (hi : i + 6 ≤ L) (hce : cells + 1 ≤ 601024) (hsl : slots + 6 ≤ 7293033) (tr : Nat → Int32) (qs : Nat → Int32) (g : Nat → Nat) (trc : Nat → Int32) (qsc : Nat → Int32) (gc : Nat → Nat) (od : Nat) (n : Nat) (tri : Nat → Nat → Int32) (qsi : Nat → Nat → Int32) (gi : Nat → Nat → Nat) (fc : Nat → Int32) (hc : Nat → Int32) (v1 : Int32) (v2 : Int32) (v3 : Int32) (v4 : Int32) (trs : Nat → Nat → Int32) (qss : Nat → Nat → Int32) (gs : Nat → Nat → Nat) (iz : Nat → Bool) (u : Nat → Nat) (ln : Nat) (th : Int32) (ga : Nat → Nat) (sv : Nat → Nat) (sl : Nat → Nat) (fo : Nat → Int64) (hinv : INV tr qs g od n tri qsi gi trs qss gs iz u ln sv sl) (H : Heap) (locs : List Loc) (hP : va_P D vwCl (((CW tc x0 as tr qs g trc qsc gc od n tri qsi gi fc hc v1 v2 v3 v4 trs qss gs iz u ln) ++ [w_o tc bo fo]) ++ (w_md tc b (bs 0) (bs 1) (bs 2) (bs 3) (bs 4) (bs 5) th g ga sv n sl iz u ln)) H) (hD : va_D (fun q => s.heap.size ≤ q) (((CW tc x0 as tr qs g trc qsc gc od n tri qsi gi fc hc v1 v2 v3 v4 trs qss gs iz u ln) ++ [w_o tc bo fo]) ++ (w_md tc b (bs 0) (bs 1) (bs 2) (bs 3) (bs 4) (bs 5) th g ga sv n sl iz u ln))) (hS : va_S (fun q => s.heap.size ≤ q) s.heap H locs) (ls : Array Slot) (hl : lv_has ls 7 [(4, .int (nI i)), (3, .ref bo), (2, .ref b), (1, .ref x0), (0, .ref sb)]) : W p l e room_1 s m #[Value.ref sb] below meth c H locs cells slots (lw_Z below #[Value.ref sb] s) (F0 m 595 ls []) := by
  obtain ⟨hx, hb, hml, hown, hts, hM, hX, hbl, hfl, hrt, hlk, hL⟩ := id C0
  have hbA : ¬ (fun q : Nat => s.heap.size ≤ q) sb := Nat.not_le.mpr hbl
  have hL31 : L < 2 ^ 31 := Nat.lt_of_le_of_lt hL (by decide)
  obtain ⟨tr', qs', g', trc', qsc', gc', od', n', tri', qsi', gi', fc', hc', v1', v2', v3', v4', trs', qss', gs', iz', u', ln', th', ga', sv', sl', fo', k, bb, fr, lo, hk3, hfr, hlo, hcL, hcM, hth, hval, hinv'⟩ := s_cost l hfl D tc zb x0 as b bs bo tr qs g trc qsc gc od n tri qsi gi fc hc v1 v2 v3 v4 trs qss gs iz u ln th ga sv sl fo hinv (xs (i + 1)) (xs (i + 2))
  refine lv_aload_n hx hb dL_law_595 rfl (lv_at hl 3 rfl) ?_
  refine lv_aload_n hx hb dL_law_596 rfl (lv_at hl 4 rfl) ?_
  refine lv_iload hx hb dL_law_597 (lv_at hl 0 rfl) ?_
  refine lv_iconst (v := nI 1) hx hb dL_law_599 (by decide) ?_
  refine ln_iadd hx hb dL_law_600 ?_
  refine lx_sld hx hb hX hbl hbA hS (by omega) hL31 dL_law_601 ?_
  refine lv_aload_n hx hb dL_law_602 rfl (lv_at hl 4 rfl) ?_
  refine lv_iload hx hb dL_law_603 (lv_at hl 0 rfl) ?_
  refine lv_iconst (v := nI 2) hx hb dL_law_605 (by decide) ?_
  refine ln_iadd hx hb dL_law_606 ?_
  refine lx_sld hx hb hX hbl hbA hS (by omega) hL31 dL_law_607 ?_
  refine lv_aload_n hx hb dL_law_608 rfl (lv_at hl 1 rfl) ?_
  refine ipF_SW (n := 4) ⟨hx, hb, hml, hown, hts⟩ hM hS hP hD (IPn.app hcL (w_md tc b (bs 0) (bs 1) (bs 2) (bs 3) (bs 4) (bs 5) th g ga sv n sl iz u ln)) gL_law_L_cost rfl (by decide +kernel) ⟨Nat.le_of_ble_eq_true rfl, Nat.le_of_ble_eq_true rfl⟩ rfl rfl hl.1 rfl (Nat.le_of_ble_eq_true rfl) dL_law_609 ⟨by show _ ≤ 601024; omega, by show _ ≤ 7293033; omega⟩ (fun H locs hP hD hS => ?_)
  refine W.eq (g2 := F0 m 612 ls [.int (nI k)]) rfl ?_
  refine lv_istore (lv' := [(5, .int (nI k)), (4, .int (nI i)), (3, .ref bo), (2, .ref b), (1, .ref x0), (0, .ref sb)]) hx hb dL_law_612 hl (by decide) rfl (fun ls hl => ?_)
  refine lv_aload_n hx hb dL_law_614 rfl (lv_at hl 3 rfl) ?_
  refine lv_aload_n hx hb dL_law_615 rfl (lv_at hl 5 rfl) ?_
  refine lv_iload hx hb dL_law_616 (lv_at hl 1 rfl) ?_
  refine lv_iconst (v := nI 1) hx hb dL_law_618 (by decide) ?_
  refine ln_iadd hx hb dL_law_619 ?_
  refine lx_sld hx hb hX hbl hbA hS (by omega) hL31 dL_law_620 ?_
  refine lv_aload_n hx hb dL_law_621 rfl (lv_at hl 5 rfl) ?_
  refine lv_iload hx hb dL_law_622 (lv_at hl 1 rfl) ?_
  refine lv_iconst (v := nI 2) hx hb dL_law_624 (by decide) ?_
  refine ln_iadd hx hb dL_law_625 ?_
  refine lx_sld hx hb hX hbl hbA hS (by omega) hL31 dL_law_626 ?_
  refine ipF_V (C := RX7) (n := 2) ⟨hx, hb, hml, hown, hts⟩ hM hS hP hD (IPn.appl (mc := 0) (ms := 0) hcM ((CW tc x0 as tr' qs' g' trc' qsc' gc' od' n' tri' qsi' gi' fc' hc' v1' v2' v3' v4' trs' qss' gs' iz' u' ln') ++ [w_o tc bo fo'])) gL_law_X7_cost rfl (by decide +kernel) ⟨Nat.le_trans (Nat.succ_le_succ hfr) (by decide), Nat.le_trans (Nat.add_le_add_left hlo _) (by decide)⟩ rfl (va_recv hM.1 (va_P_r hP) (ci := 6) (q0 := 0) rfl rfl) rfl hl.1 rfl (Nat.le_of_ble_eq_true rfl) dL_law_627 ⟨by show _ ≤ 601024; omega, by show _ ≤ 7293033; omega⟩ (fun H locs hP hD hS => ?_)
  refine W.eq (g2 := F0 m 630 ls [.int bb]) rfl ?_
  refine lv_istore (lv' := [(6, .int bb), (5, .int (nI k)), (4, .int (nI i)), (3, .ref bo), (2, .ref b), (1, .ref x0), (0, .ref sb)]) hx hb dL_law_630 hl (by decide) rfl (fun ls hl => ?_)
  refine lv_aload_n hx hb dL_law_632 rfl (lv_at hl 4 rfl) ?_
  refine ro_V (C := RX7) (n := 0) ⟨hx, hb, hml, hown, hts⟩ hM hS (va_P_r hP) (RO.up (c7_thrown l D tc zb b th' (fun k9 => match k9 with | 1 => .ref (bs 0) | 2 => .ref (bs 1) | 3 => .ref (bs 2) | 4 => .int (nI n') | 5 => .ref (bs 3) | 6 => .ref (bs 4) | 7 => .ref (bs 5) | 8 => .int (nI ln') | _ => .null)) [0] rfl) gL_law_X7_thrown rfl (by decide +kernel) ⟨Nat.le_of_ble_eq_true rfl, Nat.le_of_ble_eq_true rfl⟩ [0, 1, 2, 3, 4, 5, 6] rfl (va_recv hM.1 (va_P_r hP) (ci := 6) (q0 := 0) rfl rfl) rfl hl.1 rfl (Nat.le_of_ble_eq_true rfl) dL_law_633 ⟨by show _ ≤ 601024; omega, by show _ ≤ 7293033; omega⟩ ?_
  refine lv_iload hx hb dL_law_636 (lv_at hl 1 rfl) ?_
  refine lv_icmp_eq (tgt := 643) hx hb dL_law_638 (by decide) (fun _ => ?_) (fun h9 => absurd hth h9)
  refine lv_iload hx hb dL_law_643 (lv_at hl 1 rfl) ?_
  refine ln_if_ne (tgt := 660) hx hb dL_law_645 (by decide) (Nat.lt_trans hk3 (by decide)) (fun hk9 => ?_) (fun hk9 => ?_)
  · refine lv_goto (tgt := 1980) hx hb dL_law_660 (by decide) ?_
    exact kk tr' qs' g' trc' qsc' gc' od' n' tri' qsi' gi' fc' hc' v1' v2' v3' v4' trs' qss' gs' iz' u' ln' th' ga' sv' sl' fo' hinv' _ _ hP hD hS _ (lv_sub hl [2, 3, 4, 5, 6] rfl)
  · refine lv_aload_n hx hb dL_law_648 rfl (lv_at hl 3 rfl) ?_
    refine lv_iconst (v := nI 0) hx hb dL_law_649 (by decide) ?_
    refine lx_lald hx hb hM.1 hP dL_law_650 ?_
    refine lv_iload hx hb dL_law_651 (lv_at hl 0 rfl) ?_
    refine lv_i2l (v := (bb).toInt64) hx hb dL_law_653 rfl ?_
    refine W.lcmp hx hb dL_law_654 ?_
    refine ln_lif_eq (tgt := 660) hx hb dL_law_655 (by decide) (fun _ => ?_) (fun h9 => absurd (hval hk9) h9)
    refine lv_goto (tgt := 1980) hx hb dL_law_660 (by decide) ?_
    exact kk tr' qs' g' trc' qsc' gc' od' n' tri' qsi' gi' fc' hc' v1' v2' v3' v4' trs' qss' gs' iz' u' ln' th' ga' sv' sl' fo' hinv' _ _ hP hD hS _ (lv_sub hl [2, 3, 4, 5, 6] rfl)
set_option maxHeartbeats 4000000 in
set_option maxRecDepth 100000 in
theorem a_by {p : Program} {e : Env} {s : State} {m : MethodId} {below : List Frame} {meth : Method} {c : Code} (l : Launch) (D : va_G) (tc : Nat → ClassId) (zb x0 : Nat) (as : Nat → Nat) (b : Nat) (bs : Nat → Nat) (bo sb L : Nat) (xs : Nat → Int32) (i cells slots : Nat) (C0 : lw_C p s m meth c l D tc zb sb L xs) (kk : lw_K p l e s m below meth c D tc x0 as b bs bo sb i (cells + 1) (slots + 6)) (hi : i + 6 ≤ L) (hce : cells + 1 ≤ 601024) (hsl : slots + 6 ≤ 7293033) (tr : Nat → Int32) (qs : Nat → Int32) (g : Nat → Nat) (trc : Nat → Int32) (qsc : Nat → Int32) (gc : Nat → Nat) (od : Nat) (n : Nat) (tri : Nat → Nat → Int32) (qsi : Nat → Nat → Int32) (gi : Nat → Nat → Nat) (fc : Nat → Int32) (hc : Nat → Int32) (v1 : Int32) (v2 : Int32) (v3 : Int32) (v4 : Int32) (trs : Nat → Nat → Int32) (qss : Nat → Nat → Int32) (gs : Nat → Nat → Nat) (iz : Nat → Bool) (u : Nat → Nat) (ln : Nat) (th : Int32) (ga : Nat → Nat) (sv : Nat → Nat) (sl : Nat → Nat) (fo : Nat → Int64) (hinv : INV tr qs g od n tri qsi gi trs qss gs iz u ln sv sl) (H : Heap) (locs : List Loc) (hP : va_P D vwCl (((CW tc x0 as tr qs g trc qsc gc od n tri qsi gi fc hc v1 v2 v3 v4 trs qss gs iz u ln) ++ [w_o tc bo fo]) ++ (w_md tc b (bs 0) (bs 1) (bs 2) (bs 3) (bs 4) (bs 5) th g ga sv n sl iz u ln)) H) (hD : va_D (fun q => s.heap.size ≤ q) (((CW tc x0 as tr qs g trc qsc gc od n tri qsi gi fc hc v1 v2 v3 v4 trs qss gs iz u ln) ++ [w_o tc bo fo]) ++ (w_md tc b (bs 0) (bs 1) (bs 2) (bs 3) (bs 4) (bs 5) th g ga sv n sl iz u ln))) (hS : va_S (fun q => s.heap.size ≤ q) s.heap H locs) (ls : Array Slot) (hl : lv_has ls 7 [(4, .int (nI i)), (3, .ref bo), (2, .ref b), (1, .ref x0), (0, .ref sb)]) : W p l e room_1 s m #[Value.ref sb] below meth c H locs cells slots (lw_Z below #[Value.ref sb] s) (F0 m 663 ls []) := by
  obtain ⟨hx, hb, hml, hown, hts, hM, hX, hbl, hfl, hrt, hlk, hL⟩ := id C0
  have hbA : ¬ (fun q : Nat => s.heap.size ≤ q) sb := Nat.not_le.mpr hbl
  have hL31 : L < 2 ^ 31 := Nat.lt_of_le_of_lt hL (by decide)
  obtain ⟨tr', qs', g', trc', qsc', gc', od', n', tri', qsi', gi', fc', hc', v1', v2', v3', v4', trs', qss', gs', iz', u', ln', th', ga', sv', sl', fo', k, bb, fr, lo, hk3, hfr, hlo, hcL, hcM, hth, hval, hinv'⟩ := s_by l hfl D tc zb x0 as b bs bo tr qs g trc qsc gc od n tri qsi gi fc hc v1 v2 v3 v4 trs qss gs iz u ln th ga sv sl fo hinv (xs (i + 1))
  refine lv_aload_n hx hb dL_law_663 rfl (lv_at hl 3 rfl) ?_
  refine lv_aload_n hx hb dL_law_664 rfl (lv_at hl 4 rfl) ?_
  refine lv_iload hx hb dL_law_665 (lv_at hl 0 rfl) ?_
  refine lv_iconst (v := nI 1) hx hb dL_law_667 (by decide) ?_
  refine ln_iadd hx hb dL_law_668 ?_
  refine lx_sld hx hb hX hbl hbA hS (by omega) hL31 dL_law_669 ?_
  refine lv_aload_n hx hb dL_law_670 rfl (lv_at hl 1 rfl) ?_
  refine ipF_SW (n := 3) ⟨hx, hb, hml, hown, hts⟩ hM hS hP hD (IPn.app hcL (w_md tc b (bs 0) (bs 1) (bs 2) (bs 3) (bs 4) (bs 5) th g ga sv n sl iz u ln)) gL_law_L_by rfl (by decide +kernel) ⟨Nat.le_of_ble_eq_true rfl, Nat.le_of_ble_eq_true rfl⟩ rfl rfl hl.1 rfl (Nat.le_of_ble_eq_true rfl) dL_law_671 ⟨by show _ ≤ 601024; omega, by show _ ≤ 7293033; omega⟩ (fun H locs hP hD hS => ?_)
  refine W.eq (g2 := F0 m 674 ls [.int (nI k)]) rfl ?_
  refine lv_istore (lv' := [(5, .int (nI k)), (4, .int (nI i)), (3, .ref bo), (2, .ref b), (1, .ref x0), (0, .ref sb)]) hx hb dL_law_674 hl (by decide) rfl (fun ls hl => ?_)
  refine lv_aload_n hx hb dL_law_676 rfl (lv_at hl 3 rfl) ?_
  refine lv_aload_n hx hb dL_law_677 rfl (lv_at hl 5 rfl) ?_
  refine lv_iload hx hb dL_law_678 (lv_at hl 1 rfl) ?_
  refine lv_iconst (v := nI 1) hx hb dL_law_680 (by decide) ?_
  refine ln_iadd hx hb dL_law_681 ?_
  refine lx_sld hx hb hX hbl hbA hS (by omega) hL31 dL_law_682 ?_
  refine ipF_V (C := RX7) (n := 1) ⟨hx, hb, hml, hown, hts⟩ hM hS hP hD (IPn.appl (mc := 0) (ms := 0) hcM ((CW tc x0 as tr' qs' g' trc' qsc' gc' od' n' tri' qsi' gi' fc' hc' v1' v2' v3' v4' trs' qss' gs' iz' u' ln') ++ [w_o tc bo fo'])) gL_law_X7_by rfl (by decide +kernel) ⟨Nat.le_trans (Nat.succ_le_succ hfr) (by decide), Nat.le_trans (Nat.add_le_add_left hlo _) (by decide)⟩ rfl (va_recv hM.1 (va_P_r hP) (ci := 6) (q0 := 0) rfl rfl) rfl hl.1 rfl (Nat.le_of_ble_eq_true rfl) dL_law_683 ⟨by show _ ≤ 601024; omega, by show _ ≤ 7293033; omega⟩ (fun H locs hP hD hS => ?_)
  refine W.eq (g2 := F0 m 686 ls [.int bb]) rfl ?_
  refine lv_istore (lv' := [(6, .int bb), (5, .int (nI k)), (4, .int (nI i)), (3, .ref bo), (2, .ref b), (1, .ref x0), (0, .ref sb)]) hx hb dL_law_686 hl (by decide) rfl (fun ls hl => ?_)
  refine lv_aload_n hx hb dL_law_688 rfl (lv_at hl 4 rfl) ?_
  refine ro_V (C := RX7) (n := 0) ⟨hx, hb, hml, hown, hts⟩ hM hS (va_P_r hP) (RO.up (c7_thrown l D tc zb b th' (fun k9 => match k9 with | 1 => .ref (bs 0) | 2 => .ref (bs 1) | 3 => .ref (bs 2) | 4 => .int (nI n') | 5 => .ref (bs 3) | 6 => .ref (bs 4) | 7 => .ref (bs 5) | 8 => .int (nI ln') | _ => .null)) [0] rfl) gL_law_X7_thrown rfl (by decide +kernel) ⟨Nat.le_of_ble_eq_true rfl, Nat.le_of_ble_eq_true rfl⟩ [0, 1, 2, 3, 4, 5, 6] rfl (va_recv hM.1 (va_P_r hP) (ci := 6) (q0 := 0) rfl rfl) rfl hl.1 rfl (Nat.le_of_ble_eq_true rfl) dL_law_689 ⟨by show _ ≤ 601024; omega, by show _ ≤ 7293033; omega⟩ ?_
  refine lv_iload hx hb dL_law_692 (lv_at hl 1 rfl) ?_
  refine lv_icmp_eq (tgt := 699) hx hb dL_law_694 (by decide) (fun _ => ?_) (fun h9 => absurd hth h9)
  refine lv_iload hx hb dL_law_699 (lv_at hl 1 rfl) ?_
  refine ln_if_ne (tgt := 716) hx hb dL_law_701 (by decide) (Nat.lt_trans hk3 (by decide)) (fun hk9 => ?_) (fun hk9 => ?_)
  · refine lv_goto (tgt := 1980) hx hb dL_law_716 (by decide) ?_
    exact kk tr' qs' g' trc' qsc' gc' od' n' tri' qsi' gi' fc' hc' v1' v2' v3' v4' trs' qss' gs' iz' u' ln' th' ga' sv' sl' fo' hinv' _ _ hP hD hS _ (lv_sub hl [2, 3, 4, 5, 6] rfl)
  · refine lv_aload_n hx hb dL_law_704 rfl (lv_at hl 3 rfl) ?_
    refine lv_iconst (v := nI 0) hx hb dL_law_705 (by decide) ?_
    refine lx_lald hx hb hM.1 hP dL_law_706 ?_
    refine lv_iload hx hb dL_law_707 (lv_at hl 0 rfl) ?_
    refine lv_i2l (v := (bb).toInt64) hx hb dL_law_709 rfl ?_
    refine W.lcmp hx hb dL_law_710 ?_
    refine ln_lif_eq (tgt := 716) hx hb dL_law_711 (by decide) (fun _ => ?_) (fun h9 => absurd (hval hk9) h9)
    refine lv_goto (tgt := 1980) hx hb dL_law_716 (by decide) ?_
    exact kk tr' qs' g' trc' qsc' gc' od' n' tri' qsi' gi' fc' hc' v1' v2' v3' v4' trs' qss' gs' iz' u' ln' th' ga' sv' sl' fo' hinv' _ _ hP hD hS _ (lv_sub hl [2, 3, 4, 5, 6] rfl)
set_option maxHeartbeats 4000000 in
set_option maxRecDepth 100000 in
theorem a_reach {p : Program} {e : Env} {s : State} {m : MethodId} {below : List Frame} {meth : Method} {c : Code} (l : Launch) (D : va_G) (tc : Nat → ClassId) (zb x0 : Nat) (as : Nat → Nat) (b : Nat) (bs : Nat → Nat) (bo sb L : Nat) (xs : Nat → Int32) (i cells slots : Nat) (C0 : lw_C p s m meth c l D tc zb sb L xs) (kk : lw_K p l e s m below meth c D tc x0 as b bs bo sb i (cells + 1) (slots + 6)) (hi : i + 6 ≤ L) (hce : cells + 1 ≤ 601024) (hsl : slots + 6 ≤ 7293033) (tr : Nat → Int32) (qs : Nat → Int32) (g : Nat → Nat) (trc : Nat → Int32) (qsc : Nat → Int32) (gc : Nat → Nat) (od : Nat) (n : Nat) (tri : Nat → Nat → Int32) (qsi : Nat → Nat → Int32) (gi : Nat → Nat → Nat) (fc : Nat → Int32) (hc : Nat → Int32) (v1 : Int32) (v2 : Int32) (v3 : Int32) (v4 : Int32) (trs : Nat → Nat → Int32) (qss : Nat → Nat → Int32) (gs : Nat → Nat → Nat) (iz : Nat → Bool) (u : Nat → Nat) (ln : Nat) (th : Int32) (ga : Nat → Nat) (sv : Nat → Nat) (sl : Nat → Nat) (fo : Nat → Int64) (hinv : INV tr qs g od n tri qsi gi trs qss gs iz u ln sv sl) (H : Heap) (locs : List Loc) (hP : va_P D vwCl (((CW tc x0 as tr qs g trc qsc gc od n tri qsi gi fc hc v1 v2 v3 v4 trs qss gs iz u ln) ++ [w_o tc bo fo]) ++ (w_md tc b (bs 0) (bs 1) (bs 2) (bs 3) (bs 4) (bs 5) th g ga sv n sl iz u ln)) H) (hD : va_D (fun q => s.heap.size ≤ q) (((CW tc x0 as tr qs g trc qsc gc od n tri qsi gi fc hc v1 v2 v3 v4 trs qss gs iz u ln) ++ [w_o tc bo fo]) ++ (w_md tc b (bs 0) (bs 1) (bs 2) (bs 3) (bs 4) (bs 5) th g ga sv n sl iz u ln))) (hS : va_S (fun q => s.heap.size ≤ q) s.heap H locs) (ls : Array Slot) (hl : lv_has ls 7 [(4, .int (nI i)), (3, .ref bo), (2, .ref b), (1, .ref x0), (0, .ref sb)]) : W p l e room_1 s m #[Value.ref sb] below meth c H locs cells slots (lw_Z below #[Value.ref sb] s) (F0 m 719 ls []) := by
  obtain ⟨hx, hb, hml, hown, hts, hM, hX, hbl, hfl, hrt, hlk, hL⟩ := id C0
  have hbA : ¬ (fun q : Nat => s.heap.size ≤ q) sb := Nat.not_le.mpr hbl
  have hL31 : L < 2 ^ 31 := Nat.lt_of_le_of_lt hL (by decide)
  obtain ⟨tr', qs', g', trc', qsc', gc', od', n', tri', qsi', gi', fc', hc', v1', v2', v3', v4', trs', qss', gs', iz', u', ln', th', ga', sv', sl', fo', k, bb, fr, lo, hk3, hfr, hlo, hcL, hcM, hth, hval, hinv'⟩ := s_reach l hfl D tc zb x0 as b bs bo tr qs g trc qsc gc od n tri qsi gi fc hc v1 v2 v3 v4 trs qss gs iz u ln th ga sv sl fo hinv (xs (i + 1)) (xs (i + 2))
  refine lv_aload_n hx hb dL_law_719 rfl (lv_at hl 3 rfl) ?_
  refine lv_aload_n hx hb dL_law_720 rfl (lv_at hl 4 rfl) ?_
  refine lv_iload hx hb dL_law_721 (lv_at hl 0 rfl) ?_
  refine lv_iconst (v := nI 1) hx hb dL_law_723 (by decide) ?_
  refine ln_iadd hx hb dL_law_724 ?_
  refine lx_sld hx hb hX hbl hbA hS (by omega) hL31 dL_law_725 ?_
  refine lv_aload_n hx hb dL_law_726 rfl (lv_at hl 4 rfl) ?_
  refine lv_iload hx hb dL_law_727 (lv_at hl 0 rfl) ?_
  refine lv_iconst (v := nI 2) hx hb dL_law_729 (by decide) ?_
  refine ln_iadd hx hb dL_law_730 ?_
  refine lx_sld hx hb hX hbl hbA hS (by omega) hL31 dL_law_731 ?_
  refine lv_aload_n hx hb dL_law_732 rfl (lv_at hl 1 rfl) ?_
  refine ipF_SW (n := 4) ⟨hx, hb, hml, hown, hts⟩ hM hS hP hD (IPn.app hcL (w_md tc b (bs 0) (bs 1) (bs 2) (bs 3) (bs 4) (bs 5) th g ga sv n sl iz u ln)) gL_law_L_reach rfl (by decide +kernel) ⟨Nat.le_of_ble_eq_true rfl, Nat.le_of_ble_eq_true rfl⟩ rfl rfl hl.1 rfl (Nat.le_of_ble_eq_true rfl) dL_law_733 ⟨by show _ ≤ 601024; omega, by show _ ≤ 7293033; omega⟩ (fun H locs hP hD hS => ?_)
  refine W.eq (g2 := F0 m 736 ls [.int (nI k)]) rfl ?_
  refine lv_istore (lv' := [(5, .int (nI k)), (4, .int (nI i)), (3, .ref bo), (2, .ref b), (1, .ref x0), (0, .ref sb)]) hx hb dL_law_736 hl (by decide) rfl (fun ls hl => ?_)
  refine lv_aload_n hx hb dL_law_738 rfl (lv_at hl 3 rfl) ?_
  refine lv_aload_n hx hb dL_law_739 rfl (lv_at hl 5 rfl) ?_
  refine lv_iload hx hb dL_law_740 (lv_at hl 1 rfl) ?_
  refine lv_iconst (v := nI 1) hx hb dL_law_742 (by decide) ?_
  refine ln_iadd hx hb dL_law_743 ?_
  refine lx_sld hx hb hX hbl hbA hS (by omega) hL31 dL_law_744 ?_
  refine lv_aload_n hx hb dL_law_745 rfl (lv_at hl 5 rfl) ?_
  refine lv_iload hx hb dL_law_746 (lv_at hl 1 rfl) ?_
  refine lv_iconst (v := nI 2) hx hb dL_law_748 (by decide) ?_
  refine ln_iadd hx hb dL_law_749 ?_
  refine lx_sld hx hb hX hbl hbA hS (by omega) hL31 dL_law_750 ?_
  refine ipF_V (C := RX7) (n := 2) ⟨hx, hb, hml, hown, hts⟩ hM hS hP hD (IPn.appl (mc := 0) (ms := 0) hcM ((CW tc x0 as tr' qs' g' trc' qsc' gc' od' n' tri' qsi' gi' fc' hc' v1' v2' v3' v4' trs' qss' gs' iz' u' ln') ++ [w_o tc bo fo'])) gL_law_X7_reach rfl (by decide +kernel) ⟨Nat.le_trans (Nat.succ_le_succ hfr) (by decide), Nat.le_trans (Nat.add_le_add_left hlo _) (by decide)⟩ rfl (va_recv hM.1 (va_P_r hP) (ci := 6) (q0 := 0) rfl rfl) rfl hl.1 rfl (Nat.le_of_ble_eq_true rfl) dL_law_751 ⟨by show _ ≤ 601024; omega, by show _ ≤ 7293033; omega⟩ (fun H locs hP hD hS => ?_)
  refine W.eq (g2 := F0 m 754 ls [.int bb]) rfl ?_
  refine lv_istore (lv' := [(6, .int bb), (5, .int (nI k)), (4, .int (nI i)), (3, .ref bo), (2, .ref b), (1, .ref x0), (0, .ref sb)]) hx hb dL_law_754 hl (by decide) rfl (fun ls hl => ?_)
  refine lv_aload_n hx hb dL_law_756 rfl (lv_at hl 4 rfl) ?_
  refine ro_V (C := RX7) (n := 0) ⟨hx, hb, hml, hown, hts⟩ hM hS (va_P_r hP) (RO.up (c7_thrown l D tc zb b th' (fun k9 => match k9 with | 1 => .ref (bs 0) | 2 => .ref (bs 1) | 3 => .ref (bs 2) | 4 => .int (nI n') | 5 => .ref (bs 3) | 6 => .ref (bs 4) | 7 => .ref (bs 5) | 8 => .int (nI ln') | _ => .null)) [0] rfl) gL_law_X7_thrown rfl (by decide +kernel) ⟨Nat.le_of_ble_eq_true rfl, Nat.le_of_ble_eq_true rfl⟩ [0, 1, 2, 3, 4, 5, 6] rfl (va_recv hM.1 (va_P_r hP) (ci := 6) (q0 := 0) rfl rfl) rfl hl.1 rfl (Nat.le_of_ble_eq_true rfl) dL_law_757 ⟨by show _ ≤ 601024; omega, by show _ ≤ 7293033; omega⟩ ?_
  refine lv_iload hx hb dL_law_760 (lv_at hl 1 rfl) ?_
  refine lv_icmp_eq (tgt := 767) hx hb dL_law_762 (by decide) (fun _ => ?_) (fun h9 => absurd hth h9)
  refine lv_iload hx hb dL_law_767 (lv_at hl 1 rfl) ?_
  refine ln_if_ne (tgt := 784) hx hb dL_law_769 (by decide) (Nat.lt_trans hk3 (by decide)) (fun hk9 => ?_) (fun hk9 => ?_)
  · refine lv_goto (tgt := 1980) hx hb dL_law_784 (by decide) ?_
    exact kk tr' qs' g' trc' qsc' gc' od' n' tri' qsi' gi' fc' hc' v1' v2' v3' v4' trs' qss' gs' iz' u' ln' th' ga' sv' sl' fo' hinv' _ _ hP hD hS _ (lv_sub hl [2, 3, 4, 5, 6] rfl)
  · refine lv_aload_n hx hb dL_law_772 rfl (lv_at hl 3 rfl) ?_
    refine lv_iconst (v := nI 0) hx hb dL_law_773 (by decide) ?_
    refine lx_lald hx hb hM.1 hP dL_law_774 ?_
    refine lv_iload hx hb dL_law_775 (lv_at hl 0 rfl) ?_
    refine lv_i2l (v := (bb).toInt64) hx hb dL_law_777 rfl ?_
    refine W.lcmp hx hb dL_law_778 ?_
    refine ln_lif_eq (tgt := 784) hx hb dL_law_779 (by decide) (fun _ => ?_) (fun h9 => absurd (hval hk9) h9)
    refine lv_goto (tgt := 1980) hx hb dL_law_784 (by decide) ?_
    exact kk tr' qs' g' trc' qsc' gc' od' n' tri' qsi' gi' fc' hc' v1' v2' v3' v4' trs' qss' gs' iz' u' ln' th' ga' sv' sl' fo' hinv' _ _ hP hD hS _ (lv_sub hl [2, 3, 4, 5, 6] rfl)
set_option maxHeartbeats 4000000 in
set_option maxRecDepth 100000 in
theorem a_answer {p : Program} {e : Env} {s : State} {m : MethodId} {below : List Frame} {meth : Method} {c : Code} (l : Launch) (D : va_G) (tc : Nat → ClassId) (zb x0 : Nat) (as : Nat → Nat) (b : Nat) (bs : Nat → Nat) (bo sb L : Nat) (xs : Nat → Int32) (i cells slots : Nat) (C0 : lw_C p s m meth c l D tc zb sb L xs) (kk : lw_K p l e s m below meth c D tc x0 as b bs bo sb i (cells + 1) (slots + 6)) (hi : i + 6 ≤ L) (hce : cells + 1 ≤ 601024) (hsl : slots + 6 ≤ 7293033) (tr : Nat → Int32) (qs : Nat → Int32) (g : Nat → Nat) (trc : Nat → Int32) (qsc : Nat → Int32) (gc : Nat → Nat) (od : Nat) (n : Nat) (tri : Nat → Nat → Int32) (qsi : Nat → Nat → Int32) (gi : Nat → Nat → Nat) (fc : Nat → Int32) (hc : Nat → Int32) (v1 : Int32) (v2 : Int32) (v3 : Int32) (v4 : Int32) (trs : Nat → Nat → Int32) (qss : Nat → Nat → Int32) (gs : Nat → Nat → Nat) (iz : Nat → Bool) (u : Nat → Nat) (ln : Nat) (th : Int32) (ga : Nat → Nat) (sv : Nat → Nat) (sl : Nat → Nat) (fo : Nat → Int64) (hinv : INV tr qs g od n tri qsi gi trs qss gs iz u ln sv sl) (H : Heap) (locs : List Loc) (hP : va_P D vwCl (((CW tc x0 as tr qs g trc qsc gc od n tri qsi gi fc hc v1 v2 v3 v4 trs qss gs iz u ln) ++ [w_o tc bo fo]) ++ (w_md tc b (bs 0) (bs 1) (bs 2) (bs 3) (bs 4) (bs 5) th g ga sv n sl iz u ln)) H) (hD : va_D (fun q => s.heap.size ≤ q) (((CW tc x0 as tr qs g trc qsc gc od n tri qsi gi fc hc v1 v2 v3 v4 trs qss gs iz u ln) ++ [w_o tc bo fo]) ++ (w_md tc b (bs 0) (bs 1) (bs 2) (bs 3) (bs 4) (bs 5) th g ga sv n sl iz u ln))) (hS : va_S (fun q => s.heap.size ≤ q) s.heap H locs) (ls : Array Slot) (hl : lv_has ls 7 [(4, .int (nI i)), (3, .ref bo), (2, .ref b), (1, .ref x0), (0, .ref sb)]) : W p l e room_1 s m #[Value.ref sb] below meth c H locs cells slots (lw_Z below #[Value.ref sb] s) (F0 m 787 ls []) := by
  obtain ⟨hx, hb, hml, hown, hts, hM, hX, hbl, hfl, hrt, hlk, hL⟩ := id C0
  have hbA : ¬ (fun q : Nat => s.heap.size ≤ q) sb := Nat.not_le.mpr hbl
  have hL31 : L < 2 ^ 31 := Nat.lt_of_le_of_lt hL (by decide)
  obtain ⟨tr', qs', g', trc', qsc', gc', od', n', tri', qsi', gi', fc', hc', v1', v2', v3', v4', trs', qss', gs', iz', u', ln', th', ga', sv', sl', fo', k, bb, fr, lo, hk3, hfr, hlo, hcL, hcM, hth, hval, hinv'⟩ := s_answer l hfl D tc zb x0 as b bs bo tr qs g trc qsc gc od n tri qsi gi fc hc v1 v2 v3 v4 trs qss gs iz u ln th ga sv sl fo hinv (xs (i + 1)) (xs (i + 2))
  refine lv_aload_n hx hb dL_law_787 rfl (lv_at hl 3 rfl) ?_
  refine lv_aload_n hx hb dL_law_788 rfl (lv_at hl 4 rfl) ?_
  refine lv_iload hx hb dL_law_789 (lv_at hl 0 rfl) ?_
  refine lv_iconst (v := nI 1) hx hb dL_law_791 (by decide) ?_
  refine ln_iadd hx hb dL_law_792 ?_
  refine lx_sld hx hb hX hbl hbA hS (by omega) hL31 dL_law_793 ?_
  refine lv_aload_n hx hb dL_law_794 rfl (lv_at hl 4 rfl) ?_
  refine lv_iload hx hb dL_law_795 (lv_at hl 0 rfl) ?_
  refine lv_iconst (v := nI 2) hx hb dL_law_797 (by decide) ?_
  refine ln_iadd hx hb dL_law_798 ?_
  refine lx_sld hx hb hX hbl hbA hS (by omega) hL31 dL_law_799 ?_
  refine lv_aload_n hx hb dL_law_800 rfl (lv_at hl 1 rfl) ?_
  refine ipF_SW (n := 4) ⟨hx, hb, hml, hown, hts⟩ hM hS hP hD (IPn.app hcL (w_md tc b (bs 0) (bs 1) (bs 2) (bs 3) (bs 4) (bs 5) th g ga sv n sl iz u ln)) gL_law_L_answer rfl (by decide +kernel) ⟨Nat.le_of_ble_eq_true rfl, Nat.le_of_ble_eq_true rfl⟩ rfl rfl hl.1 rfl (Nat.le_of_ble_eq_true rfl) dL_law_801 ⟨by show _ ≤ 601024; omega, by show _ ≤ 7293033; omega⟩ (fun H locs hP hD hS => ?_)
  refine W.eq (g2 := F0 m 804 ls [.int (nI k)]) rfl ?_
  refine lv_istore (lv' := [(5, .int (nI k)), (4, .int (nI i)), (3, .ref bo), (2, .ref b), (1, .ref x0), (0, .ref sb)]) hx hb dL_law_804 hl (by decide) rfl (fun ls hl => ?_)
  refine lv_aload_n hx hb dL_law_806 rfl (lv_at hl 3 rfl) ?_
  refine lv_aload_n hx hb dL_law_807 rfl (lv_at hl 5 rfl) ?_
  refine lv_iload hx hb dL_law_808 (lv_at hl 1 rfl) ?_
  refine lv_iconst (v := nI 1) hx hb dL_law_810 (by decide) ?_
  refine ln_iadd hx hb dL_law_811 ?_
  refine lx_sld hx hb hX hbl hbA hS (by omega) hL31 dL_law_812 ?_
  refine lv_aload_n hx hb dL_law_813 rfl (lv_at hl 5 rfl) ?_
  refine lv_iload hx hb dL_law_814 (lv_at hl 1 rfl) ?_
  refine lv_iconst (v := nI 2) hx hb dL_law_816 (by decide) ?_
  refine ln_iadd hx hb dL_law_817 ?_
  refine lx_sld hx hb hX hbl hbA hS (by omega) hL31 dL_law_818 ?_
  refine ipF_V (C := RX7) (n := 2) ⟨hx, hb, hml, hown, hts⟩ hM hS hP hD (IPn.appl (mc := 0) (ms := 0) hcM ((CW tc x0 as tr' qs' g' trc' qsc' gc' od' n' tri' qsi' gi' fc' hc' v1' v2' v3' v4' trs' qss' gs' iz' u' ln') ++ [w_o tc bo fo'])) gL_law_X7_answer rfl (by decide +kernel) ⟨Nat.le_trans (Nat.succ_le_succ hfr) (by decide), Nat.le_trans (Nat.add_le_add_left hlo _) (by decide)⟩ rfl (va_recv hM.1 (va_P_r hP) (ci := 6) (q0 := 0) rfl rfl) rfl hl.1 rfl (Nat.le_of_ble_eq_true rfl) dL_law_819 ⟨by show _ ≤ 601024; omega, by show _ ≤ 7293033; omega⟩ (fun H locs hP hD hS => ?_)
  refine W.eq (g2 := F0 m 822 ls [.int bb]) rfl ?_
  refine lv_istore (lv' := [(6, .int bb), (5, .int (nI k)), (4, .int (nI i)), (3, .ref bo), (2, .ref b), (1, .ref x0), (0, .ref sb)]) hx hb dL_law_822 hl (by decide) rfl (fun ls hl => ?_)
  refine lv_aload_n hx hb dL_law_824 rfl (lv_at hl 4 rfl) ?_
  refine ro_V (C := RX7) (n := 0) ⟨hx, hb, hml, hown, hts⟩ hM hS (va_P_r hP) (RO.up (c7_thrown l D tc zb b th' (fun k9 => match k9 with | 1 => .ref (bs 0) | 2 => .ref (bs 1) | 3 => .ref (bs 2) | 4 => .int (nI n') | 5 => .ref (bs 3) | 6 => .ref (bs 4) | 7 => .ref (bs 5) | 8 => .int (nI ln') | _ => .null)) [0] rfl) gL_law_X7_thrown rfl (by decide +kernel) ⟨Nat.le_of_ble_eq_true rfl, Nat.le_of_ble_eq_true rfl⟩ [0, 1, 2, 3, 4, 5, 6] rfl (va_recv hM.1 (va_P_r hP) (ci := 6) (q0 := 0) rfl rfl) rfl hl.1 rfl (Nat.le_of_ble_eq_true rfl) dL_law_825 ⟨by show _ ≤ 601024; omega, by show _ ≤ 7293033; omega⟩ ?_
  refine lv_iload hx hb dL_law_828 (lv_at hl 1 rfl) ?_
  refine lv_icmp_eq (tgt := 835) hx hb dL_law_830 (by decide) (fun _ => ?_) (fun h9 => absurd hth h9)
  refine lv_iload hx hb dL_law_835 (lv_at hl 1 rfl) ?_
  refine ln_if_ne (tgt := 852) hx hb dL_law_837 (by decide) (Nat.lt_trans hk3 (by decide)) (fun hk9 => ?_) (fun hk9 => ?_)
  · refine lv_goto (tgt := 1980) hx hb dL_law_852 (by decide) ?_
    exact kk tr' qs' g' trc' qsc' gc' od' n' tri' qsi' gi' fc' hc' v1' v2' v3' v4' trs' qss' gs' iz' u' ln' th' ga' sv' sl' fo' hinv' _ _ hP hD hS _ (lv_sub hl [2, 3, 4, 5, 6] rfl)
  · refine lv_aload_n hx hb dL_law_840 rfl (lv_at hl 3 rfl) ?_
    refine lv_iconst (v := nI 0) hx hb dL_law_841 (by decide) ?_
    refine lx_lald hx hb hM.1 hP dL_law_842 ?_
    refine lv_iload hx hb dL_law_843 (lv_at hl 0 rfl) ?_
    refine lv_i2l (v := (bb).toInt64) hx hb dL_law_845 rfl ?_
    refine W.lcmp hx hb dL_law_846 ?_
    refine ln_lif_eq (tgt := 852) hx hb dL_law_847 (by decide) (fun _ => ?_) (fun h9 => absurd (hval hk9) h9)
    refine lv_goto (tgt := 1980) hx hb dL_law_852 (by decide) ?_
    exact kk tr' qs' g' trc' qsc' gc' od' n' tri' qsi' gi' fc' hc' v1' v2' v3' v4' trs' qss' gs' iz' u' ln' th' ga' sv' sl' fo' hinv' _ _ hP hD hS _ (lv_sub hl [2, 3, 4, 5, 6] rfl)
set_option maxHeartbeats 4000000 in
set_option maxRecDepth 100000 in
theorem a_pairs {p : Program} {e : Env} {s : State} {m : MethodId} {below : List Frame} {meth : Method} {c : Code} (l : Launch) (D : va_G) (tc : Nat → ClassId) (zb x0 : Nat) (as : Nat → Nat) (b : Nat) (bs : Nat → Nat) (bo sb L : Nat) (xs : Nat → Int32) (i cells slots : Nat) (C0 : lw_C p s m meth c l D tc zb sb L xs) (kk : lw_K p l e s m below meth c D tc x0 as b bs bo sb i (cells + 1) (slots + 6)) (hi : i + 6 ≤ L) (hce : cells + 1 ≤ 601024) (hsl : slots + 6 ≤ 7293033) (tr : Nat → Int32) (qs : Nat → Int32) (g : Nat → Nat) (trc : Nat → Int32) (qsc : Nat → Int32) (gc : Nat → Nat) (od : Nat) (n : Nat) (tri : Nat → Nat → Int32) (qsi : Nat → Nat → Int32) (gi : Nat → Nat → Nat) (fc : Nat → Int32) (hc : Nat → Int32) (v1 : Int32) (v2 : Int32) (v3 : Int32) (v4 : Int32) (trs : Nat → Nat → Int32) (qss : Nat → Nat → Int32) (gs : Nat → Nat → Nat) (iz : Nat → Bool) (u : Nat → Nat) (ln : Nat) (th : Int32) (ga : Nat → Nat) (sv : Nat → Nat) (sl : Nat → Nat) (fo : Nat → Int64) (hinv : INV tr qs g od n tri qsi gi trs qss gs iz u ln sv sl) (H : Heap) (locs : List Loc) (hP : va_P D vwCl (((CW tc x0 as tr qs g trc qsc gc od n tri qsi gi fc hc v1 v2 v3 v4 trs qss gs iz u ln) ++ [w_o tc bo fo]) ++ (w_md tc b (bs 0) (bs 1) (bs 2) (bs 3) (bs 4) (bs 5) th g ga sv n sl iz u ln)) H) (hD : va_D (fun q => s.heap.size ≤ q) (((CW tc x0 as tr qs g trc qsc gc od n tri qsi gi fc hc v1 v2 v3 v4 trs qss gs iz u ln) ++ [w_o tc bo fo]) ++ (w_md tc b (bs 0) (bs 1) (bs 2) (bs 3) (bs 4) (bs 5) th g ga sv n sl iz u ln))) (hS : va_S (fun q => s.heap.size ≤ q) s.heap H locs) (ls : Array Slot) (hl : lv_has ls 7 [(4, .int (nI i)), (3, .ref bo), (2, .ref b), (1, .ref x0), (0, .ref sb)]) : W p l e room_1 s m #[Value.ref sb] below meth c H locs cells slots (lw_Z below #[Value.ref sb] s) (F0 m 855 ls []) := by
  obtain ⟨hx, hb, hml, hown, hts, hM, hX, hbl, hfl, hrt, hlk, hL⟩ := id C0
  have hbA : ¬ (fun q : Nat => s.heap.size ≤ q) sb := Nat.not_le.mpr hbl
  have hL31 : L < 2 ^ 31 := Nat.lt_of_le_of_lt hL (by decide)
  obtain ⟨tr', qs', g', trc', qsc', gc', od', n', tri', qsi', gi', fc', hc', v1', v2', v3', v4', trs', qss', gs', iz', u', ln', th', ga', sv', sl', fo', k, bb, fr, lo, hk3, hfr, hlo, hcL, hcM, hth, hval, hinv'⟩ := s_pairs l hfl D tc zb x0 as b bs bo tr qs g trc qsc gc od n tri qsi gi fc hc v1 v2 v3 v4 trs qss gs iz u ln th ga sv sl fo hinv (xs (i + 1)) (xs (i + 2)) (xs (i + 3)) (xs (i + 4))
  refine lv_aload_n hx hb dL_law_855 rfl (lv_at hl 3 rfl) ?_
  refine lv_aload_n hx hb dL_law_856 rfl (lv_at hl 4 rfl) ?_
  refine lv_iload hx hb dL_law_857 (lv_at hl 0 rfl) ?_
  refine lv_iconst (v := nI 1) hx hb dL_law_859 (by decide) ?_
  refine ln_iadd hx hb dL_law_860 ?_
  refine lx_sld hx hb hX hbl hbA hS (by omega) hL31 dL_law_861 ?_
  refine lv_aload_n hx hb dL_law_862 rfl (lv_at hl 4 rfl) ?_
  refine lv_iload hx hb dL_law_863 (lv_at hl 0 rfl) ?_
  refine lv_iconst (v := nI 2) hx hb dL_law_865 (by decide) ?_
  refine ln_iadd hx hb dL_law_866 ?_
  refine lx_sld hx hb hX hbl hbA hS (by omega) hL31 dL_law_867 ?_
  refine lv_aload_n hx hb dL_law_868 rfl (lv_at hl 4 rfl) ?_
  refine lv_iload hx hb dL_law_869 (lv_at hl 0 rfl) ?_
  refine lv_iconst (v := nI 3) hx hb dL_law_871 (by decide) ?_
  refine ln_iadd hx hb dL_law_872 ?_
  refine lx_sld hx hb hX hbl hbA hS (by omega) hL31 dL_law_873 ?_
  refine lv_aload_n hx hb dL_law_874 rfl (lv_at hl 4 rfl) ?_
  refine lv_iload hx hb dL_law_875 (lv_at hl 0 rfl) ?_
  refine lv_iconst (v := nI 4) hx hb dL_law_877 (by decide) ?_
  refine ln_iadd hx hb dL_law_878 ?_
  refine lx_sld hx hb hX hbl hbA hS (by omega) hL31 dL_law_879 ?_
  refine lv_aload_n hx hb dL_law_880 rfl (lv_at hl 1 rfl) ?_
  refine ipF_SW (n := 6) ⟨hx, hb, hml, hown, hts⟩ hM hS hP hD (IPn.app hcL (w_md tc b (bs 0) (bs 1) (bs 2) (bs 3) (bs 4) (bs 5) th g ga sv n sl iz u ln)) gL_law_L_pairs rfl (by decide +kernel) ⟨Nat.le_of_ble_eq_true rfl, Nat.le_of_ble_eq_true rfl⟩ rfl rfl hl.1 rfl (Nat.le_of_ble_eq_true rfl) dL_law_881 ⟨by show _ ≤ 601024; omega, by show _ ≤ 7293033; omega⟩ (fun H locs hP hD hS => ?_)
  refine W.eq (g2 := F0 m 884 ls [.int (nI k)]) rfl ?_
  refine lv_istore (lv' := [(5, .int (nI k)), (4, .int (nI i)), (3, .ref bo), (2, .ref b), (1, .ref x0), (0, .ref sb)]) hx hb dL_law_884 hl (by decide) rfl (fun ls hl => ?_)
  refine lv_aload_n hx hb dL_law_886 rfl (lv_at hl 3 rfl) ?_
  refine lv_aload_n hx hb dL_law_887 rfl (lv_at hl 5 rfl) ?_
  refine lv_iload hx hb dL_law_888 (lv_at hl 1 rfl) ?_
  refine lv_iconst (v := nI 1) hx hb dL_law_890 (by decide) ?_
  refine ln_iadd hx hb dL_law_891 ?_
  refine lx_sld hx hb hX hbl hbA hS (by omega) hL31 dL_law_892 ?_
  refine lv_aload_n hx hb dL_law_893 rfl (lv_at hl 5 rfl) ?_
  refine lv_iload hx hb dL_law_894 (lv_at hl 1 rfl) ?_
  refine lv_iconst (v := nI 2) hx hb dL_law_896 (by decide) ?_
  refine ln_iadd hx hb dL_law_897 ?_
  refine lx_sld hx hb hX hbl hbA hS (by omega) hL31 dL_law_898 ?_
  refine lv_aload_n hx hb dL_law_899 rfl (lv_at hl 5 rfl) ?_
  refine lv_iload hx hb dL_law_900 (lv_at hl 1 rfl) ?_
  refine lv_iconst (v := nI 3) hx hb dL_law_902 (by decide) ?_
  refine ln_iadd hx hb dL_law_903 ?_
  refine lx_sld hx hb hX hbl hbA hS (by omega) hL31 dL_law_904 ?_
  refine lv_aload_n hx hb dL_law_905 rfl (lv_at hl 5 rfl) ?_
  refine lv_iload hx hb dL_law_906 (lv_at hl 1 rfl) ?_
  refine lv_iconst (v := nI 4) hx hb dL_law_908 (by decide) ?_
  refine ln_iadd hx hb dL_law_909 ?_
  refine lx_sld hx hb hX hbl hbA hS (by omega) hL31 dL_law_910 ?_
  refine ipF_V (C := RX7) (n := 4) ⟨hx, hb, hml, hown, hts⟩ hM hS hP hD (IPn.appl (mc := 0) (ms := 0) hcM ((CW tc x0 as tr' qs' g' trc' qsc' gc' od' n' tri' qsi' gi' fc' hc' v1' v2' v3' v4' trs' qss' gs' iz' u' ln') ++ [w_o tc bo fo'])) gL_law_X7_pairs rfl (by decide +kernel) ⟨Nat.le_trans (Nat.succ_le_succ hfr) (by decide), Nat.le_trans (Nat.add_le_add_left hlo _) (by decide)⟩ rfl (va_recv hM.1 (va_P_r hP) (ci := 6) (q0 := 0) rfl rfl) rfl hl.1 rfl (Nat.le_of_ble_eq_true rfl) dL_law_911 ⟨by show _ ≤ 601024; omega, by show _ ≤ 7293033; omega⟩ (fun H locs hP hD hS => ?_)
  refine W.eq (g2 := F0 m 914 ls [.int bb]) rfl ?_
  refine lv_istore (lv' := [(6, .int bb), (5, .int (nI k)), (4, .int (nI i)), (3, .ref bo), (2, .ref b), (1, .ref x0), (0, .ref sb)]) hx hb dL_law_914 hl (by decide) rfl (fun ls hl => ?_)
  refine lv_aload_n hx hb dL_law_916 rfl (lv_at hl 4 rfl) ?_
  refine ro_V (C := RX7) (n := 0) ⟨hx, hb, hml, hown, hts⟩ hM hS (va_P_r hP) (RO.up (c7_thrown l D tc zb b th' (fun k9 => match k9 with | 1 => .ref (bs 0) | 2 => .ref (bs 1) | 3 => .ref (bs 2) | 4 => .int (nI n') | 5 => .ref (bs 3) | 6 => .ref (bs 4) | 7 => .ref (bs 5) | 8 => .int (nI ln') | _ => .null)) [0] rfl) gL_law_X7_thrown rfl (by decide +kernel) ⟨Nat.le_of_ble_eq_true rfl, Nat.le_of_ble_eq_true rfl⟩ [0, 1, 2, 3, 4, 5, 6] rfl (va_recv hM.1 (va_P_r hP) (ci := 6) (q0 := 0) rfl rfl) rfl hl.1 rfl (Nat.le_of_ble_eq_true rfl) dL_law_917 ⟨by show _ ≤ 601024; omega, by show _ ≤ 7293033; omega⟩ ?_
  refine lv_iload hx hb dL_law_920 (lv_at hl 1 rfl) ?_
  refine lv_icmp_eq (tgt := 927) hx hb dL_law_922 (by decide) (fun _ => ?_) (fun h9 => absurd hth h9)
  refine lv_iload hx hb dL_law_927 (lv_at hl 1 rfl) ?_
  refine ln_if_ne (tgt := 944) hx hb dL_law_929 (by decide) (Nat.lt_trans hk3 (by decide)) (fun hk9 => ?_) (fun hk9 => ?_)
  · refine lv_goto (tgt := 1980) hx hb dL_law_944 (by decide) ?_
    exact kk tr' qs' g' trc' qsc' gc' od' n' tri' qsi' gi' fc' hc' v1' v2' v3' v4' trs' qss' gs' iz' u' ln' th' ga' sv' sl' fo' hinv' _ _ hP hD hS _ (lv_sub hl [2, 3, 4, 5, 6] rfl)
  · refine lv_aload_n hx hb dL_law_932 rfl (lv_at hl 3 rfl) ?_
    refine lv_iconst (v := nI 0) hx hb dL_law_933 (by decide) ?_
    refine lx_lald hx hb hM.1 hP dL_law_934 ?_
    refine lv_iload hx hb dL_law_935 (lv_at hl 0 rfl) ?_
    refine lv_i2l (v := (bb).toInt64) hx hb dL_law_937 rfl ?_
    refine W.lcmp hx hb dL_law_938 ?_
    refine ln_lif_eq (tgt := 944) hx hb dL_law_939 (by decide) (fun _ => ?_) (fun h9 => absurd (hval hk9) h9)
    refine lv_goto (tgt := 1980) hx hb dL_law_944 (by decide) ?_
    exact kk tr' qs' g' trc' qsc' gc' od' n' tri' qsi' gi' fc' hc' v1' v2' v3' v4' trs' qss' gs' iz' u' ln' th' ga' sv' sl' fo' hinv' _ _ hP hD hS _ (lv_sub hl [2, 3, 4, 5, 6] rfl)
set_option maxHeartbeats 4000000 in
set_option maxRecDepth 100000 in
theorem a_joinCost {p : Program} {e : Env} {s : State} {m : MethodId} {below : List Frame} {meth : Method} {c : Code} (l : Launch) (D : va_G) (tc : Nat → ClassId) (zb x0 : Nat) (as : Nat → Nat) (b : Nat) (bs : Nat → Nat) (bo sb L : Nat) (xs : Nat → Int32) (i cells slots : Nat) (C0 : lw_C p s m meth c l D tc zb sb L xs) (kk : lw_K p l e s m below meth c D tc x0 as b bs bo sb i (cells + 1) (slots + 6)) (hi : i + 6 ≤ L) (hce : cells + 1 ≤ 601024) (hsl : slots + 6 ≤ 7293033) (tr : Nat → Int32) (qs : Nat → Int32) (g : Nat → Nat) (trc : Nat → Int32) (qsc : Nat → Int32) (gc : Nat → Nat) (od : Nat) (n : Nat) (tri : Nat → Nat → Int32) (qsi : Nat → Nat → Int32) (gi : Nat → Nat → Nat) (fc : Nat → Int32) (hc : Nat → Int32) (v1 : Int32) (v2 : Int32) (v3 : Int32) (v4 : Int32) (trs : Nat → Nat → Int32) (qss : Nat → Nat → Int32) (gs : Nat → Nat → Nat) (iz : Nat → Bool) (u : Nat → Nat) (ln : Nat) (th : Int32) (ga : Nat → Nat) (sv : Nat → Nat) (sl : Nat → Nat) (fo : Nat → Int64) (hinv : INV tr qs g od n tri qsi gi trs qss gs iz u ln sv sl) (H : Heap) (locs : List Loc) (hP : va_P D vwCl (((CW tc x0 as tr qs g trc qsc gc od n tri qsi gi fc hc v1 v2 v3 v4 trs qss gs iz u ln) ++ [w_o tc bo fo]) ++ (w_md tc b (bs 0) (bs 1) (bs 2) (bs 3) (bs 4) (bs 5) th g ga sv n sl iz u ln)) H) (hD : va_D (fun q => s.heap.size ≤ q) (((CW tc x0 as tr qs g trc qsc gc od n tri qsi gi fc hc v1 v2 v3 v4 trs qss gs iz u ln) ++ [w_o tc bo fo]) ++ (w_md tc b (bs 0) (bs 1) (bs 2) (bs 3) (bs 4) (bs 5) th g ga sv n sl iz u ln))) (hS : va_S (fun q => s.heap.size ≤ q) s.heap H locs) (ls : Array Slot) (hl : lv_has ls 7 [(4, .int (nI i)), (3, .ref bo), (2, .ref b), (1, .ref x0), (0, .ref sb)]) : W p l e room_1 s m #[Value.ref sb] below meth c H locs cells slots (lw_Z below #[Value.ref sb] s) (F0 m 947 ls []) := by
  obtain ⟨hx, hb, hml, hown, hts, hM, hX, hbl, hfl, hrt, hlk, hL⟩ := id C0
  have hbA : ¬ (fun q : Nat => s.heap.size ≤ q) sb := Nat.not_le.mpr hbl
  have hL31 : L < 2 ^ 31 := Nat.lt_of_le_of_lt hL (by decide)
  by_cases hz : xs (i + 5) = 0
  · obtain ⟨tr', qs', g', trc', qsc', gc', od', n', tri', qsi', gi', fc', hc', v1', v2', v3', v4', trs', qss', gs', iz', u', ln', th', ga', sv', sl', fo', k, bb, fr, lo, hk3, hfr, hlo, hcL, hcM, hth, hval, hinv'⟩ := s_joinCost_0 l hfl D tc zb x0 as b bs bo tr qs g trc qsc gc od n tri qsi gi fc hc v1 v2 v3 v4 trs qss gs iz u ln th ga sv sl fo hinv (xs (i + 1)) (xs (i + 2)) (xs (i + 3)) (xs (i + 4))
    refine lv_aload_n hx hb dL_law_947 rfl (lv_at hl 3 rfl) ?_
    refine lv_aload_n hx hb dL_law_948 rfl (lv_at hl 4 rfl) ?_
    refine lv_iload hx hb dL_law_949 (lv_at hl 0 rfl) ?_
    refine lv_iconst (v := nI 1) hx hb dL_law_951 (by decide) ?_
    refine ln_iadd hx hb dL_law_952 ?_
    refine lx_sld hx hb hX hbl hbA hS (by omega) hL31 dL_law_953 ?_
    refine lv_aload_n hx hb dL_law_954 rfl (lv_at hl 4 rfl) ?_
    refine lv_iload hx hb dL_law_955 (lv_at hl 0 rfl) ?_
    refine lv_iconst (v := nI 2) hx hb dL_law_957 (by decide) ?_
    refine ln_iadd hx hb dL_law_958 ?_
    refine lx_sld hx hb hX hbl hbA hS (by omega) hL31 dL_law_959 ?_
    refine lv_aload_n hx hb dL_law_960 rfl (lv_at hl 4 rfl) ?_
    refine lv_iload hx hb dL_law_961 (lv_at hl 0 rfl) ?_
    refine lv_iconst (v := nI 3) hx hb dL_law_963 (by decide) ?_
    refine ln_iadd hx hb dL_law_964 ?_
    refine lx_sld hx hb hX hbl hbA hS (by omega) hL31 dL_law_965 ?_
    refine lv_aload_n hx hb dL_law_966 rfl (lv_at hl 4 rfl) ?_
    refine lv_iload hx hb dL_law_967 (lv_at hl 0 rfl) ?_
    refine lv_iconst (v := nI 4) hx hb dL_law_969 (by decide) ?_
    refine ln_iadd hx hb dL_law_970 ?_
    refine lx_sld hx hb hX hbl hbA hS (by omega) hL31 dL_law_971 ?_
    refine lv_aload_n hx hb dL_law_972 rfl (lv_at hl 4 rfl) ?_
    refine lv_iload hx hb dL_law_973 (lv_at hl 0 rfl) ?_
    refine lv_iconst (v := nI 5) hx hb dL_law_975 (by decide) ?_
    refine ln_iadd hx hb dL_law_976 ?_
    refine lx_sld hx hb hX hbl hbA hS (by omega) hL31 dL_law_977 ?_
    refine lv_if_eq (tgt := 985) hx hb dL_law_978 (by decide) (fun _ => ?_) (fun h9 => absurd hz h9)
    refine lv_iconst (v := nI 0) hx hb dL_law_985 (by decide) ?_
    refine lv_aload_n hx hb dL_law_986 rfl (lv_at hl 1 rfl) ?_
    refine ipF_SW (n := 7) ⟨hx, hb, hml, hown, hts⟩ hM hS hP hD (IPn.app hcL (w_md tc b (bs 0) (bs 1) (bs 2) (bs 3) (bs 4) (bs 5) th g ga sv n sl iz u ln)) gL_law_L_joinCost rfl (by decide +kernel) ⟨Nat.le_of_ble_eq_true rfl, Nat.le_of_ble_eq_true rfl⟩ rfl rfl hl.1 rfl (Nat.le_of_ble_eq_true rfl) dL_law_987 ⟨by show _ ≤ 601024; omega, by show _ ≤ 7293033; omega⟩ (fun H locs hP hD hS => ?_)
    refine W.eq (g2 := F0 m 990 ls [.int (nI k)]) rfl ?_
    refine lv_istore (lv' := [(5, .int (nI k)), (4, .int (nI i)), (3, .ref bo), (2, .ref b), (1, .ref x0), (0, .ref sb)]) hx hb dL_law_990 hl (by decide) rfl (fun ls hl => ?_)
    refine lv_aload_n hx hb dL_law_992 rfl (lv_at hl 3 rfl) ?_
    refine lv_aload_n hx hb dL_law_993 rfl (lv_at hl 5 rfl) ?_
    refine lv_iload hx hb dL_law_994 (lv_at hl 1 rfl) ?_
    refine lv_iconst (v := nI 1) hx hb dL_law_996 (by decide) ?_
    refine ln_iadd hx hb dL_law_997 ?_
    refine lx_sld hx hb hX hbl hbA hS (by omega) hL31 dL_law_998 ?_
    refine lv_aload_n hx hb dL_law_999 rfl (lv_at hl 5 rfl) ?_
    refine lv_iload hx hb dL_law_1000 (lv_at hl 1 rfl) ?_
    refine lv_iconst (v := nI 2) hx hb dL_law_1002 (by decide) ?_
    refine ln_iadd hx hb dL_law_1003 ?_
    refine lx_sld hx hb hX hbl hbA hS (by omega) hL31 dL_law_1004 ?_
    refine lv_aload_n hx hb dL_law_1005 rfl (lv_at hl 5 rfl) ?_
    refine lv_iload hx hb dL_law_1006 (lv_at hl 1 rfl) ?_
    refine lv_iconst (v := nI 3) hx hb dL_law_1008 (by decide) ?_
    refine ln_iadd hx hb dL_law_1009 ?_
    refine lx_sld hx hb hX hbl hbA hS (by omega) hL31 dL_law_1010 ?_
    refine lv_aload_n hx hb dL_law_1011 rfl (lv_at hl 5 rfl) ?_
    refine lv_iload hx hb dL_law_1012 (lv_at hl 1 rfl) ?_
    refine lv_iconst (v := nI 4) hx hb dL_law_1014 (by decide) ?_
    refine ln_iadd hx hb dL_law_1015 ?_
    refine lx_sld hx hb hX hbl hbA hS (by omega) hL31 dL_law_1016 ?_
    refine lv_aload_n hx hb dL_law_1017 rfl (lv_at hl 5 rfl) ?_
    refine lv_iload hx hb dL_law_1018 (lv_at hl 1 rfl) ?_
    refine lv_iconst (v := nI 5) hx hb dL_law_1020 (by decide) ?_
    refine ln_iadd hx hb dL_law_1021 ?_
    refine lx_sld hx hb hX hbl hbA hS (by omega) hL31 dL_law_1022 ?_
    refine lv_if_eq (tgt := 1030) hx hb dL_law_1023 (by decide) (fun _ => ?_) (fun h9 => absurd hz h9)
    refine lv_iconst (v := nI 0) hx hb dL_law_1030 (by decide) ?_
    refine ipF_V (C := RX7) (n := 5) ⟨hx, hb, hml, hown, hts⟩ hM hS hP hD (IPn.appl (mc := 0) (ms := 0) hcM ((CW tc x0 as tr' qs' g' trc' qsc' gc' od' n' tri' qsi' gi' fc' hc' v1' v2' v3' v4' trs' qss' gs' iz' u' ln') ++ [w_o tc bo fo'])) gL_law_X7_joinCost rfl (by decide +kernel) ⟨Nat.le_trans (Nat.succ_le_succ hfr) (by decide), Nat.le_trans (Nat.add_le_add_left hlo _) (by decide)⟩ rfl (va_recv hM.1 (va_P_r hP) (ci := 6) (q0 := 0) rfl rfl) rfl hl.1 rfl (Nat.le_of_ble_eq_true rfl) dL_law_1031 ⟨by show _ ≤ 601024; omega, by show _ ≤ 7293033; omega⟩ (fun H locs hP hD hS => ?_)
    refine W.eq (g2 := F0 m 1034 ls [.int bb]) rfl ?_
    refine lv_istore (lv' := [(6, .int bb), (5, .int (nI k)), (4, .int (nI i)), (3, .ref bo), (2, .ref b), (1, .ref x0), (0, .ref sb)]) hx hb dL_law_1034 hl (by decide) rfl (fun ls hl => ?_)
    refine lv_aload_n hx hb dL_law_1036 rfl (lv_at hl 4 rfl) ?_
    refine ro_V (C := RX7) (n := 0) ⟨hx, hb, hml, hown, hts⟩ hM hS (va_P_r hP) (RO.up (c7_thrown l D tc zb b th' (fun k9 => match k9 with | 1 => .ref (bs 0) | 2 => .ref (bs 1) | 3 => .ref (bs 2) | 4 => .int (nI n') | 5 => .ref (bs 3) | 6 => .ref (bs 4) | 7 => .ref (bs 5) | 8 => .int (nI ln') | _ => .null)) [0] rfl) gL_law_X7_thrown rfl (by decide +kernel) ⟨Nat.le_of_ble_eq_true rfl, Nat.le_of_ble_eq_true rfl⟩ [0, 1, 2, 3, 4, 5, 6] rfl (va_recv hM.1 (va_P_r hP) (ci := 6) (q0 := 0) rfl rfl) rfl hl.1 rfl (Nat.le_of_ble_eq_true rfl) dL_law_1037 ⟨by show _ ≤ 601024; omega, by show _ ≤ 7293033; omega⟩ ?_
    refine lv_iload hx hb dL_law_1040 (lv_at hl 1 rfl) ?_
    refine lv_icmp_eq (tgt := 1047) hx hb dL_law_1042 (by decide) (fun _ => ?_) (fun h9 => absurd hth h9)
    refine lv_iload hx hb dL_law_1047 (lv_at hl 1 rfl) ?_
    refine ln_if_ne (tgt := 1064) hx hb dL_law_1049 (by decide) (Nat.lt_trans hk3 (by decide)) (fun hk9 => ?_) (fun hk9 => ?_)
    · refine lv_goto (tgt := 1980) hx hb dL_law_1064 (by decide) ?_
      exact kk tr' qs' g' trc' qsc' gc' od' n' tri' qsi' gi' fc' hc' v1' v2' v3' v4' trs' qss' gs' iz' u' ln' th' ga' sv' sl' fo' hinv' _ _ hP hD hS _ (lv_sub hl [2, 3, 4, 5, 6] rfl)
    · refine lv_aload_n hx hb dL_law_1052 rfl (lv_at hl 3 rfl) ?_
      refine lv_iconst (v := nI 0) hx hb dL_law_1053 (by decide) ?_
      refine lx_lald hx hb hM.1 hP dL_law_1054 ?_
      refine lv_iload hx hb dL_law_1055 (lv_at hl 0 rfl) ?_
      refine lv_i2l (v := (bb).toInt64) hx hb dL_law_1057 rfl ?_
      refine W.lcmp hx hb dL_law_1058 ?_
      refine ln_lif_eq (tgt := 1064) hx hb dL_law_1059 (by decide) (fun _ => ?_) (fun h9 => absurd (hval hk9) h9)
      refine lv_goto (tgt := 1980) hx hb dL_law_1064 (by decide) ?_
      exact kk tr' qs' g' trc' qsc' gc' od' n' tri' qsi' gi' fc' hc' v1' v2' v3' v4' trs' qss' gs' iz' u' ln' th' ga' sv' sl' fo' hinv' _ _ hP hD hS _ (lv_sub hl [2, 3, 4, 5, 6] rfl)
  · obtain ⟨tr', qs', g', trc', qsc', gc', od', n', tri', qsi', gi', fc', hc', v1', v2', v3', v4', trs', qss', gs', iz', u', ln', th', ga', sv', sl', fo', k, bb, fr, lo, hk3, hfr, hlo, hcL, hcM, hth, hval, hinv'⟩ := s_joinCost_1 l hfl D tc zb x0 as b bs bo tr qs g trc qsc gc od n tri qsi gi fc hc v1 v2 v3 v4 trs qss gs iz u ln th ga sv sl fo hinv (xs (i + 1)) (xs (i + 2)) (xs (i + 3)) (xs (i + 4))
    refine lv_aload_n hx hb dL_law_947 rfl (lv_at hl 3 rfl) ?_
    refine lv_aload_n hx hb dL_law_948 rfl (lv_at hl 4 rfl) ?_
    refine lv_iload hx hb dL_law_949 (lv_at hl 0 rfl) ?_
    refine lv_iconst (v := nI 1) hx hb dL_law_951 (by decide) ?_
    refine ln_iadd hx hb dL_law_952 ?_
    refine lx_sld hx hb hX hbl hbA hS (by omega) hL31 dL_law_953 ?_
    refine lv_aload_n hx hb dL_law_954 rfl (lv_at hl 4 rfl) ?_
    refine lv_iload hx hb dL_law_955 (lv_at hl 0 rfl) ?_
    refine lv_iconst (v := nI 2) hx hb dL_law_957 (by decide) ?_
    refine ln_iadd hx hb dL_law_958 ?_
    refine lx_sld hx hb hX hbl hbA hS (by omega) hL31 dL_law_959 ?_
    refine lv_aload_n hx hb dL_law_960 rfl (lv_at hl 4 rfl) ?_
    refine lv_iload hx hb dL_law_961 (lv_at hl 0 rfl) ?_
    refine lv_iconst (v := nI 3) hx hb dL_law_963 (by decide) ?_
    refine ln_iadd hx hb dL_law_964 ?_
    refine lx_sld hx hb hX hbl hbA hS (by omega) hL31 dL_law_965 ?_
    refine lv_aload_n hx hb dL_law_966 rfl (lv_at hl 4 rfl) ?_
    refine lv_iload hx hb dL_law_967 (lv_at hl 0 rfl) ?_
    refine lv_iconst (v := nI 4) hx hb dL_law_969 (by decide) ?_
    refine ln_iadd hx hb dL_law_970 ?_
    refine lx_sld hx hb hX hbl hbA hS (by omega) hL31 dL_law_971 ?_
    refine lv_aload_n hx hb dL_law_972 rfl (lv_at hl 4 rfl) ?_
    refine lv_iload hx hb dL_law_973 (lv_at hl 0 rfl) ?_
    refine lv_iconst (v := nI 5) hx hb dL_law_975 (by decide) ?_
    refine ln_iadd hx hb dL_law_976 ?_
    refine lx_sld hx hb hX hbl hbA hS (by omega) hL31 dL_law_977 ?_
    refine lv_if_eq (tgt := 985) hx hb dL_law_978 (by decide) (fun h9 => absurd h9 hz) (fun _ => ?_)
    refine lv_iconst (v := nI 1) hx hb dL_law_981 (by decide) ?_
    refine lv_goto (tgt := 986) hx hb dL_law_982 (by decide) ?_
    refine lv_aload_n hx hb dL_law_986 rfl (lv_at hl 1 rfl) ?_
    refine ipF_SW (n := 7) ⟨hx, hb, hml, hown, hts⟩ hM hS hP hD (IPn.app hcL (w_md tc b (bs 0) (bs 1) (bs 2) (bs 3) (bs 4) (bs 5) th g ga sv n sl iz u ln)) gL_law_L_joinCost rfl (by decide +kernel) ⟨Nat.le_of_ble_eq_true rfl, Nat.le_of_ble_eq_true rfl⟩ rfl rfl hl.1 rfl (Nat.le_of_ble_eq_true rfl) dL_law_987 ⟨by show _ ≤ 601024; omega, by show _ ≤ 7293033; omega⟩ (fun H locs hP hD hS => ?_)
    refine W.eq (g2 := F0 m 990 ls [.int (nI k)]) rfl ?_
    refine lv_istore (lv' := [(5, .int (nI k)), (4, .int (nI i)), (3, .ref bo), (2, .ref b), (1, .ref x0), (0, .ref sb)]) hx hb dL_law_990 hl (by decide) rfl (fun ls hl => ?_)
    refine lv_aload_n hx hb dL_law_992 rfl (lv_at hl 3 rfl) ?_
    refine lv_aload_n hx hb dL_law_993 rfl (lv_at hl 5 rfl) ?_
    refine lv_iload hx hb dL_law_994 (lv_at hl 1 rfl) ?_
    refine lv_iconst (v := nI 1) hx hb dL_law_996 (by decide) ?_
    refine ln_iadd hx hb dL_law_997 ?_
    refine lx_sld hx hb hX hbl hbA hS (by omega) hL31 dL_law_998 ?_
    refine lv_aload_n hx hb dL_law_999 rfl (lv_at hl 5 rfl) ?_
    refine lv_iload hx hb dL_law_1000 (lv_at hl 1 rfl) ?_
    refine lv_iconst (v := nI 2) hx hb dL_law_1002 (by decide) ?_
    refine ln_iadd hx hb dL_law_1003 ?_
    refine lx_sld hx hb hX hbl hbA hS (by omega) hL31 dL_law_1004 ?_
    refine lv_aload_n hx hb dL_law_1005 rfl (lv_at hl 5 rfl) ?_
    refine lv_iload hx hb dL_law_1006 (lv_at hl 1 rfl) ?_
    refine lv_iconst (v := nI 3) hx hb dL_law_1008 (by decide) ?_
    refine ln_iadd hx hb dL_law_1009 ?_
    refine lx_sld hx hb hX hbl hbA hS (by omega) hL31 dL_law_1010 ?_
    refine lv_aload_n hx hb dL_law_1011 rfl (lv_at hl 5 rfl) ?_
    refine lv_iload hx hb dL_law_1012 (lv_at hl 1 rfl) ?_
    refine lv_iconst (v := nI 4) hx hb dL_law_1014 (by decide) ?_
    refine ln_iadd hx hb dL_law_1015 ?_
    refine lx_sld hx hb hX hbl hbA hS (by omega) hL31 dL_law_1016 ?_
    refine lv_aload_n hx hb dL_law_1017 rfl (lv_at hl 5 rfl) ?_
    refine lv_iload hx hb dL_law_1018 (lv_at hl 1 rfl) ?_
    refine lv_iconst (v := nI 5) hx hb dL_law_1020 (by decide) ?_
    refine ln_iadd hx hb dL_law_1021 ?_
    refine lx_sld hx hb hX hbl hbA hS (by omega) hL31 dL_law_1022 ?_
    refine lv_if_eq (tgt := 1030) hx hb dL_law_1023 (by decide) (fun h9 => absurd h9 hz) (fun _ => ?_)
    refine lv_iconst (v := nI 1) hx hb dL_law_1026 (by decide) ?_
    refine lv_goto (tgt := 1031) hx hb dL_law_1027 (by decide) ?_
    refine ipF_V (C := RX7) (n := 5) ⟨hx, hb, hml, hown, hts⟩ hM hS hP hD (IPn.appl (mc := 0) (ms := 0) hcM ((CW tc x0 as tr' qs' g' trc' qsc' gc' od' n' tri' qsi' gi' fc' hc' v1' v2' v3' v4' trs' qss' gs' iz' u' ln') ++ [w_o tc bo fo'])) gL_law_X7_joinCost rfl (by decide +kernel) ⟨Nat.le_trans (Nat.succ_le_succ hfr) (by decide), Nat.le_trans (Nat.add_le_add_left hlo _) (by decide)⟩ rfl (va_recv hM.1 (va_P_r hP) (ci := 6) (q0 := 0) rfl rfl) rfl hl.1 rfl (Nat.le_of_ble_eq_true rfl) dL_law_1031 ⟨by show _ ≤ 601024; omega, by show _ ≤ 7293033; omega⟩ (fun H locs hP hD hS => ?_)
    refine W.eq (g2 := F0 m 1034 ls [.int bb]) rfl ?_
    refine lv_istore (lv' := [(6, .int bb), (5, .int (nI k)), (4, .int (nI i)), (3, .ref bo), (2, .ref b), (1, .ref x0), (0, .ref sb)]) hx hb dL_law_1034 hl (by decide) rfl (fun ls hl => ?_)
    refine lv_aload_n hx hb dL_law_1036 rfl (lv_at hl 4 rfl) ?_
    refine ro_V (C := RX7) (n := 0) ⟨hx, hb, hml, hown, hts⟩ hM hS (va_P_r hP) (RO.up (c7_thrown l D tc zb b th' (fun k9 => match k9 with | 1 => .ref (bs 0) | 2 => .ref (bs 1) | 3 => .ref (bs 2) | 4 => .int (nI n') | 5 => .ref (bs 3) | 6 => .ref (bs 4) | 7 => .ref (bs 5) | 8 => .int (nI ln') | _ => .null)) [0] rfl) gL_law_X7_thrown rfl (by decide +kernel) ⟨Nat.le_of_ble_eq_true rfl, Nat.le_of_ble_eq_true rfl⟩ [0, 1, 2, 3, 4, 5, 6] rfl (va_recv hM.1 (va_P_r hP) (ci := 6) (q0 := 0) rfl rfl) rfl hl.1 rfl (Nat.le_of_ble_eq_true rfl) dL_law_1037 ⟨by show _ ≤ 601024; omega, by show _ ≤ 7293033; omega⟩ ?_
    refine lv_iload hx hb dL_law_1040 (lv_at hl 1 rfl) ?_
    refine lv_icmp_eq (tgt := 1047) hx hb dL_law_1042 (by decide) (fun _ => ?_) (fun h9 => absurd hth h9)
    refine lv_iload hx hb dL_law_1047 (lv_at hl 1 rfl) ?_
    refine ln_if_ne (tgt := 1064) hx hb dL_law_1049 (by decide) (Nat.lt_trans hk3 (by decide)) (fun hk9 => ?_) (fun hk9 => ?_)
    · refine lv_goto (tgt := 1980) hx hb dL_law_1064 (by decide) ?_
      exact kk tr' qs' g' trc' qsc' gc' od' n' tri' qsi' gi' fc' hc' v1' v2' v3' v4' trs' qss' gs' iz' u' ln' th' ga' sv' sl' fo' hinv' _ _ hP hD hS _ (lv_sub hl [2, 3, 4, 5, 6] rfl)
    · refine lv_aload_n hx hb dL_law_1052 rfl (lv_at hl 3 rfl) ?_
      refine lv_iconst (v := nI 0) hx hb dL_law_1053 (by decide) ?_
      refine lx_lald hx hb hM.1 hP dL_law_1054 ?_
      refine lv_iload hx hb dL_law_1055 (lv_at hl 0 rfl) ?_
      refine lv_i2l (v := (bb).toInt64) hx hb dL_law_1057 rfl ?_
      refine W.lcmp hx hb dL_law_1058 ?_
      refine ln_lif_eq (tgt := 1064) hx hb dL_law_1059 (by decide) (fun _ => ?_) (fun h9 => absurd (hval hk9) h9)
      refine lv_goto (tgt := 1980) hx hb dL_law_1064 (by decide) ?_
      exact kk tr' qs' g' trc' qsc' gc' od' n' tri' qsi' gi' fc' hc' v1' v2' v3' v4' trs' qss' gs' iz' u' ln' th' ga' sv' sl' fo' hinv' _ _ hP hD hS _ (lv_sub hl [2, 3, 4, 5, 6] rfl)
set_option maxHeartbeats 4000000 in
set_option maxRecDepth 100000 in
theorem a_add {p : Program} {e : Env} {s : State} {m : MethodId} {below : List Frame} {meth : Method} {c : Code} (l : Launch) (D : va_G) (tc : Nat → ClassId) (zb x0 : Nat) (as : Nat → Nat) (b : Nat) (bs : Nat → Nat) (bo sb L : Nat) (xs : Nat → Int32) (i cells slots : Nat) (C0 : lw_C p s m meth c l D tc zb sb L xs) (kk : lw_K p l e s m below meth c D tc x0 as b bs bo sb i (cells + 1) (slots + 6)) (hi : i + 6 ≤ L) (hce : cells + 1 ≤ 601024) (hsl : slots + 6 ≤ 7293033) (tr : Nat → Int32) (qs : Nat → Int32) (g : Nat → Nat) (trc : Nat → Int32) (qsc : Nat → Int32) (gc : Nat → Nat) (od : Nat) (n : Nat) (tri : Nat → Nat → Int32) (qsi : Nat → Nat → Int32) (gi : Nat → Nat → Nat) (fc : Nat → Int32) (hc : Nat → Int32) (v1 : Int32) (v2 : Int32) (v3 : Int32) (v4 : Int32) (trs : Nat → Nat → Int32) (qss : Nat → Nat → Int32) (gs : Nat → Nat → Nat) (iz : Nat → Bool) (u : Nat → Nat) (ln : Nat) (th : Int32) (ga : Nat → Nat) (sv : Nat → Nat) (sl : Nat → Nat) (fo : Nat → Int64) (hinv : INV tr qs g od n tri qsi gi trs qss gs iz u ln sv sl) (H : Heap) (locs : List Loc) (hP : va_P D vwCl (((CW tc x0 as tr qs g trc qsc gc od n tri qsi gi fc hc v1 v2 v3 v4 trs qss gs iz u ln) ++ [w_o tc bo fo]) ++ (w_md tc b (bs 0) (bs 1) (bs 2) (bs 3) (bs 4) (bs 5) th g ga sv n sl iz u ln)) H) (hD : va_D (fun q => s.heap.size ≤ q) (((CW tc x0 as tr qs g trc qsc gc od n tri qsi gi fc hc v1 v2 v3 v4 trs qss gs iz u ln) ++ [w_o tc bo fo]) ++ (w_md tc b (bs 0) (bs 1) (bs 2) (bs 3) (bs 4) (bs 5) th g ga sv n sl iz u ln))) (hS : va_S (fun q => s.heap.size ≤ q) s.heap H locs) (ls : Array Slot) (hl : lv_has ls 7 [(4, .int (nI i)), (3, .ref bo), (2, .ref b), (1, .ref x0), (0, .ref sb)]) : W p l e room_1 s m #[Value.ref sb] below meth c H locs cells slots (lw_Z below #[Value.ref sb] s) (F0 m 1067 ls []) := by
  obtain ⟨hx, hb, hml, hown, hts, hM, hX, hbl, hfl, hrt, hlk, hL⟩ := id C0
  have hbA : ¬ (fun q : Nat => s.heap.size ≤ q) sb := Nat.not_le.mpr hbl
  have hL31 : L < 2 ^ 31 := Nat.lt_of_le_of_lt hL (by decide)
  obtain ⟨tr', qs', g', trc', qsc', gc', od', n', tri', qsi', gi', fc', hc', v1', v2', v3', v4', trs', qss', gs', iz', u', ln', th', ga', sv', sl', fo', k, bb, fr, lo, hk3, hfr, hlo, hcL, hcM, hth, hval, hinv'⟩ := s_add l hfl D tc zb x0 as b bs bo tr qs g trc qsc gc od n tri qsi gi fc hc v1 v2 v3 v4 trs qss gs iz u ln th ga sv sl fo hinv (xs (i + 1))
  refine lv_aload_n hx hb dL_law_1067 rfl (lv_at hl 3 rfl) ?_
  refine lv_aload_n hx hb dL_law_1068 rfl (lv_at hl 4 rfl) ?_
  refine lv_iload hx hb dL_law_1069 (lv_at hl 0 rfl) ?_
  refine lv_iconst (v := nI 1) hx hb dL_law_1071 (by decide) ?_
  refine ln_iadd hx hb dL_law_1072 ?_
  refine lx_sld hx hb hX hbl hbA hS (by omega) hL31 dL_law_1073 ?_
  refine lv_aload_n hx hb dL_law_1074 rfl (lv_at hl 1 rfl) ?_
  refine ipF_SW (n := 3) ⟨hx, hb, hml, hown, hts⟩ hM hS hP hD (IPn.app hcL (w_md tc b (bs 0) (bs 1) (bs 2) (bs 3) (bs 4) (bs 5) th g ga sv n sl iz u ln)) gL_law_L_add rfl (by decide +kernel) ⟨Nat.le_of_ble_eq_true rfl, Nat.le_of_ble_eq_true rfl⟩ rfl rfl hl.1 rfl (Nat.le_of_ble_eq_true rfl) dL_law_1075 ⟨by show _ ≤ 601024; omega, by show _ ≤ 7293033; omega⟩ (fun H locs hP hD hS => ?_)
  refine W.eq (g2 := F0 m 1078 ls [.int (nI k)]) rfl ?_
  refine lv_istore (lv' := [(5, .int (nI k)), (4, .int (nI i)), (3, .ref bo), (2, .ref b), (1, .ref x0), (0, .ref sb)]) hx hb dL_law_1078 hl (by decide) rfl (fun ls hl => ?_)
  refine lv_aload_n hx hb dL_law_1080 rfl (lv_at hl 3 rfl) ?_
  refine lv_aload_n hx hb dL_law_1081 rfl (lv_at hl 5 rfl) ?_
  refine lv_iload hx hb dL_law_1082 (lv_at hl 1 rfl) ?_
  refine lv_iconst (v := nI 1) hx hb dL_law_1084 (by decide) ?_
  refine ln_iadd hx hb dL_law_1085 ?_
  refine lx_sld hx hb hX hbl hbA hS (by omega) hL31 dL_law_1086 ?_
  refine ipF_V (C := RX7) (n := 1) ⟨hx, hb, hml, hown, hts⟩ hM hS hP hD (IPn.appl (mc := 0) (ms := 0) hcM ((CW tc x0 as tr' qs' g' trc' qsc' gc' od' n' tri' qsi' gi' fc' hc' v1' v2' v3' v4' trs' qss' gs' iz' u' ln') ++ [w_o tc bo fo'])) gL_law_X7_add rfl (by decide +kernel) ⟨Nat.le_trans (Nat.succ_le_succ hfr) (by decide), Nat.le_trans (Nat.add_le_add_left hlo _) (by decide)⟩ rfl (va_recv hM.1 (va_P_r hP) (ci := 6) (q0 := 0) rfl rfl) rfl hl.1 rfl (Nat.le_of_ble_eq_true rfl) dL_law_1087 ⟨by show _ ≤ 601024; omega, by show _ ≤ 7293033; omega⟩ (fun H locs hP hD hS => ?_)
  refine W.eq (g2 := F0 m 1090 ls [.int bb]) rfl ?_
  refine lv_istore (lv' := [(6, .int bb), (5, .int (nI k)), (4, .int (nI i)), (3, .ref bo), (2, .ref b), (1, .ref x0), (0, .ref sb)]) hx hb dL_law_1090 hl (by decide) rfl (fun ls hl => ?_)
  refine lv_aload_n hx hb dL_law_1092 rfl (lv_at hl 4 rfl) ?_
  refine ro_V (C := RX7) (n := 0) ⟨hx, hb, hml, hown, hts⟩ hM hS (va_P_r hP) (RO.up (c7_thrown l D tc zb b th' (fun k9 => match k9 with | 1 => .ref (bs 0) | 2 => .ref (bs 1) | 3 => .ref (bs 2) | 4 => .int (nI n') | 5 => .ref (bs 3) | 6 => .ref (bs 4) | 7 => .ref (bs 5) | 8 => .int (nI ln') | _ => .null)) [0] rfl) gL_law_X7_thrown rfl (by decide +kernel) ⟨Nat.le_of_ble_eq_true rfl, Nat.le_of_ble_eq_true rfl⟩ [0, 1, 2, 3, 4, 5, 6] rfl (va_recv hM.1 (va_P_r hP) (ci := 6) (q0 := 0) rfl rfl) rfl hl.1 rfl (Nat.le_of_ble_eq_true rfl) dL_law_1093 ⟨by show _ ≤ 601024; omega, by show _ ≤ 7293033; omega⟩ ?_
  refine lv_iload hx hb dL_law_1096 (lv_at hl 1 rfl) ?_
  refine lv_icmp_eq (tgt := 1103) hx hb dL_law_1098 (by decide) (fun _ => ?_) (fun h9 => absurd hth h9)
  refine lv_iload hx hb dL_law_1103 (lv_at hl 1 rfl) ?_
  refine ln_if_ne (tgt := 1120) hx hb dL_law_1105 (by decide) (Nat.lt_trans hk3 (by decide)) (fun hk9 => ?_) (fun hk9 => ?_)
  · refine lv_goto (tgt := 1980) hx hb dL_law_1120 (by decide) ?_
    exact kk tr' qs' g' trc' qsc' gc' od' n' tri' qsi' gi' fc' hc' v1' v2' v3' v4' trs' qss' gs' iz' u' ln' th' ga' sv' sl' fo' hinv' _ _ hP hD hS _ (lv_sub hl [2, 3, 4, 5, 6] rfl)
  · refine lv_aload_n hx hb dL_law_1108 rfl (lv_at hl 3 rfl) ?_
    refine lv_iconst (v := nI 0) hx hb dL_law_1109 (by decide) ?_
    refine lx_lald hx hb hM.1 hP dL_law_1110 ?_
    refine lv_iload hx hb dL_law_1111 (lv_at hl 0 rfl) ?_
    refine lv_i2l (v := (bb).toInt64) hx hb dL_law_1113 rfl ?_
    refine W.lcmp hx hb dL_law_1114 ?_
    refine ln_lif_eq (tgt := 1120) hx hb dL_law_1115 (by decide) (fun _ => ?_) (fun h9 => absurd (hval hk9) h9)
    refine lv_goto (tgt := 1980) hx hb dL_law_1120 (by decide) ?_
    exact kk tr' qs' g' trc' qsc' gc' od' n' tri' qsi' gi' fc' hc' v1' v2' v3' v4' trs' qss' gs' iz' u' ln' th' ga' sv' sl' fo' hinv' _ _ hP hD hS _ (lv_sub hl [2, 3, 4, 5, 6] rfl)
set_option maxHeartbeats 4000000 in
set_option maxRecDepth 100000 in
theorem a_addAll {p : Program} {e : Env} {s : State} {m : MethodId} {below : List Frame} {meth : Method} {c : Code} (l : Launch) (D : va_G) (tc : Nat → ClassId) (zb x0 : Nat) (as : Nat → Nat) (b : Nat) (bs : Nat → Nat) (bo sb L : Nat) (xs : Nat → Int32) (i cells slots : Nat) (C0 : lw_C p s m meth c l D tc zb sb L xs) (kk : lw_K p l e s m below meth c D tc x0 as b bs bo sb i (cells + 1) (slots + 6)) (hi : i + 6 ≤ L) (hce : cells + 1 ≤ 601024) (hsl : slots + 6 ≤ 7293033) (tr : Nat → Int32) (qs : Nat → Int32) (g : Nat → Nat) (trc : Nat → Int32) (qsc : Nat → Int32) (gc : Nat → Nat) (od : Nat) (n : Nat) (tri : Nat → Nat → Int32) (qsi : Nat → Nat → Int32) (gi : Nat → Nat → Nat) (fc : Nat → Int32) (hc : Nat → Int32) (v1 : Int32) (v2 : Int32) (v3 : Int32) (v4 : Int32) (trs : Nat → Nat → Int32) (qss : Nat → Nat → Int32) (gs : Nat → Nat → Nat) (iz : Nat → Bool) (u : Nat → Nat) (ln : Nat) (th : Int32) (ga : Nat → Nat) (sv : Nat → Nat) (sl : Nat → Nat) (fo : Nat → Int64) (hinv : INV tr qs g od n tri qsi gi trs qss gs iz u ln sv sl) (H : Heap) (locs : List Loc) (hP : va_P D vwCl (((CW tc x0 as tr qs g trc qsc gc od n tri qsi gi fc hc v1 v2 v3 v4 trs qss gs iz u ln) ++ [w_o tc bo fo]) ++ (w_md tc b (bs 0) (bs 1) (bs 2) (bs 3) (bs 4) (bs 5) th g ga sv n sl iz u ln)) H) (hD : va_D (fun q => s.heap.size ≤ q) (((CW tc x0 as tr qs g trc qsc gc od n tri qsi gi fc hc v1 v2 v3 v4 trs qss gs iz u ln) ++ [w_o tc bo fo]) ++ (w_md tc b (bs 0) (bs 1) (bs 2) (bs 3) (bs 4) (bs 5) th g ga sv n sl iz u ln))) (hS : va_S (fun q => s.heap.size ≤ q) s.heap H locs) (ls : Array Slot) (hl : lv_has ls 7 [(4, .int (nI i)), (3, .ref bo), (2, .ref b), (1, .ref x0), (0, .ref sb)]) : W p l e room_1 s m #[Value.ref sb] below meth c H locs cells slots (lw_Z below #[Value.ref sb] s) (F0 m 1123 ls []) := by
  obtain ⟨hx, hb, hml, hown, hts, hM, hX, hbl, hfl, hrt, hlk, hL⟩ := id C0
  have hbA : ¬ (fun q : Nat => s.heap.size ≤ q) sb := Nat.not_le.mpr hbl
  have hL31 : L < 2 ^ 31 := Nat.lt_of_le_of_lt hL (by decide)
  obtain ⟨tr', qs', g', trc', qsc', gc', od', n', tri', qsi', gi', fc', hc', v1', v2', v3', v4', trs', qss', gs', iz', u', ln', th', ga', sv', sl', fo', k, bb, fr, lo, hk3, hfr, hlo, hcL, hcM, hth, hval, hinv'⟩ := s_addAll l hfl D tc zb x0 as b bs bo tr qs g trc qsc gc od n tri qsi gi fc hc v1 v2 v3 v4 trs qss gs iz u ln th ga sv sl fo hinv 
  refine lv_aload_n hx hb dL_law_1123 rfl (lv_at hl 3 rfl) ?_
  refine lv_aload_n hx hb dL_law_1124 rfl (lv_at hl 1 rfl) ?_
  refine ipF_SW (n := 2) ⟨hx, hb, hml, hown, hts⟩ hM hS hP hD (IPn.app hcL (w_md tc b (bs 0) (bs 1) (bs 2) (bs 3) (bs 4) (bs 5) th g ga sv n sl iz u ln)) gL_law_L_addAll rfl (by decide +kernel) ⟨Nat.le_of_ble_eq_true rfl, Nat.le_of_ble_eq_true rfl⟩ rfl rfl hl.1 rfl (Nat.le_of_ble_eq_true rfl) dL_law_1125 ⟨by show _ ≤ 601024; omega, by show _ ≤ 7293033; omega⟩ (fun H locs hP hD hS => ?_)
  refine W.eq (g2 := F0 m 1128 ls [.int (nI k)]) rfl ?_
  refine lv_istore (lv' := [(5, .int (nI k)), (4, .int (nI i)), (3, .ref bo), (2, .ref b), (1, .ref x0), (0, .ref sb)]) hx hb dL_law_1128 hl (by decide) rfl (fun ls hl => ?_)
  refine lv_aload_n hx hb dL_law_1130 rfl (lv_at hl 3 rfl) ?_
  refine ipF_V (C := RX7) (n := 0) ⟨hx, hb, hml, hown, hts⟩ hM hS hP hD (IPn.appl (mc := 0) (ms := 0) hcM ((CW tc x0 as tr' qs' g' trc' qsc' gc' od' n' tri' qsi' gi' fc' hc' v1' v2' v3' v4' trs' qss' gs' iz' u' ln') ++ [w_o tc bo fo'])) gL_law_X7_addAll rfl (by decide +kernel) ⟨Nat.le_trans (Nat.succ_le_succ hfr) (by decide), Nat.le_trans (Nat.add_le_add_left hlo _) (by decide)⟩ rfl (va_recv hM.1 (va_P_r hP) (ci := 6) (q0 := 0) rfl rfl) rfl hl.1 rfl (Nat.le_of_ble_eq_true rfl) dL_law_1131 ⟨by show _ ≤ 601024; omega, by show _ ≤ 7293033; omega⟩ (fun H locs hP hD hS => ?_)
  refine W.eq (g2 := F0 m 1134 ls [.int bb]) rfl ?_
  refine lv_istore (lv' := [(6, .int bb), (5, .int (nI k)), (4, .int (nI i)), (3, .ref bo), (2, .ref b), (1, .ref x0), (0, .ref sb)]) hx hb dL_law_1134 hl (by decide) rfl (fun ls hl => ?_)
  refine lv_aload_n hx hb dL_law_1136 rfl (lv_at hl 4 rfl) ?_
  refine ro_V (C := RX7) (n := 0) ⟨hx, hb, hml, hown, hts⟩ hM hS (va_P_r hP) (RO.up (c7_thrown l D tc zb b th' (fun k9 => match k9 with | 1 => .ref (bs 0) | 2 => .ref (bs 1) | 3 => .ref (bs 2) | 4 => .int (nI n') | 5 => .ref (bs 3) | 6 => .ref (bs 4) | 7 => .ref (bs 5) | 8 => .int (nI ln') | _ => .null)) [0] rfl) gL_law_X7_thrown rfl (by decide +kernel) ⟨Nat.le_of_ble_eq_true rfl, Nat.le_of_ble_eq_true rfl⟩ [0, 1, 2, 3, 4, 5, 6] rfl (va_recv hM.1 (va_P_r hP) (ci := 6) (q0 := 0) rfl rfl) rfl hl.1 rfl (Nat.le_of_ble_eq_true rfl) dL_law_1137 ⟨by show _ ≤ 601024; omega, by show _ ≤ 7293033; omega⟩ ?_
  refine lv_iload hx hb dL_law_1140 (lv_at hl 1 rfl) ?_
  refine lv_icmp_eq (tgt := 1147) hx hb dL_law_1142 (by decide) (fun _ => ?_) (fun h9 => absurd hth h9)
  refine lv_iload hx hb dL_law_1147 (lv_at hl 1 rfl) ?_
  refine ln_if_ne (tgt := 1164) hx hb dL_law_1149 (by decide) (Nat.lt_trans hk3 (by decide)) (fun hk9 => ?_) (fun hk9 => ?_)
  · refine lv_goto (tgt := 1980) hx hb dL_law_1164 (by decide) ?_
    exact kk tr' qs' g' trc' qsc' gc' od' n' tri' qsi' gi' fc' hc' v1' v2' v3' v4' trs' qss' gs' iz' u' ln' th' ga' sv' sl' fo' hinv' _ _ hP hD hS _ (lv_sub hl [2, 3, 4, 5, 6] rfl)
  · refine lv_aload_n hx hb dL_law_1152 rfl (lv_at hl 3 rfl) ?_
    refine lv_iconst (v := nI 0) hx hb dL_law_1153 (by decide) ?_
    refine lx_lald hx hb hM.1 hP dL_law_1154 ?_
    refine lv_iload hx hb dL_law_1155 (lv_at hl 0 rfl) ?_
    refine lv_i2l (v := (bb).toInt64) hx hb dL_law_1157 rfl ?_
    refine W.lcmp hx hb dL_law_1158 ?_
    refine ln_lif_eq (tgt := 1164) hx hb dL_law_1159 (by decide) (fun _ => ?_) (fun h9 => absurd (hval hk9) h9)
    refine lv_goto (tgt := 1980) hx hb dL_law_1164 (by decide) ?_
    exact kk tr' qs' g' trc' qsc' gc' od' n' tri' qsi' gi' fc' hc' v1' v2' v3' v4' trs' qss' gs' iz' u' ln' th' ga' sv' sl' fo' hinv' _ _ hP hD hS _ (lv_sub hl [2, 3, 4, 5, 6] rfl)
