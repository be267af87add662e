set_option maxHeartbeats 4000000 in
set_option maxRecDepth 100000 in
theorem a_remove {p : Program} {e : Env} {s : State} {m : MethodId} {below : List Frame} {meth : Method} {c : Code} (l : Launch) (D : va_G) (tc : Nat → ClassId) (zb x0 : Nat) (as : Nat → Nat) (b : Nat) (bs : Nat → Nat) (bo sb L : Nat) (xs : Nat → Int32) (i cells slots : Nat) (C0 : lw_C p s m meth c l D tc zb sb L xs) (kk : lw_K p l e s m below meth c D tc x0 as b bs bo sb i (cells + 1) (slots + 6)) (hi : i + 6 ≤ L) (hce : cells + 1 ≤ 601024) (hsl : slots + 6 ≤ 7293033) (tr : Nat → Int32) (qs : Nat → Int32) (g : Nat → Nat) (trc : Nat → Int32) (qsc : Nat → Int32) (gc : Nat → Nat) (od : Nat) (n : Nat) (tri : Nat → Nat → Int32) (qsi : Nat → Nat → Int32) (gi : Nat → Nat → Nat) (fc : Nat → Int32) (hc : Nat → Int32) (v1 : Int32) (v2 : Int32) (v3 : Int32) (v4 : Int32) (trs : Nat → Nat → Int32) (qss : Nat → Nat → Int32) (gs : Nat → Nat → Nat) (iz : Nat → Bool) (u : Nat → Nat) (ln : Nat) (th : Int32) (ga : Nat → Nat) (sv : Nat → Nat) (sl : Nat → Nat) (fo : Nat → Int64) (hinv : INV tr qs g od n tri qsi gi trs qss gs iz u ln sv sl) (H : Heap) (locs : List Loc) (hP : va_P D vwCl (((CW tc x0 as tr qs g trc qsc gc od n tri qsi gi fc hc v1 v2 v3 v4 trs qss gs iz u ln) ++ [w_o tc bo fo]) ++ (w_md tc b (bs 0) (bs 1) (bs 2) (bs 3) (bs 4) (bs 5) th g ga sv n sl iz u ln)) H) (hD : va_D (fun q => s.heap.size ≤ q) (((CW tc x0 as tr qs g trc qsc gc od n tri qsi gi fc hc v1 v2 v3 v4 trs qss gs iz u ln) ++ [w_o tc bo fo]) ++ (w_md tc b (bs 0) (bs 1) (bs 2) (bs 3) (bs 4) (bs 5) th g ga sv n sl iz u ln))) (hS : va_S (fun q => s.heap.size ≤ q) s.heap H locs) (ls : Array Slot) (hl : lv_has ls 7 [(4, .int (nI i)), (3, .ref bo), (2, .ref b), (1, .ref x0), (0, .ref sb)]) : W p l e room_1 s m #[Value.ref sb] below meth c H locs cells slots (lw_Z below #[Value.ref sb] s) (F0 m 1167 ls []) := by
  obtain ⟨hx, hb, hml, hown, hts, hM, hX, hbl, hfl, hrt, hlk, hL⟩ := id C0
  have hbA : ¬ (fun q : Nat => s.heap.size ≤ q) sb := Nat.not_le.mpr hbl
  have hL31 : L < 2 ^ 31 := Nat.lt_of_le_of_lt hL (by decide)
  obtain ⟨tr', qs', g', trc', qsc', gc', od', n', tri', qsi', gi', fc', hc', v1', v2', v3', v4', trs', qss', gs', iz', u', ln', th', ga', sv', sl', fo', k, bb, fr, lo, hk3, hfr, hlo, hcL, hcM, hth, hval, hinv'⟩ := s_remove l hfl D tc zb x0 as b bs bo tr qs g trc qsc gc od n tri qsi gi fc hc v1 v2 v3 v4 trs qss gs iz u ln th ga sv sl fo hinv (xs (i + 1))
  refine lv_aload_n hx hb dL_law_1167 rfl (lv_at hl 3 rfl) ?_
  refine lv_aload_n hx hb dL_law_1168 rfl (lv_at hl 4 rfl) ?_
  refine lv_iload hx hb dL_law_1169 (lv_at hl 0 rfl) ?_
  refine lv_iconst (v := nI 1) hx hb dL_law_1171 (by decide) ?_
  refine ln_iadd hx hb dL_law_1172 ?_
  refine lx_sld hx hb hX hbl hbA hS (by omega) hL31 dL_law_1173 ?_
  refine lv_aload_n hx hb dL_law_1174 rfl (lv_at hl 1 rfl) ?_
  refine ipF_SW (n := 3) ⟨hx, hb, hml, hown, hts⟩ hM hS hP hD (IPn.app hcL (w_md tc b (bs 0) (bs 1) (bs 2) (bs 3) (bs 4) (bs 5) th g ga sv n sl iz u ln)) gL_law_L_remove rfl (by decide +kernel) ⟨Nat.le_of_ble_eq_true rfl, Nat.le_of_ble_eq_true rfl⟩ rfl rfl hl.1 rfl (Nat.le_of_ble_eq_true rfl) dL_law_1175 ⟨by show _ ≤ 601024; omega, by show _ ≤ 7293033; omega⟩ (fun H locs hP hD hS => ?_)
  refine W.eq (g2 := F0 m 1178 ls [.int (nI k)]) rfl ?_
  refine lv_istore (lv' := [(5, .int (nI k)), (4, .int (nI i)), (3, .ref bo), (2, .ref b), (1, .ref x0), (0, .ref sb)]) hx hb dL_law_1178 hl (by decide) rfl (fun ls hl => ?_)
  refine lv_aload_n hx hb dL_law_1180 rfl (lv_at hl 3 rfl) ?_
  refine lv_aload_n hx hb dL_law_1181 rfl (lv_at hl 5 rfl) ?_
  refine lv_iload hx hb dL_law_1182 (lv_at hl 1 rfl) ?_
  refine lv_iconst (v := nI 1) hx hb dL_law_1184 (by decide) ?_
  refine ln_iadd hx hb dL_law_1185 ?_
  refine lx_sld hx hb hX hbl hbA hS (by omega) hL31 dL_law_1186 ?_
  refine ipF_V (C := RX7) (n := 1) ⟨hx, hb, hml, hown, hts⟩ hM hS hP hD (IPn.appl (mc := 0) (ms := 0) hcM ((CW tc x0 as tr' qs' g' trc' qsc' gc' od' n' tri' qsi' gi' fc' hc' v1' v2' v3' v4' trs' qss' gs' iz' u' ln') ++ [w_o tc bo fo'])) gL_law_X7_remove rfl (by decide +kernel) ⟨Nat.le_trans (Nat.succ_le_succ hfr) (by decide), Nat.le_trans (Nat.add_le_add_left hlo _) (by decide)⟩ rfl (va_recv hM.1 (va_P_r hP) (ci := 6) (q0 := 0) rfl rfl) rfl hl.1 rfl (Nat.le_of_ble_eq_true rfl) dL_law_1187 ⟨by show _ ≤ 601024; omega, by show _ ≤ 7293033; omega⟩ (fun H locs hP hD hS => ?_)
  refine W.eq (g2 := F0 m 1190 ls [.int bb]) rfl ?_
  refine lv_istore (lv' := [(6, .int bb), (5, .int (nI k)), (4, .int (nI i)), (3, .ref bo), (2, .ref b), (1, .ref x0), (0, .ref sb)]) hx hb dL_law_1190 hl (by decide) rfl (fun ls hl => ?_)
  refine lv_aload_n hx hb dL_law_1192 rfl (lv_at hl 4 rfl) ?_
  refine ro_V (C := RX7) (n := 0) ⟨hx, hb, hml, hown, hts⟩ hM hS (va_P_r hP) (RO.up (c7_thrown l D tc zb b th' (fun k9 => match k9 with | 1 => .ref (bs 0) | 2 => .ref (bs 1) | 3 => .ref (bs 2) | 4 => .int (nI n') | 5 => .ref (bs 3) | 6 => .ref (bs 4) | 7 => .ref (bs 5) | 8 => .int (nI ln') | _ => .null)) [0] rfl) gL_law_X7_thrown rfl (by decide +kernel) ⟨Nat.le_of_ble_eq_true rfl, Nat.le_of_ble_eq_true rfl⟩ [0, 1, 2, 3, 4, 5, 6] rfl (va_recv hM.1 (va_P_r hP) (ci := 6) (q0 := 0) rfl rfl) rfl hl.1 rfl (Nat.le_of_ble_eq_true rfl) dL_law_1193 ⟨by show _ ≤ 601024; omega, by show _ ≤ 7293033; omega⟩ ?_
  refine lv_iload hx hb dL_law_1196 (lv_at hl 1 rfl) ?_
  refine lv_icmp_eq (tgt := 1203) hx hb dL_law_1198 (by decide) (fun _ => ?_) (fun h9 => absurd hth h9)
  refine lv_iload hx hb dL_law_1203 (lv_at hl 1 rfl) ?_
  refine ln_if_ne (tgt := 1220) hx hb dL_law_1205 (by decide) (Nat.lt_trans hk3 (by decide)) (fun hk9 => ?_) (fun hk9 => ?_)
  · refine lv_goto (tgt := 1980) hx hb dL_law_1220 (by decide) ?_
    exact kk tr' qs' g' trc' qsc' gc' od' n' tri' qsi' gi' fc' hc' v1' v2' v3' v4' trs' qss' gs' iz' u' ln' th' ga' sv' sl' fo' hinv' _ _ hP hD hS _ (lv_sub hl [2, 3, 4, 5, 6] rfl)
  · refine lv_aload_n hx hb dL_law_1208 rfl (lv_at hl 3 rfl) ?_
    refine lv_iconst (v := nI 0) hx hb dL_law_1209 (by decide) ?_
    refine lx_lald hx hb hM.1 hP dL_law_1210 ?_
    refine lv_iload hx hb dL_law_1211 (lv_at hl 0 rfl) ?_
    refine lv_i2l (v := (bb).toInt64) hx hb dL_law_1213 rfl ?_
    refine W.lcmp hx hb dL_law_1214 ?_
    refine ln_lif_eq (tgt := 1220) hx hb dL_law_1215 (by decide) (fun _ => ?_) (fun h9 => absurd (hval hk9) h9)
    refine lv_goto (tgt := 1980) hx hb dL_law_1220 (by decide) ?_
    exact kk tr' qs' g' trc' qsc' gc' od' n' tri' qsi' gi' fc' hc' v1' v2' v3' v4' trs' qss' gs' iz' u' ln' th' ga' sv' sl' fo' hinv' _ _ hP hD hS _ (lv_sub hl [2, 3, 4, 5, 6] rfl)
set_option maxHeartbeats 4000000 in
set_option maxRecDepth 100000 in
theorem a_ask {p : Program} {e : Env} {s : State} {m : MethodId} {below : List Frame} {meth : Method} {c : Code} (l : Launch) (D : va_G) (tc : Nat → ClassId) (zb x0 : Nat) (as : Nat → Nat) (b : Nat) (bs : Nat → Nat) (bo sb L : Nat) (xs : Nat → Int32) (i cells slots : Nat) (C0 : lw_C p s m meth c l D tc zb sb L xs) (kk : lw_K p l e s m below meth c D tc x0 as b bs bo sb i (cells + 1) (slots + 6)) (hi : i + 6 ≤ L) (hce : cells + 1 ≤ 601024) (hsl : slots + 6 ≤ 7293033) (tr : Nat → Int32) (qs : Nat → Int32) (g : Nat → Nat) (trc : Nat → Int32) (qsc : Nat → Int32) (gc : Nat → Nat) (od : Nat) (n : Nat) (tri : Nat → Nat → Int32) (qsi : Nat → Nat → Int32) (gi : Nat → Nat → Nat) (fc : Nat → Int32) (hc : Nat → Int32) (v1 : Int32) (v2 : Int32) (v3 : Int32) (v4 : Int32) (trs : Nat → Nat → Int32) (qss : Nat → Nat → Int32) (gs : Nat → Nat → Nat) (iz : Nat → Bool) (u : Nat → Nat) (ln : Nat) (th : Int32) (ga : Nat → Nat) (sv : Nat → Nat) (sl : Nat → Nat) (fo : Nat → Int64) (hinv : INV tr qs g od n tri qsi gi trs qss gs iz u ln sv sl) (H : Heap) (locs : List Loc) (hP : va_P D vwCl (((CW tc x0 as tr qs g trc qsc gc od n tri qsi gi fc hc v1 v2 v3 v4 trs qss gs iz u ln) ++ [w_o tc bo fo]) ++ (w_md tc b (bs 0) (bs 1) (bs 2) (bs 3) (bs 4) (bs 5) th g ga sv n sl iz u ln)) H) (hD : va_D (fun q => s.heap.size ≤ q) (((CW tc x0 as tr qs g trc qsc gc od n tri qsi gi fc hc v1 v2 v3 v4 trs qss gs iz u ln) ++ [w_o tc bo fo]) ++ (w_md tc b (bs 0) (bs 1) (bs 2) (bs 3) (bs 4) (bs 5) th g ga sv n sl iz u ln))) (hS : va_S (fun q => s.heap.size ≤ q) s.heap H locs) (ls : Array Slot) (hl : lv_has ls 7 [(4, .int (nI i)), (3, .ref bo), (2, .ref b), (1, .ref x0), (0, .ref sb)]) : W p l e room_1 s m #[Value.ref sb] below meth c H locs cells slots (lw_Z below #[Value.ref sb] s) (F0 m 1223 ls []) := by
  obtain ⟨hx, hb, hml, hown, hts, hM, hX, hbl, hfl, hrt, hlk, hL⟩ := id C0
  have hbA : ¬ (fun q : Nat => s.heap.size ≤ q) sb := Nat.not_le.mpr hbl
  have hL31 : L < 2 ^ 31 := Nat.lt_of_le_of_lt hL (by decide)
  obtain ⟨tr', qs', g', trc', qsc', gc', od', n', tri', qsi', gi', fc', hc', v1', v2', v3', v4', trs', qss', gs', iz', u', ln', th', ga', sv', sl', fo', k, bb, fr, lo, hk3, hfr, hlo, hcL, hcM, hth, hval, hinv'⟩ := s_ask l hfl D tc zb x0 as b bs bo tr qs g trc qsc gc od n tri qsi gi fc hc v1 v2 v3 v4 trs qss gs iz u ln th ga sv sl fo hinv (xs (i + 1))
  refine lv_aload_n hx hb dL_law_1223 rfl (lv_at hl 3 rfl) ?_
  refine lv_aload_n hx hb dL_law_1224 rfl (lv_at hl 4 rfl) ?_
  refine lv_iload hx hb dL_law_1225 (lv_at hl 0 rfl) ?_
  refine lv_iconst (v := nI 1) hx hb dL_law_1227 (by decide) ?_
  refine ln_iadd hx hb dL_law_1228 ?_
  refine lx_sld hx hb hX hbl hbA hS (by omega) hL31 dL_law_1229 ?_
  refine lv_aload_n hx hb dL_law_1230 rfl (lv_at hl 1 rfl) ?_
  refine ipF_SW (n := 3) ⟨hx, hb, hml, hown, hts⟩ hM hS hP hD (IPn.app hcL (w_md tc b (bs 0) (bs 1) (bs 2) (bs 3) (bs 4) (bs 5) th g ga sv n sl iz u ln)) gL_law_L_ask rfl (by decide +kernel) ⟨Nat.le_of_ble_eq_true rfl, Nat.le_of_ble_eq_true rfl⟩ rfl rfl hl.1 rfl (Nat.le_of_ble_eq_true rfl) dL_law_1231 ⟨by show _ ≤ 601024; omega, by show _ ≤ 7293033; omega⟩ (fun H locs hP hD hS => ?_)
  refine W.eq (g2 := F0 m 1234 ls [.int (nI k)]) rfl ?_
  refine lv_istore (lv' := [(5, .int (nI k)), (4, .int (nI i)), (3, .ref bo), (2, .ref b), (1, .ref x0), (0, .ref sb)]) hx hb dL_law_1234 hl (by decide) rfl (fun ls hl => ?_)
  refine lv_aload_n hx hb dL_law_1236 rfl (lv_at hl 3 rfl) ?_
  refine lv_aload_n hx hb dL_law_1237 rfl (lv_at hl 5 rfl) ?_
  refine lv_iload hx hb dL_law_1238 (lv_at hl 1 rfl) ?_
  refine lv_iconst (v := nI 1) hx hb dL_law_1240 (by decide) ?_
  refine ln_iadd hx hb dL_law_1241 ?_
  refine lx_sld hx hb hX hbl hbA hS (by omega) hL31 dL_law_1242 ?_
  refine ipF_V (C := RX7) (n := 1) ⟨hx, hb, hml, hown, hts⟩ hM hS hP hD (IPn.appl (mc := 0) (ms := 0) hcM ((CW tc x0 as tr' qs' g' trc' qsc' gc' od' n' tri' qsi' gi' fc' hc' v1' v2' v3' v4' trs' qss' gs' iz' u' ln') ++ [w_o tc bo fo'])) gL_law_X7_ask rfl (by decide +kernel) ⟨Nat.le_trans (Nat.succ_le_succ hfr) (by decide), Nat.le_trans (Nat.add_le_add_left hlo _) (by decide)⟩ rfl (va_recv hM.1 (va_P_r hP) (ci := 6) (q0 := 0) rfl rfl) rfl hl.1 rfl (Nat.le_of_ble_eq_true rfl) dL_law_1243 ⟨by show _ ≤ 601024; omega, by show _ ≤ 7293033; omega⟩ (fun H locs hP hD hS => ?_)
  refine W.eq (g2 := F0 m 1246 ls [.int bb]) rfl ?_
  refine lv_istore (lv' := [(6, .int bb), (5, .int (nI k)), (4, .int (nI i)), (3, .ref bo), (2, .ref b), (1, .ref x0), (0, .ref sb)]) hx hb dL_law_1246 hl (by decide) rfl (fun ls hl => ?_)
  refine lv_aload_n hx hb dL_law_1248 rfl (lv_at hl 4 rfl) ?_
  refine ro_V (C := RX7) (n := 0) ⟨hx, hb, hml, hown, hts⟩ hM hS (va_P_r hP) (RO.up (c7_thrown l D tc zb b th' (fun k9 => match k9 with | 1 => .ref (bs 0) | 2 => .ref (bs 1) | 3 => .ref (bs 2) | 4 => .int (nI n') | 5 => .ref (bs 3) | 6 => .ref (bs 4) | 7 => .ref (bs 5) | 8 => .int (nI ln') | _ => .null)) [0] rfl) gL_law_X7_thrown rfl (by decide +kernel) ⟨Nat.le_of_ble_eq_true rfl, Nat.le_of_ble_eq_true rfl⟩ [0, 1, 2, 3, 4, 5, 6] rfl (va_recv hM.1 (va_P_r hP) (ci := 6) (q0 := 0) rfl rfl) rfl hl.1 rfl (Nat.le_of_ble_eq_true rfl) dL_law_1249 ⟨by show _ ≤ 601024; omega, by show _ ≤ 7293033; omega⟩ ?_
  refine lv_iload hx hb dL_law_1252 (lv_at hl 1 rfl) ?_
  refine lv_icmp_eq (tgt := 1259) hx hb dL_law_1254 (by decide) (fun _ => ?_) (fun h9 => absurd hth h9)
  refine lv_iload hx hb dL_law_1259 (lv_at hl 1 rfl) ?_
  refine ln_if_ne (tgt := 1276) hx hb dL_law_1261 (by decide) (Nat.lt_trans hk3 (by decide)) (fun hk9 => ?_) (fun hk9 => ?_)
  · refine lv_goto (tgt := 1980) hx hb dL_law_1276 (by decide) ?_
    exact kk tr' qs' g' trc' qsc' gc' od' n' tri' qsi' gi' fc' hc' v1' v2' v3' v4' trs' qss' gs' iz' u' ln' th' ga' sv' sl' fo' hinv' _ _ hP hD hS _ (lv_sub hl [2, 3, 4, 5, 6] rfl)
  · refine lv_aload_n hx hb dL_law_1264 rfl (lv_at hl 3 rfl) ?_
    refine lv_iconst (v := nI 0) hx hb dL_law_1265 (by decide) ?_
    refine lx_lald hx hb hM.1 hP dL_law_1266 ?_
    refine lv_iload hx hb dL_law_1267 (lv_at hl 0 rfl) ?_
    refine lv_i2l (v := (bb).toInt64) hx hb dL_law_1269 rfl ?_
    refine W.lcmp hx hb dL_law_1270 ?_
    refine ln_lif_eq (tgt := 1276) hx hb dL_law_1271 (by decide) (fun _ => ?_) (fun h9 => absurd (hval hk9) h9)
    refine lv_goto (tgt := 1980) hx hb dL_law_1276 (by decide) ?_
    exact kk tr' qs' g' trc' qsc' gc' od' n' tri' qsi' gi' fc' hc' v1' v2' v3' v4' trs' qss' gs' iz' u' ln' th' ga' sv' sl' fo' hinv' _ _ hP hD hS _ (lv_sub hl [2, 3, 4, 5, 6] rfl)
set_option maxHeartbeats 4000000 in
set_option maxRecDepth 100000 in
theorem a_build {p : Program} {e : Env} {s : State} {m : MethodId} {below : List Frame} {meth : Method} {c : Code} (l : Launch) (D : va_G) (tc : Nat → ClassId) (zb x0 : Nat) (as : Nat → Nat) (b : Nat) (bs : Nat → Nat) (bo sb L : Nat) (xs : Nat → Int32) (i cells slots : Nat) (C0 : lw_C p s m meth c l D tc zb sb L xs) (kk : lw_K p l e s m below meth c D tc x0 as b bs bo sb i (cells + 1) (slots + 6)) (hi : i + 6 ≤ L) (hce : cells + 1 ≤ 601024) (hsl : slots + 6 ≤ 7293033) (tr : Nat → Int32) (qs : Nat → Int32) (g : Nat → Nat) (trc : Nat → Int32) (qsc : Nat → Int32) (gc : Nat → Nat) (od : Nat) (n : Nat) (tri : Nat → Nat → Int32) (qsi : Nat → Nat → Int32) (gi : Nat → Nat → Nat) (fc : Nat → Int32) (hc : Nat → Int32) (v1 : Int32) (v2 : Int32) (v3 : Int32) (v4 : Int32) (trs : Nat → Nat → Int32) (qss : Nat → Nat → Int32) (gs : Nat → Nat → Nat) (iz : Nat → Bool) (u : Nat → Nat) (ln : Nat) (th : Int32) (ga : Nat → Nat) (sv : Nat → Nat) (sl : Nat → Nat) (fo : Nat → Int64) (hinv : INV tr qs g od n tri qsi gi trs qss gs iz u ln sv sl) (H : Heap) (locs : List Loc) (hP : va_P D vwCl (((CW tc x0 as tr qs g trc qsc gc od n tri qsi gi fc hc v1 v2 v3 v4 trs qss gs iz u ln) ++ [w_o tc bo fo]) ++ (w_md tc b (bs 0) (bs 1) (bs 2) (bs 3) (bs 4) (bs 5) th g ga sv n sl iz u ln)) H) (hD : va_D (fun q => s.heap.size ≤ q) (((CW tc x0 as tr qs g trc qsc gc od n tri qsi gi fc hc v1 v2 v3 v4 trs qss gs iz u ln) ++ [w_o tc bo fo]) ++ (w_md tc b (bs 0) (bs 1) (bs 2) (bs 3) (bs 4) (bs 5) th g ga sv n sl iz u ln))) (hS : va_S (fun q => s.heap.size ≤ q) s.heap H locs) (ls : Array Slot) (hl : lv_has ls 7 [(4, .int (nI i)), (3, .ref bo), (2, .ref b), (1, .ref x0), (0, .ref sb)]) : W p l e room_1 s m #[Value.ref sb] below meth c H locs cells slots (lw_Z below #[Value.ref sb] s) (F0 m 1279 ls []) := by
  obtain ⟨hx, hb, hml, hown, hts, hM, hX, hbl, hfl, hrt, hlk, hL⟩ := id C0
  have hbA : ¬ (fun q : Nat => s.heap.size ≤ q) sb := Nat.not_le.mpr hbl
  have hL31 : L < 2 ^ 31 := Nat.lt_of_le_of_lt hL (by decide)
  obtain ⟨tr', qs', g', trc', qsc', gc', od', n', tri', qsi', gi', fc', hc', v1', v2', v3', v4', trs', qss', gs', iz', u', ln', th', ga', sv', sl', fo', k, bb, fr, lo, hk3, hfr, hlo, hcL, hcM, hth, hval, hinv'⟩ := s_build l hfl D tc zb x0 as b bs bo tr qs g trc qsc gc od n tri qsi gi fc hc v1 v2 v3 v4 trs qss gs iz u ln th ga sv sl fo hinv (xs (i + 1))
  refine lv_aload_n hx hb dL_law_1279 rfl (lv_at hl 3 rfl) ?_
  refine lv_aload_n hx hb dL_law_1280 rfl (lv_at hl 4 rfl) ?_
  refine lv_iload hx hb dL_law_1281 (lv_at hl 0 rfl) ?_
  refine lv_iconst (v := nI 1) hx hb dL_law_1283 (by decide) ?_
  refine ln_iadd hx hb dL_law_1284 ?_
  refine lx_sld hx hb hX hbl hbA hS (by omega) hL31 dL_law_1285 ?_
  refine lv_aload_n hx hb dL_law_1286 rfl (lv_at hl 1 rfl) ?_
  refine ipF_SW (n := 3) ⟨hx, hb, hml, hown, hts⟩ hM hS hP hD (IPn.app hcL (w_md tc b (bs 0) (bs 1) (bs 2) (bs 3) (bs 4) (bs 5) th g ga sv n sl iz u ln)) gL_law_L_build rfl (by decide +kernel) ⟨Nat.le_of_ble_eq_true rfl, Nat.le_of_ble_eq_true rfl⟩ rfl rfl hl.1 rfl (Nat.le_of_ble_eq_true rfl) dL_law_1287 ⟨by show _ ≤ 601024; omega, by show _ ≤ 7293033; omega⟩ (fun H locs hP hD hS => ?_)
  refine W.eq (g2 := F0 m 1290 ls [.int (nI k)]) rfl ?_
  refine lv_istore (lv' := [(5, .int (nI k)), (4, .int (nI i)), (3, .ref bo), (2, .ref b), (1, .ref x0), (0, .ref sb)]) hx hb dL_law_1290 hl (by decide) rfl (fun ls hl => ?_)
  refine lv_aload_n hx hb dL_law_1292 rfl (lv_at hl 3 rfl) ?_
  refine lv_aload_n hx hb dL_law_1293 rfl (lv_at hl 5 rfl) ?_
  refine lv_iload hx hb dL_law_1294 (lv_at hl 1 rfl) ?_
  refine lv_iconst (v := nI 1) hx hb dL_law_1296 (by decide) ?_
  refine ln_iadd hx hb dL_law_1297 ?_
  refine lx_sld hx hb hX hbl hbA hS (by omega) hL31 dL_law_1298 ?_
  refine ipF_V (C := RX7) (n := 1) ⟨hx, hb, hml, hown, hts⟩ hM hS hP hD (IPn.appl (mc := 0) (ms := 0) hcM ((CW tc x0 as tr' qs' g' trc' qsc' gc' od' n' tri' qsi' gi' fc' hc' v1' v2' v3' v4' trs' qss' gs' iz' u' ln') ++ [w_o tc bo fo'])) gL_law_X7_build rfl (by decide +kernel) ⟨Nat.le_trans (Nat.succ_le_succ hfr) (by decide), Nat.le_trans (Nat.add_le_add_left hlo _) (by decide)⟩ rfl (va_recv hM.1 (va_P_r hP) (ci := 6) (q0 := 0) rfl rfl) rfl hl.1 rfl (Nat.le_of_ble_eq_true rfl) dL_law_1299 ⟨by show _ ≤ 601024; omega, by show _ ≤ 7293033; omega⟩ (fun H locs hP hD hS => ?_)
  refine W.eq (g2 := F0 m 1302 ls [.int bb]) rfl ?_
  refine lv_istore (lv' := [(6, .int bb), (5, .int (nI k)), (4, .int (nI i)), (3, .ref bo), (2, .ref b), (1, .ref x0), (0, .ref sb)]) hx hb dL_law_1302 hl (by decide) rfl (fun ls hl => ?_)
  refine lv_aload_n hx hb dL_law_1304 rfl (lv_at hl 4 rfl) ?_
  refine ro_V (C := RX7) (n := 0) ⟨hx, hb, hml, hown, hts⟩ hM hS (va_P_r hP) (RO.up (c7_thrown l D tc zb b th' (fun k9 => match k9 with | 1 => .ref (bs 0) | 2 => .ref (bs 1) | 3 => .ref (bs 2) | 4 => .int (nI n') | 5 => .ref (bs 3) | 6 => .ref (bs 4) | 7 => .ref (bs 5) | 8 => .int (nI ln') | _ => .null)) [0] rfl) gL_law_X7_thrown rfl (by decide +kernel) ⟨Nat.le_of_ble_eq_true rfl, Nat.le_of_ble_eq_true rfl⟩ [0, 1, 2, 3, 4, 5, 6] rfl (va_recv hM.1 (va_P_r hP) (ci := 6) (q0 := 0) rfl rfl) rfl hl.1 rfl (Nat.le_of_ble_eq_true rfl) dL_law_1305 ⟨by show _ ≤ 601024; omega, by show _ ≤ 7293033; omega⟩ ?_
  refine lv_iload hx hb dL_law_1308 (lv_at hl 1 rfl) ?_
  refine lv_icmp_eq (tgt := 1315) hx hb dL_law_1310 (by decide) (fun _ => ?_) (fun h9 => absurd hth h9)
  refine lv_iload hx hb dL_law_1315 (lv_at hl 1 rfl) ?_
  refine ln_if_ne (tgt := 1332) hx hb dL_law_1317 (by decide) (Nat.lt_trans hk3 (by decide)) (fun hk9 => ?_) (fun hk9 => ?_)
  · refine lv_goto (tgt := 1980) hx hb dL_law_1332 (by decide) ?_
    exact kk tr' qs' g' trc' qsc' gc' od' n' tri' qsi' gi' fc' hc' v1' v2' v3' v4' trs' qss' gs' iz' u' ln' th' ga' sv' sl' fo' hinv' _ _ hP hD hS _ (lv_sub hl [2, 3, 4, 5, 6] rfl)
  · refine lv_aload_n hx hb dL_law_1320 rfl (lv_at hl 3 rfl) ?_
    refine lv_iconst (v := nI 0) hx hb dL_law_1321 (by decide) ?_
    refine lx_lald hx hb hM.1 hP dL_law_1322 ?_
    refine lv_iload hx hb dL_law_1323 (lv_at hl 0 rfl) ?_
    refine lv_i2l (v := (bb).toInt64) hx hb dL_law_1325 rfl ?_
    refine W.lcmp hx hb dL_law_1326 ?_
    refine ln_lif_eq (tgt := 1332) hx hb dL_law_1327 (by decide) (fun _ => ?_) (fun h9 => absurd (hval hk9) h9)
    refine lv_goto (tgt := 1980) hx hb dL_law_1332 (by decide) ?_
    exact kk tr' qs' g' trc' qsc' gc' od' n' tri' qsi' gi' fc' hc' v1' v2' v3' v4' trs' qss' gs' iz' u' ln' th' ga' sv' sl' fo' hinv' _ _ hP hD hS _ (lv_sub hl [2, 3, 4, 5, 6] rfl)
set_option maxHeartbeats 4000000 in
set_option maxRecDepth 100000 in
theorem a_drop {p : Program} {e : Env} {s : State} {m : MethodId} {below : List Frame} {meth : Method} {c : Code} (l : Launch) (D : va_G) (tc : Nat → ClassId) (zb x0 : Nat) (as : Nat → Nat) (b : Nat) (bs : Nat → Nat) (bo sb L : Nat) (xs : Nat → Int32) (i cells slots : Nat) (C0 : lw_C p s m meth c l D tc zb sb L xs) (kk : lw_K p l e s m below meth c D tc x0 as b bs bo sb i (cells + 1) (slots + 6)) (hi : i + 6 ≤ L) (hce : cells + 1 ≤ 601024) (hsl : slots + 6 ≤ 7293033) (tr : Nat → Int32) (qs : Nat → Int32) (g : Nat → Nat) (trc : Nat → Int32) (qsc : Nat → Int32) (gc : Nat → Nat) (od : Nat) (n : Nat) (tri : Nat → Nat → Int32) (qsi : Nat → Nat → Int32) (gi : Nat → Nat → Nat) (fc : Nat → Int32) (hc : Nat → Int32) (v1 : Int32) (v2 : Int32) (v3 : Int32) (v4 : Int32) (trs : Nat → Nat → Int32) (qss : Nat → Nat → Int32) (gs : Nat → Nat → Nat) (iz : Nat → Bool) (u : Nat → Nat) (ln : Nat) (th : Int32) (ga : Nat → Nat) (sv : Nat → Nat) (sl : Nat → Nat) (fo : Nat → Int64) (hinv : INV tr qs g od n tri qsi gi trs qss gs iz u ln sv sl) (H : Heap) (locs : List Loc) (hP : va_P D vwCl (((CW tc x0 as tr qs g trc qsc gc od n tri qsi gi fc hc v1 v2 v3 v4 trs qss gs iz u ln) ++ [w_o tc bo fo]) ++ (w_md tc b (bs 0) (bs 1) (bs 2) (bs 3) (bs 4) (bs 5) th g ga sv n sl iz u ln)) H) (hD : va_D (fun q => s.heap.size ≤ q) (((CW tc x0 as tr qs g trc qsc gc od n tri qsi gi fc hc v1 v2 v3 v4 trs qss gs iz u ln) ++ [w_o tc bo fo]) ++ (w_md tc b (bs 0) (bs 1) (bs 2) (bs 3) (bs 4) (bs 5) th g ga sv n sl iz u ln))) (hS : va_S (fun q => s.heap.size ≤ q) s.heap H locs) (ls : Array Slot) (hl : lv_has ls 7 [(4, .int (nI i)), (3, .ref bo), (2, .ref b), (1, .ref x0), (0, .ref sb)]) : W p l e room_1 s m #[Value.ref sb] below meth c H locs cells slots (lw_Z below #[Value.ref sb] s) (F0 m 1335 ls []) := by
  obtain ⟨hx, hb, hml, hown, hts, hM, hX, hbl, hfl, hrt, hlk, hL⟩ := id C0
  have hbA : ¬ (fun q : Nat => s.heap.size ≤ q) sb := Nat.not_le.mpr hbl
  have hL31 : L < 2 ^ 31 := Nat.lt_of_le_of_lt hL (by decide)
  obtain ⟨tr', qs', g', trc', qsc', gc', od', n', tri', qsi', gi', fc', hc', v1', v2', v3', v4', trs', qss', gs', iz', u', ln', th', ga', sv', sl', fo', k, bb, fr, lo, hk3, hfr, hlo, hcL, hcM, hth, hval, hinv'⟩ := s_drop l hfl D tc zb x0 as b bs bo tr qs g trc qsc gc od n tri qsi gi fc hc v1 v2 v3 v4 trs qss gs iz u ln th ga sv sl fo hinv (xs (i + 1))
  refine lv_aload_n hx hb dL_law_1335 rfl (lv_at hl 3 rfl) ?_
  refine lv_aload_n hx hb dL_law_1336 rfl (lv_at hl 4 rfl) ?_
  refine lv_iload hx hb dL_law_1337 (lv_at hl 0 rfl) ?_
  refine lv_iconst (v := nI 1) hx hb dL_law_1339 (by decide) ?_
  refine ln_iadd hx hb dL_law_1340 ?_
  refine lx_sld hx hb hX hbl hbA hS (by omega) hL31 dL_law_1341 ?_
  refine lv_aload_n hx hb dL_law_1342 rfl (lv_at hl 1 rfl) ?_
  refine ipF_SW (n := 3) ⟨hx, hb, hml, hown, hts⟩ hM hS hP hD (IPn.app hcL (w_md tc b (bs 0) (bs 1) (bs 2) (bs 3) (bs 4) (bs 5) th g ga sv n sl iz u ln)) gL_law_L_drop rfl (by decide +kernel) ⟨Nat.le_of_ble_eq_true rfl, Nat.le_of_ble_eq_true rfl⟩ rfl rfl hl.1 rfl (Nat.le_of_ble_eq_true rfl) dL_law_1343 ⟨by show _ ≤ 601024; omega, by show _ ≤ 7293033; omega⟩ (fun H locs hP hD hS => ?_)
  refine W.eq (g2 := F0 m 1346 ls [.int (nI k)]) rfl ?_
  refine lv_istore (lv' := [(5, .int (nI k)), (4, .int (nI i)), (3, .ref bo), (2, .ref b), (1, .ref x0), (0, .ref sb)]) hx hb dL_law_1346 hl (by decide) rfl (fun ls hl => ?_)
  refine lv_aload_n hx hb dL_law_1348 rfl (lv_at hl 3 rfl) ?_
  refine lv_aload_n hx hb dL_law_1349 rfl (lv_at hl 5 rfl) ?_
  refine lv_iload hx hb dL_law_1350 (lv_at hl 1 rfl) ?_
  refine lv_iconst (v := nI 1) hx hb dL_law_1352 (by decide) ?_
  refine ln_iadd hx hb dL_law_1353 ?_
  refine lx_sld hx hb hX hbl hbA hS (by omega) hL31 dL_law_1354 ?_
  refine ipF_V (C := RX7) (n := 1) ⟨hx, hb, hml, hown, hts⟩ hM hS hP hD (IPn.appl (mc := 0) (ms := 0) hcM ((CW tc x0 as tr' qs' g' trc' qsc' gc' od' n' tri' qsi' gi' fc' hc' v1' v2' v3' v4' trs' qss' gs' iz' u' ln') ++ [w_o tc bo fo'])) gL_law_X7_drop rfl (by decide +kernel) ⟨Nat.le_trans (Nat.succ_le_succ hfr) (by decide), Nat.le_trans (Nat.add_le_add_left hlo _) (by decide)⟩ rfl (va_recv hM.1 (va_P_r hP) (ci := 6) (q0 := 0) rfl rfl) rfl hl.1 rfl (Nat.le_of_ble_eq_true rfl) dL_law_1355 ⟨by show _ ≤ 601024; omega, by show _ ≤ 7293033; omega⟩ (fun H locs hP hD hS => ?_)
  refine W.eq (g2 := F0 m 1358 ls [.int bb]) rfl ?_
  refine lv_istore (lv' := [(6, .int bb), (5, .int (nI k)), (4, .int (nI i)), (3, .ref bo), (2, .ref b), (1, .ref x0), (0, .ref sb)]) hx hb dL_law_1358 hl (by decide) rfl (fun ls hl => ?_)
  refine lv_aload_n hx hb dL_law_1360 rfl (lv_at hl 4 rfl) ?_
  refine ro_V (C := RX7) (n := 0) ⟨hx, hb, hml, hown, hts⟩ hM hS (va_P_r hP) (RO.up (c7_thrown l D tc zb b th' (fun k9 => match k9 with | 1 => .ref (bs 0) | 2 => .ref (bs 1) | 3 => .ref (bs 2) | 4 => .int (nI n') | 5 => .ref (bs 3) | 6 => .ref (bs 4) | 7 => .ref (bs 5) | 8 => .int (nI ln') | _ => .null)) [0] rfl) gL_law_X7_thrown rfl (by decide +kernel) ⟨Nat.le_of_ble_eq_true rfl, Nat.le_of_ble_eq_true rfl⟩ [0, 1, 2, 3, 4, 5, 6] rfl (va_recv hM.1 (va_P_r hP) (ci := 6) (q0 := 0) rfl rfl) rfl hl.1 rfl (Nat.le_of_ble_eq_true rfl) dL_law_1361 ⟨by show _ ≤ 601024; omega, by show _ ≤ 7293033; omega⟩ ?_
  refine lv_iload hx hb dL_law_1364 (lv_at hl 1 rfl) ?_
  refine lv_icmp_eq (tgt := 1371) hx hb dL_law_1366 (by decide) (fun _ => ?_) (fun h9 => absurd hth h9)
  refine lv_iload hx hb dL_law_1371 (lv_at hl 1 rfl) ?_
  refine ln_if_ne (tgt := 1388) hx hb dL_law_1373 (by decide) (Nat.lt_trans hk3 (by decide)) (fun hk9 => ?_) (fun hk9 => ?_)
  · refine lv_goto (tgt := 1980) hx hb dL_law_1388 (by decide) ?_
    exact kk tr' qs' g' trc' qsc' gc' od' n' tri' qsi' gi' fc' hc' v1' v2' v3' v4' trs' qss' gs' iz' u' ln' th' ga' sv' sl' fo' hinv' _ _ hP hD hS _ (lv_sub hl [2, 3, 4, 5, 6] rfl)
  · refine lv_aload_n hx hb dL_law_1376 rfl (lv_at hl 3 rfl) ?_
    refine lv_iconst (v := nI 0) hx hb dL_law_1377 (by decide) ?_
    refine lx_lald hx hb hM.1 hP dL_law_1378 ?_
    refine lv_iload hx hb dL_law_1379 (lv_at hl 0 rfl) ?_
    refine lv_i2l (v := (bb).toInt64) hx hb dL_law_1381 rfl ?_
    refine W.lcmp hx hb dL_law_1382 ?_
    refine ln_lif_eq (tgt := 1388) hx hb dL_law_1383 (by decide) (fun _ => ?_) (fun h9 => absurd (hval hk9) h9)
    refine lv_goto (tgt := 1980) hx hb dL_law_1388 (by decide) ?_
    exact kk tr' qs' g' trc' qsc' gc' od' n' tri' qsi' gi' fc' hc' v1' v2' v3' v4' trs' qss' gs' iz' u' ln' th' ga' sv' sl' fo' hinv' _ _ hP hD hS _ (lv_sub hl [2, 3, 4, 5, 6] rfl)
set_option maxHeartbeats 4000000 in
set_option maxRecDepth 100000 in
theorem a_tidy {p : Program} {e : Env} {s : State} {m : MethodId} {below : List Frame} {meth : Method} {c : Code} (l : Launch) (D : va_G) (tc : Nat → ClassId) (zb x0 : Nat) (as : Nat → Nat) (b : Nat) (bs : Nat → Nat) (bo sb L : Nat) (xs : Nat → Int32) (i cells slots : Nat) (C0 : lw_C p s m meth c l D tc zb sb L xs) (kk : lw_K p l e s m below meth c D tc x0 as b bs bo sb i (cells + 1) (slots + 6)) (hi : i + 6 ≤ L) (hce : cells + 1 ≤ 601024) (hsl : slots + 6 ≤ 7293033) (tr : Nat → Int32) (qs : Nat → Int32) (g : Nat → Nat) (trc : Nat → Int32) (qsc : Nat → Int32) (gc : Nat → Nat) (od : Nat) (n : Nat) (tri : Nat → Nat → Int32) (qsi : Nat → Nat → Int32) (gi : Nat → Nat → Nat) (fc : Nat → Int32) (hc : Nat → Int32) (v1 : Int32) (v2 : Int32) (v3 : Int32) (v4 : Int32) (trs : Nat → Nat → Int32) (qss : Nat → Nat → Int32) (gs : Nat → Nat → Nat) (iz : Nat → Bool) (u : Nat → Nat) (ln : Nat) (th : Int32) (ga : Nat → Nat) (sv : Nat → Nat) (sl : Nat → Nat) (fo : Nat → Int64) (hinv : INV tr qs g od n tri qsi gi trs qss gs iz u ln sv sl) (H : Heap) (locs : List Loc) (hP : va_P D vwCl (((CW tc x0 as tr qs g trc qsc gc od n tri qsi gi fc hc v1 v2 v3 v4 trs qss gs iz u ln) ++ [w_o tc bo fo]) ++ (w_md tc b (bs 0) (bs 1) (bs 2) (bs 3) (bs 4) (bs 5) th g ga sv n sl iz u ln)) H) (hD : va_D (fun q => s.heap.size ≤ q) (((CW tc x0 as tr qs g trc qsc gc od n tri qsi gi fc hc v1 v2 v3 v4 trs qss gs iz u ln) ++ [w_o tc bo fo]) ++ (w_md tc b (bs 0) (bs 1) (bs 2) (bs 3) (bs 4) (bs 5) th g ga sv n sl iz u ln))) (hS : va_S (fun q => s.heap.size ≤ q) s.heap H locs) (ls : Array Slot) (hl : lv_has ls 7 [(4, .int (nI i)), (3, .ref bo), (2, .ref b), (1, .ref x0), (0, .ref sb)]) : W p l e room_1 s m #[Value.ref sb] below meth c H locs cells slots (lw_Z below #[Value.ref sb] s) (F0 m 1391 ls []) := by
  obtain ⟨hx, hb, hml, hown, hts, hM, hX, hbl, hfl, hrt, hlk, hL⟩ := id C0
  have hbA : ¬ (fun q : Nat => s.heap.size ≤ q) sb := Nat.not_le.mpr hbl
  have hL31 : L < 2 ^ 31 := Nat.lt_of_le_of_lt hL (by decide)
  obtain ⟨tr', qs', g', trc', qsc', gc', od', n', tri', qsi', gi', fc', hc', v1', v2', v3', v4', trs', qss', gs', iz', u', ln', th', ga', sv', sl', fo', r9, fx, lx, fr, lo, hfx, hlx, hfr, hlo, hcL, hcM, hfo, hinv'⟩ := s_tidy l hfl D tc zb x0 as b bs bo tr qs g trc qsc gc od n tri qsi gi fc hc v1 v2 v3 v4 trs qss gs iz u ln th ga sv sl fo hinv 
  refine lv_aload_n hx hb dL_law_1391 rfl (lv_at hl 3 rfl) ?_
  refine ipF_V (C := RX6) (n := 0) ⟨hx, hb, hml, hown, hts⟩ hM hS hP hD (IPn.app (mc := 0) (ms := 0) (IPn.app (mc := 0) (ms := 0) hcL [w_o tc bo fo]) (w_md tc b (bs 0) (bs 1) (bs 2) (bs 3) (bs 4) (bs 5) th g ga sv n sl iz u ln)) gL_law_X6_tidy rfl (by decide +kernel) ⟨Nat.le_trans (Nat.succ_le_succ hfx) (by decide), Nat.le_trans (Nat.add_le_add_left hlx _) (by decide)⟩ rfl (va_recv hM.1 hP (ci := 5) (q0 := 0) rfl rfl) rfl hl.1 rfl (Nat.le_of_ble_eq_true rfl) dL_law_1392 ⟨by show _ ≤ 601024; omega, by show _ ≤ 7293033; omega⟩ (fun H locs hP hD hS => ?_)
  refine W.eq (g2 := F0 m 1395 ls [.int r9]) rfl ?_
  refine lv_aload_n hx hb dL_law_1395 rfl (lv_at hl 2 rfl) ?_
  refine ipF_V (C := RX7) (n := 0) ⟨hx, hb, hml, hown, hts⟩ hM hS hP hD (IPn.appl (mc := 0) (ms := 0) hcM ((CW tc x0 as tr' qs' g' trc' qsc' gc' od' n' tri' qsi' gi' fc' hc' v1' v2' v3' v4' trs' qss' gs' iz' u' ln') ++ [w_o tc bo fo])) gL_law_X7_tidy rfl (by decide +kernel) ⟨Nat.le_trans (Nat.succ_le_succ hfr) (by decide), Nat.le_trans (Nat.add_le_add_left hlo _) (by decide)⟩ rfl (va_recv hM.1 (va_P_r hP) (ci := 6) (q0 := 0) rfl rfl) rfl hl.1 rfl (Nat.le_of_ble_eq_true rfl) dL_law_1396 ⟨by show _ ≤ 601024; omega, by show _ ≤ 7293033; omega⟩ (fun H locs hP hD hS => ?_)
  refine W.eq (g2 := F0 m 1399 ls [.int r9, .int r9]) rfl ?_
  refine lv_icmp_eq (tgt := 1980) hx hb dL_law_1399 (by decide) (fun _ => ?_) (fun h9 => absurd rfl h9)
  exact W.widen (Nat.le_succ _) (Nat.le_add_right _ _) (kk tr' qs' g' trc' qsc' gc' od' n' tri' qsi' gi' fc' hc' v1' v2' v3' v4' trs' qss' gs' iz' u' ln' th' ga' sv' sl' fo hinv' _ _ hP hD hS _ (lv_sub hl [0, 1, 2, 3, 4] rfl))
set_option maxHeartbeats 4000000 in
set_option maxRecDepth 100000 in
theorem a_setWeight {p : Program} {e : Env} {s : State} {m : MethodId} {below : List Frame} {meth : Method} {c : Code} (l : Launch) (D : va_G) (tc : Nat → ClassId) (zb x0 : Nat) (as : Nat → Nat) (b : Nat) (bs : Nat → Nat) (bo sb L : Nat) (xs : Nat → Int32) (i cells slots : Nat) (C0 : lw_C p s m meth c l D tc zb sb L xs) (kk : lw_K p l e s m below meth c D tc x0 as b bs bo sb i (cells + 1) (slots + 6)) (hi : i + 6 ≤ L) (hce : cells + 1 ≤ 601024) (hsl : slots + 6 ≤ 7293033) (tr : Nat → Int32) (qs : Nat → Int32) (g : Nat → Nat) (trc : Nat → Int32) (qsc : Nat → Int32) (gc : Nat → Nat) (od : Nat) (n : Nat) (tri : Nat → Nat → Int32) (qsi : Nat → Nat → Int32) (gi : Nat → Nat → Nat) (fc : Nat → Int32) (hc : Nat → Int32) (v1 : Int32) (v2 : Int32) (v3 : Int32) (v4 : Int32) (trs : Nat → Nat → Int32) (qss : Nat → Nat → Int32) (gs : Nat → Nat → Nat) (iz : Nat → Bool) (u : Nat → Nat) (ln : Nat) (th : Int32) (ga : Nat → Nat) (sv : Nat → Nat) (sl : Nat → Nat) (fo : Nat → Int64) (hinv : INV tr qs g od n tri qsi gi trs qss gs iz u ln sv sl) (H : Heap) (locs : List Loc) (hP : va_P D vwCl (((CW tc x0 as tr qs g trc qsc gc od n tri qsi gi fc hc v1 v2 v3 v4 trs qss gs iz u ln) ++ [w_o tc bo fo]) ++ (w_md tc b (bs 0) (bs 1) (bs 2) (bs 3) (bs 4) (bs 5) th g ga sv n sl iz u ln)) H) (hD : va_D (fun q => s.heap.size ≤ q) (((CW tc x0 as tr qs g trc qsc gc od n tri qsi gi fc hc v1 v2 v3 v4 trs qss gs iz u ln) ++ [w_o tc bo fo]) ++ (w_md tc b (bs 0) (bs 1) (bs 2) (bs 3) (bs 4) (bs 5) th g ga sv n sl iz u ln))) (hS : va_S (fun q => s.heap.size ≤ q) s.heap H locs) (ls : Array Slot) (hl : lv_has ls 7 [(4, .int (nI i)), (3, .ref bo), (2, .ref b), (1, .ref x0), (0, .ref sb)]) : W p l e room_1 s m #[Value.ref sb] below meth c H locs cells slots (lw_Z below #[Value.ref sb] s) (F0 m 1404 ls []) := by
  obtain ⟨hx, hb, hml, hown, hts, hM, hX, hbl, hfl, hrt, hlk, hL⟩ := id C0
  have hbA : ¬ (fun q : Nat => s.heap.size ≤ q) sb := Nat.not_le.mpr hbl
  have hL31 : L < 2 ^ 31 := Nat.lt_of_le_of_lt hL (by decide)
  obtain ⟨tr', qs', g', trc', qsc', gc', od', n', tri', qsi', gi', fc', hc', v1', v2', v3', v4', trs', qss', gs', iz', u', ln', th', ga', sv', sl', fo', k, bb, fr, lo, hk3, hfr, hlo, hcL, hcM, hth, hval, hinv'⟩ := s_setWeight l hfl D tc zb x0 as b bs bo tr qs g trc qsc gc od n tri qsi gi fc hc v1 v2 v3 v4 trs qss gs iz u ln th ga sv sl fo hinv (xs (i + 1))
  refine lv_aload_n hx hb dL_law_1404 rfl (lv_at hl 3 rfl) ?_
  refine lv_aload_n hx hb dL_law_1405 rfl (lv_at hl 4 rfl) ?_
  refine lv_iload hx hb dL_law_1406 (lv_at hl 0 rfl) ?_
  refine lv_iconst (v := nI 1) hx hb dL_law_1408 (by decide) ?_
  refine ln_iadd hx hb dL_law_1409 ?_
  refine lx_sld hx hb hX hbl hbA hS (by omega) hL31 dL_law_1410 ?_
  refine lv_aload_n hx hb dL_law_1411 rfl (lv_at hl 1 rfl) ?_
  refine ipF_SW (n := 3) ⟨hx, hb, hml, hown, hts⟩ hM hS hP hD (IPn.app hcL (w_md tc b (bs 0) (bs 1) (bs 2) (bs 3) (bs 4) (bs 5) th g ga sv n sl iz u ln)) gL_law_L_setWeight rfl (by decide +kernel) ⟨Nat.le_of_ble_eq_true rfl, Nat.le_of_ble_eq_true rfl⟩ rfl rfl hl.1 rfl (Nat.le_of_ble_eq_true rfl) dL_law_1412 ⟨by show _ ≤ 601024; omega, by show _ ≤ 7293033; omega⟩ (fun H locs hP hD hS => ?_)
  refine W.eq (g2 := F0 m 1415 ls [.int (nI k)]) rfl ?_
  refine lv_istore (lv' := [(5, .int (nI k)), (4, .int (nI i)), (3, .ref bo), (2, .ref b), (1, .ref x0), (0, .ref sb)]) hx hb dL_law_1415 hl (by decide) rfl (fun ls hl => ?_)
  refine lv_aload_n hx hb dL_law_1417 rfl (lv_at hl 3 rfl) ?_
  refine lv_aload_n hx hb dL_law_1418 rfl (lv_at hl 5 rfl) ?_
  refine lv_iload hx hb dL_law_1419 (lv_at hl 1 rfl) ?_
  refine lv_iconst (v := nI 1) hx hb dL_law_1421 (by decide) ?_
  refine ln_iadd hx hb dL_law_1422 ?_
  refine lx_sld hx hb hX hbl hbA hS (by omega) hL31 dL_law_1423 ?_
  refine ipF_V (C := RX7) (n := 1) ⟨hx, hb, hml, hown, hts⟩ hM hS hP hD (IPn.appl (mc := 0) (ms := 0) hcM ((CW tc x0 as tr' qs' g' trc' qsc' gc' od' n' tri' qsi' gi' fc' hc' v1' v2' v3' v4' trs' qss' gs' iz' u' ln') ++ [w_o tc bo fo'])) gL_law_X7_setWeight rfl (by decide +kernel) ⟨Nat.le_trans (Nat.succ_le_succ hfr) (by decide), Nat.le_trans (Nat.add_le_add_left hlo _) (by decide)⟩ rfl (va_recv hM.1 (va_P_r hP) (ci := 6) (q0 := 0) rfl rfl) rfl hl.1 rfl (Nat.le_of_ble_eq_true rfl) dL_law_1424 ⟨by show _ ≤ 601024; omega, by show _ ≤ 7293033; omega⟩ (fun H locs hP hD hS => ?_)
  refine W.eq (g2 := F0 m 1427 ls [.int bb]) rfl ?_
  refine lv_istore (lv' := [(6, .int bb), (5, .int (nI k)), (4, .int (nI i)), (3, .ref bo), (2, .ref b), (1, .ref x0), (0, .ref sb)]) hx hb dL_law_1427 hl (by decide) rfl (fun ls hl => ?_)
  refine lv_aload_n hx hb dL_law_1429 rfl (lv_at hl 4 rfl) ?_
  refine ro_V (C := RX7) (n := 0) ⟨hx, hb, hml, hown, hts⟩ hM hS (va_P_r hP) (RO.up (c7_thrown l D tc zb b th' (fun k9 => match k9 with | 1 => .ref (bs 0) | 2 => .ref (bs 1) | 3 => .ref (bs 2) | 4 => .int (nI n') | 5 => .ref (bs 3) | 6 => .ref (bs 4) | 7 => .ref (bs 5) | 8 => .int (nI ln') | _ => .null)) [0] rfl) gL_law_X7_thrown rfl (by decide +kernel) ⟨Nat.le_of_ble_eq_true rfl, Nat.le_of_ble_eq_true rfl⟩ [0, 1, 2, 3, 4, 5, 6] rfl (va_recv hM.1 (va_P_r hP) (ci := 6) (q0 := 0) rfl rfl) rfl hl.1 rfl (Nat.le_of_ble_eq_true rfl) dL_law_1430 ⟨by show _ ≤ 601024; omega, by show _ ≤ 7293033; omega⟩ ?_
  refine lv_iload hx hb dL_law_1433 (lv_at hl 1 rfl) ?_
  refine lv_icmp_eq (tgt := 1440) hx hb dL_law_1435 (by decide) (fun _ => ?_) (fun h9 => absurd hth h9)
  refine lv_iload hx hb dL_law_1440 (lv_at hl 1 rfl) ?_
  refine ln_if_ne (tgt := 1457) hx hb dL_law_1442 (by decide) (Nat.lt_trans hk3 (by decide)) (fun hk9 => ?_) (fun hk9 => ?_)
  · refine lv_goto (tgt := 1980) hx hb dL_law_1457 (by decide) ?_
    exact kk tr' qs' g' trc' qsc' gc' od' n' tri' qsi' gi' fc' hc' v1' v2' v3' v4' trs' qss' gs' iz' u' ln' th' ga' sv' sl' fo' hinv' _ _ hP hD hS _ (lv_sub hl [2, 3, 4, 5, 6] rfl)
  · refine lv_aload_n hx hb dL_law_1445 rfl (lv_at hl 3 rfl) ?_
    refine lv_iconst (v := nI 0) hx hb dL_law_1446 (by decide) ?_
    refine lx_lald hx hb hM.1 hP dL_law_1447 ?_
    refine lv_iload hx hb dL_law_1448 (lv_at hl 0 rfl) ?_
    refine lv_i2l (v := (bb).toInt64) hx hb dL_law_1450 rfl ?_
    refine W.lcmp hx hb dL_law_1451 ?_
    refine ln_lif_eq (tgt := 1457) hx hb dL_law_1452 (by decide) (fun _ => ?_) (fun h9 => absurd (hval hk9) h9)
    refine lv_goto (tgt := 1980) hx hb dL_law_1457 (by decide) ?_
    exact kk tr' qs' g' trc' qsc' gc' od' n' tri' qsi' gi' fc' hc' v1' v2' v3' v4' trs' qss' gs' iz' u' ln' th' ga' sv' sl' fo' hinv' _ _ hP hD hS _ (lv_sub hl [2, 3, 4, 5, 6] rfl)
set_option maxHeartbeats 4000000 in
set_option maxRecDepth 100000 in
theorem a_undo {p : Program} {e : Env} {s : State} {m : MethodId} {below : List Frame} {meth : Method} {c : Code} (l : Launch) (D : va_G) (tc : Nat → ClassId) (zb x0 : Nat) (as : Nat → Nat) (b : Nat) (bs : Nat → Nat) (bo sb L : Nat) (xs : Nat → Int32) (i cells slots : Nat) (C0 : lw_C p s m meth c l D tc zb sb L xs) (kk : lw_K p l e s m below meth c D tc x0 as b bs bo sb i (cells + 1) (slots + 6)) (hi : i + 6 ≤ L) (hce : cells + 1 ≤ 601024) (hsl : slots + 6 ≤ 7293033) (tr : Nat → Int32) (qs : Nat → Int32) (g : Nat → Nat) (trc : Nat → Int32) (qsc : Nat → Int32) (gc : Nat → Nat) (od : Nat) (n : Nat) (tri : Nat → Nat → Int32) (qsi : Nat → Nat → Int32) (gi : Nat → Nat → Nat) (fc : Nat → Int32) (hc : Nat → Int32) (v1 : Int32) (v2 : Int32) (v3 : Int32) (v4 : Int32) (trs : Nat → Nat → Int32) (qss : Nat → Nat → Int32) (gs : Nat → Nat → Nat) (iz : Nat → Bool) (u : Nat → Nat) (ln : Nat) (th : Int32) (ga : Nat → Nat) (sv : Nat → Nat) (sl : Nat → Nat) (fo : Nat → Int64) (hinv : INV tr qs g od n tri qsi gi trs qss gs iz u ln sv sl) (H : Heap) (locs : List Loc) (hP : va_P D vwCl (((CW tc x0 as tr qs g trc qsc gc od n tri qsi gi fc hc v1 v2 v3 v4 trs qss gs iz u ln) ++ [w_o tc bo fo]) ++ (w_md tc b (bs 0) (bs 1) (bs 2) (bs 3) (bs 4) (bs 5) th g ga sv n sl iz u ln)) H) (hD : va_D (fun q => s.heap.size ≤ q) (((CW tc x0 as tr qs g trc qsc gc od n tri qsi gi fc hc v1 v2 v3 v4 trs qss gs iz u ln) ++ [w_o tc bo fo]) ++ (w_md tc b (bs 0) (bs 1) (bs 2) (bs 3) (bs 4) (bs 5) th g ga sv n sl iz u ln))) (hS : va_S (fun q => s.heap.size ≤ q) s.heap H locs) (ls : Array Slot) (hl : lv_has ls 7 [(4, .int (nI i)), (3, .ref bo), (2, .ref b), (1, .ref x0), (0, .ref sb)]) : W p l e room_1 s m #[Value.ref sb] below meth c H locs cells slots (lw_Z below #[Value.ref sb] s) (F0 m 1460 ls []) := by
  obtain ⟨hx, hb, hml, hown, hts, hM, hX, hbl, hfl, hrt, hlk, hL⟩ := id C0
  have hbA : ¬ (fun q : Nat => s.heap.size ≤ q) sb := Nat.not_le.mpr hbl
  have hL31 : L < 2 ^ 31 := Nat.lt_of_le_of_lt hL (by decide)
  obtain ⟨tr', qs', g', trc', qsc', gc', od', n', tri', qsi', gi', fc', hc', v1', v2', v3', v4', trs', qss', gs', iz', u', ln', th', ga', sv', sl', fo', k, bb, fr, lo, hk3, hfr, hlo, hcL, hcM, hth, hval, hinv'⟩ := s_undo l hfl D tc zb x0 as b bs bo tr qs g trc qsc gc od n tri qsi gi fc hc v1 v2 v3 v4 trs qss gs iz u ln th ga sv sl fo hinv 
  refine lv_aload_n hx hb dL_law_1460 rfl (lv_at hl 3 rfl) ?_
  refine lv_aload_n hx hb dL_law_1461 rfl (lv_at hl 1 rfl) ?_
  refine ipF_SW (n := 2) ⟨hx, hb, hml, hown, hts⟩ hM hS hP hD (IPn.app hcL (w_md tc b (bs 0) (bs 1) (bs 2) (bs 3) (bs 4) (bs 5) th g ga sv n sl iz u ln)) gL_law_L_undo rfl (by decide +kernel) ⟨Nat.le_of_ble_eq_true rfl, Nat.le_of_ble_eq_true rfl⟩ rfl rfl hl.1 rfl (Nat.le_of_ble_eq_true rfl) dL_law_1462 ⟨by show _ ≤ 601024; omega, by show _ ≤ 7293033; omega⟩ (fun H locs hP hD hS => ?_)
  refine W.eq (g2 := F0 m 1465 ls [.int (nI k)]) rfl ?_
  refine lv_istore (lv' := [(5, .int (nI k)), (4, .int (nI i)), (3, .ref bo), (2, .ref b), (1, .ref x0), (0, .ref sb)]) hx hb dL_law_1465 hl (by decide) rfl (fun ls hl => ?_)
  refine lv_aload_n hx hb dL_law_1467 rfl (lv_at hl 3 rfl) ?_
  refine ipF_V (C := RX7) (n := 0) ⟨hx, hb, hml, hown, hts⟩ hM hS hP hD (IPn.appl (mc := 0) (ms := 0) hcM ((CW tc x0 as tr' qs' g' trc' qsc' gc' od' n' tri' qsi' gi' fc' hc' v1' v2' v3' v4' trs' qss' gs' iz' u' ln') ++ [w_o tc bo fo'])) gL_law_X7_undo rfl (by decide +kernel) ⟨Nat.le_trans (Nat.succ_le_succ hfr) (by decide), Nat.le_trans (Nat.add_le_add_left hlo _) (by decide)⟩ rfl (va_recv hM.1 (va_P_r hP) (ci := 6) (q0 := 0) rfl rfl) rfl hl.1 rfl (Nat.le_of_ble_eq_true rfl) dL_law_1468 ⟨by show _ ≤ 601024; omega, by show _ ≤ 7293033; omega⟩ (fun H locs hP hD hS => ?_)
  refine W.eq (g2 := F0 m 1471 ls [.int bb]) rfl ?_
  refine lv_istore (lv' := [(6, .int bb), (5, .int (nI k)), (4, .int (nI i)), (3, .ref bo), (2, .ref b), (1, .ref x0), (0, .ref sb)]) hx hb dL_law_1471 hl (by decide) rfl (fun ls hl => ?_)
  refine lv_aload_n hx hb dL_law_1473 rfl (lv_at hl 4 rfl) ?_
  refine ro_V (C := RX7) (n := 0) ⟨hx, hb, hml, hown, hts⟩ hM hS (va_P_r hP) (RO.up (c7_thrown l D tc zb b th' (fun k9 => match k9 with | 1 => .ref (bs 0) | 2 => .ref (bs 1) | 3 => .ref (bs 2) | 4 => .int (nI n') | 5 => .ref (bs 3) | 6 => .ref (bs 4) | 7 => .ref (bs 5) | 8 => .int (nI ln') | _ => .null)) [0] rfl) gL_law_X7_thrown rfl (by decide +kernel) ⟨Nat.le_of_ble_eq_true rfl, Nat.le_of_ble_eq_true rfl⟩ [0, 1, 2, 3, 4, 5, 6] rfl (va_recv hM.1 (va_P_r hP) (ci := 6) (q0 := 0) rfl rfl) rfl hl.1 rfl (Nat.le_of_ble_eq_true rfl) dL_law_1474 ⟨by show _ ≤ 601024; omega, by show _ ≤ 7293033; omega⟩ ?_
  refine lv_iload hx hb dL_law_1477 (lv_at hl 1 rfl) ?_
  refine lv_icmp_eq (tgt := 1484) hx hb dL_law_1479 (by decide) (fun _ => ?_) (fun h9 => absurd hth h9)
  refine lv_iload hx hb dL_law_1484 (lv_at hl 1 rfl) ?_
  refine ln_if_ne (tgt := 1501) hx hb dL_law_1486 (by decide) (Nat.lt_trans hk3 (by decide)) (fun hk9 => ?_) (fun hk9 => ?_)
  · refine lv_goto (tgt := 1980) hx hb dL_law_1501 (by decide) ?_
    exact kk tr' qs' g' trc' qsc' gc' od' n' tri' qsi' gi' fc' hc' v1' v2' v3' v4' trs' qss' gs' iz' u' ln' th' ga' sv' sl' fo' hinv' _ _ hP hD hS _ (lv_sub hl [2, 3, 4, 5, 6] rfl)
  · refine lv_aload_n hx hb dL_law_1489 rfl (lv_at hl 3 rfl) ?_
    refine lv_iconst (v := nI 0) hx hb dL_law_1490 (by decide) ?_
    refine lx_lald hx hb hM.1 hP dL_law_1491 ?_
    refine lv_iload hx hb dL_law_1492 (lv_at hl 0 rfl) ?_
    refine lv_i2l (v := (bb).toInt64) hx hb dL_law_1494 rfl ?_
    refine W.lcmp hx hb dL_law_1495 ?_
    refine ln_lif_eq (tgt := 1501) hx hb dL_law_1496 (by decide) (fun _ => ?_) (fun h9 => absurd (hval hk9) h9)
    refine lv_goto (tgt := 1980) hx hb dL_law_1501 (by decide) ?_
    exact kk tr' qs' g' trc' qsc' gc' od' n' tri' qsi' gi' fc' hc' v1' v2' v3' v4' trs' qss' gs' iz' u' ln' th' ga' sv' sl' fo' hinv' _ _ hP hD hS _ (lv_sub hl [2, 3, 4, 5, 6] rfl)
set_option maxHeartbeats 4000000 in
set_option maxRecDepth 100000 in
theorem a_value {p : Program} {e : Env} {s : State} {m : MethodId} {below : List Frame} {meth : Method} {c : Code} (l : Launch) (D : va_G) (tc : Nat → ClassId) (zb x0 : Nat) (as : Nat → Nat) (b : Nat) (bs : Nat → Nat) (bo sb L : Nat) (xs : Nat → Int32) (i cells slots : Nat) (C0 : lw_C p s m meth c l D tc zb sb L xs) (kk : lw_K p l e s m below meth c D tc x0 as b bs bo sb i (cells + 1) (slots + 6)) (hi : i + 6 ≤ L) (hce : cells + 1 ≤ 601024) (hsl : slots + 6 ≤ 7293033) (tr : Nat → Int32) (qs : Nat → Int32) (g : Nat → Nat) (trc : Nat → Int32) (qsc : Nat → Int32) (gc : Nat → Nat) (od : Nat) (n : Nat) (tri : Nat → Nat → Int32) (qsi : Nat → Nat → Int32) (gi : Nat → Nat → Nat) (fc : Nat → Int32) (hc : Nat → Int32) (v1 : Int32) (v2 : Int32) (v3 : Int32) (v4 : Int32) (trs : Nat → Nat → Int32) (qss : Nat → Nat → Int32) (gs : Nat → Nat → Nat) (iz : Nat → Bool) (u : Nat → Nat) (ln : Nat) (th : Int32) (ga : Nat → Nat) (sv : Nat → Nat) (sl : Nat → Nat) (fo : Nat → Int64) (hinv : INV tr qs g od n tri qsi gi trs qss gs iz u ln sv sl) (H : Heap) (locs : List Loc) (hP : va_P D vwCl (((CW tc x0 as tr qs g trc qsc gc od n tri qsi gi fc hc v1 v2 v3 v4 trs qss gs iz u ln) ++ [w_o tc bo fo]) ++ (w_md tc b (bs 0) (bs 1) (bs 2) (bs 3) (bs 4) (bs 5) th g ga sv n sl iz u ln)) H) (hD : va_D (fun q => s.heap.size ≤ q) (((CW tc x0 as tr qs g trc qsc gc od n tri qsi gi fc hc v1 v2 v3 v4 trs qss gs iz u ln) ++ [w_o tc bo fo]) ++ (w_md tc b (bs 0) (bs 1) (bs 2) (bs 3) (bs 4) (bs 5) th g ga sv n sl iz u ln))) (hS : va_S (fun q => s.heap.size ≤ q) s.heap H locs) (ls : Array Slot) (hl : lv_has ls 7 [(4, .int (nI i)), (3, .ref bo), (2, .ref b), (1, .ref x0), (0, .ref sb)]) : W p l e room_1 s m #[Value.ref sb] below meth c H locs cells slots (lw_Z below #[Value.ref sb] s) (F0 m 1504 ls []) := by
  obtain ⟨hx, hb, hml, hown, hts, hM, hX, hbl, hfl, hrt, hlk, hL⟩ := id C0
  have hbA : ¬ (fun q : Nat => s.heap.size ≤ q) sb := Nat.not_le.mpr hbl
  have hL31 : L < 2 ^ 31 := Nat.lt_of_le_of_lt hL (by decide)
  obtain ⟨tr', qs', g', trc', qsc', gc', od', n', tri', qsi', gi', fc', hc', v1', v2', v3', v4', trs', qss', gs', iz', u', ln', th', ga', sv', sl', fo', k, bb, fr, lo, hk3, hfr, hlo, hcL, hcM, hth, hval, hinv'⟩ := s_value l hfl D tc zb x0 as b bs bo tr qs g trc qsc gc od n tri qsi gi fc hc v1 v2 v3 v4 trs qss gs iz u ln th ga sv sl fo hinv (xs (i + 1))
  refine lv_aload_n hx hb dL_law_1504 rfl (lv_at hl 3 rfl) ?_
  refine lv_aload_n hx hb dL_law_1505 rfl (lv_at hl 4 rfl) ?_
  refine lv_iload hx hb dL_law_1506 (lv_at hl 0 rfl) ?_
  refine lv_iconst (v := nI 1) hx hb dL_law_1508 (by decide) ?_
  refine ln_iadd hx hb dL_law_1509 ?_
  refine lx_sld hx hb hX hbl hbA hS (by omega) hL31 dL_law_1510 ?_
  refine lv_aload_n hx hb dL_law_1511 rfl (lv_at hl 1 rfl) ?_
  refine ipF_SW (n := 3) ⟨hx, hb, hml, hown, hts⟩ hM hS hP hD (IPn.app hcL (w_md tc b (bs 0) (bs 1) (bs 2) (bs 3) (bs 4) (bs 5) th g ga sv n sl iz u ln)) gL_law_L_value rfl (by decide +kernel) ⟨Nat.le_of_ble_eq_true rfl, Nat.le_of_ble_eq_true rfl⟩ rfl rfl hl.1 rfl (Nat.le_of_ble_eq_true rfl) dL_law_1512 ⟨by show _ ≤ 601024; omega, by show _ ≤ 7293033; omega⟩ (fun H locs hP hD hS => ?_)
  refine W.eq (g2 := F0 m 1515 ls [.int (nI k)]) rfl ?_
  refine lv_istore (lv' := [(5, .int (nI k)), (4, .int (nI i)), (3, .ref bo), (2, .ref b), (1, .ref x0), (0, .ref sb)]) hx hb dL_law_1515 hl (by decide) rfl (fun ls hl => ?_)
  refine lv_aload_n hx hb dL_law_1517 rfl (lv_at hl 3 rfl) ?_
  refine lv_aload_n hx hb dL_law_1518 rfl (lv_at hl 5 rfl) ?_
  refine lv_iload hx hb dL_law_1519 (lv_at hl 1 rfl) ?_
  refine lv_iconst (v := nI 1) hx hb dL_law_1521 (by decide) ?_
  refine ln_iadd hx hb dL_law_1522 ?_
  refine lx_sld hx hb hX hbl hbA hS (by omega) hL31 dL_law_1523 ?_
  refine ipF_V (C := RX7) (n := 1) ⟨hx, hb, hml, hown, hts⟩ hM hS hP hD (IPn.appl (mc := 0) (ms := 0) hcM ((CW tc x0 as tr' qs' g' trc' qsc' gc' od' n' tri' qsi' gi' fc' hc' v1' v2' v3' v4' trs' qss' gs' iz' u' ln') ++ [w_o tc bo fo'])) gL_law_X7_value rfl (by decide +kernel) ⟨Nat.le_trans (Nat.succ_le_succ hfr) (by decide), Nat.le_trans (Nat.add_le_add_left hlo _) (by decide)⟩ rfl (va_recv hM.1 (va_P_r hP) (ci := 6) (q0 := 0) rfl rfl) rfl hl.1 rfl (Nat.le_of_ble_eq_true rfl) dL_law_1524 ⟨by show _ ≤ 601024; omega, by show _ ≤ 7293033; omega⟩ (fun H locs hP hD hS => ?_)
  refine W.eq (g2 := F0 m 1527 ls [.int bb]) rfl ?_
  refine lv_istore (lv' := [(6, .int bb), (5, .int (nI k)), (4, .int (nI i)), (3, .ref bo), (2, .ref b), (1, .ref x0), (0, .ref sb)]) hx hb dL_law_1527 hl (by decide) rfl (fun ls hl => ?_)
  refine lv_aload_n hx hb dL_law_1529 rfl (lv_at hl 4 rfl) ?_
  refine ro_V (C := RX7) (n := 0) ⟨hx, hb, hml, hown, hts⟩ hM hS (va_P_r hP) (RO.up (c7_thrown l D tc zb b th' (fun k9 => match k9 with | 1 => .ref (bs 0) | 2 => .ref (bs 1) | 3 => .ref (bs 2) | 4 => .int (nI n') | 5 => .ref (bs 3) | 6 => .ref (bs 4) | 7 => .ref (bs 5) | 8 => .int (nI ln') | _ => .null)) [0] rfl) gL_law_X7_thrown rfl (by decide +kernel) ⟨Nat.le_of_ble_eq_true rfl, Nat.le_of_ble_eq_true rfl⟩ [0, 1, 2, 3, 4, 5, 6] rfl (va_recv hM.1 (va_P_r hP) (ci := 6) (q0 := 0) rfl rfl) rfl hl.1 rfl (Nat.le_of_ble_eq_true rfl) dL_law_1530 ⟨by show _ ≤ 601024; omega, by show _ ≤ 7293033; omega⟩ ?_
  refine lv_iload hx hb dL_law_1533 (lv_at hl 1 rfl) ?_
  refine lv_icmp_eq (tgt := 1540) hx hb dL_law_1535 (by decide) (fun _ => ?_) (fun h9 => absurd hth h9)
  refine lv_iload hx hb dL_law_1540 (lv_at hl 1 rfl) ?_
  refine ln_if_ne (tgt := 1557) hx hb dL_law_1542 (by decide) (Nat.lt_trans hk3 (by decide)) (fun hk9 => ?_) (fun hk9 => ?_)
  · refine lv_goto (tgt := 1980) hx hb dL_law_1557 (by decide) ?_
    exact kk tr' qs' g' trc' qsc' gc' od' n' tri' qsi' gi' fc' hc' v1' v2' v3' v4' trs' qss' gs' iz' u' ln' th' ga' sv' sl' fo' hinv' _ _ hP hD hS _ (lv_sub hl [2, 3, 4, 5, 6] rfl)
  · refine lv_aload_n hx hb dL_law_1545 rfl (lv_at hl 3 rfl) ?_
    refine lv_iconst (v := nI 0) hx hb dL_law_1546 (by decide) ?_
    refine lx_lald hx hb hM.1 hP dL_law_1547 ?_
    refine lv_iload hx hb dL_law_1548 (lv_at hl 0 rfl) ?_
    refine lv_i2l (v := (bb).toInt64) hx hb dL_law_1550 rfl ?_
    refine W.lcmp hx hb dL_law_1551 ?_
    refine ln_lif_eq (tgt := 1557) hx hb dL_law_1552 (by decide) (fun _ => ?_) (fun h9 => absurd (hval hk9) h9)
    refine lv_goto (tgt := 1980) hx hb dL_law_1557 (by decide) ?_
    exact kk tr' qs' g' trc' qsc' gc' od' n' tri' qsi' gi' fc' hc' v1' v2' v3' v4' trs' qss' gs' iz' u' ln' th' ga' sv' sl' fo' hinv' _ _ hP hD hS _ (lv_sub hl [2, 3, 4, 5, 6] rfl)
set_option maxHeartbeats 4000000 in
set_option maxRecDepth 100000 in
theorem a_advised {p : Program} {e : Env} {s : State} {m : MethodId} {below : List Frame} {meth : Method} {c : Code} (l : Launch) (D : va_G) (tc : Nat → ClassId) (zb x0 : Nat) (as : Nat → Nat) (b : Nat) (bs : Nat → Nat) (bo sb L : Nat) (xs : Nat → Int32) (i cells slots : Nat) (C0 : lw_C p s m meth c l D tc zb sb L xs) (kk : lw_K p l e s m below meth c D tc x0 as b bs bo sb i (cells + 1) (slots + 6)) (hi : i + 6 ≤ L) (hce : cells + 1 ≤ 601024) (hsl : slots + 6 ≤ 7293033) (tr : Nat → Int32) (qs : Nat → Int32) (g : Nat → Nat) (trc : Nat → Int32) (qsc : Nat → Int32) (gc : Nat → Nat) (od : Nat) (n : Nat) (tri : Nat → Nat → Int32) (qsi : Nat → Nat → Int32) (gi : Nat → Nat → Nat) (fc : Nat → Int32) (hc : Nat → Int32) (v1 : Int32) (v2 : Int32) (v3 : Int32) (v4 : Int32) (trs : Nat → Nat → Int32) (qss : Nat → Nat → Int32) (gs : Nat → Nat → Nat) (iz : Nat → Bool) (u : Nat → Nat) (ln : Nat) (th : Int32) (ga : Nat → Nat) (sv : Nat → Nat) (sl : Nat → Nat) (fo : Nat → Int64) (hinv : INV tr qs g od n tri qsi gi trs qss gs iz u ln sv sl) (H : Heap) (locs : List Loc) (hP : va_P D vwCl (((CW tc x0 as tr qs g trc qsc gc od n tri qsi gi fc hc v1 v2 v3 v4 trs qss gs iz u ln) ++ [w_o tc bo fo]) ++ (w_md tc b (bs 0) (bs 1) (bs 2) (bs 3) (bs 4) (bs 5) th g ga sv n sl iz u ln)) H) (hD : va_D (fun q => s.heap.size ≤ q) (((CW tc x0 as tr qs g trc qsc gc od n tri qsi gi fc hc v1 v2 v3 v4 trs qss gs iz u ln) ++ [w_o tc bo fo]) ++ (w_md tc b (bs 0) (bs 1) (bs 2) (bs 3) (bs 4) (bs 5) th g ga sv n sl iz u ln))) (hS : va_S (fun q => s.heap.size ≤ q) s.heap H locs) (ls : Array Slot) (hl : lv_has ls 7 [(4, .int (nI i)), (3, .ref bo), (2, .ref b), (1, .ref x0), (0, .ref sb)]) : W p l e room_1 s m #[Value.ref sb] below meth c H locs cells slots (lw_Z below #[Value.ref sb] s) (F0 m 1560 ls []) := by
  obtain ⟨hx, hb, hml, hown, hts, hM, hX, hbl, hfl, hrt, hlk, hL⟩ := id C0
  have hbA : ¬ (fun q : Nat => s.heap.size ≤ q) sb := Nat.not_le.mpr hbl
  have hL31 : L < 2 ^ 31 := Nat.lt_of_le_of_lt hL (by decide)
  obtain ⟨tr', qs', g', trc', qsc', gc', od', n', tri', qsi', gi', fc', hc', v1', v2', v3', v4', trs', qss', gs', iz', u', ln', th', ga', sv', sl', fo', r9, fx, lx, fr, lo, hfx, hlx, hfr, hlo, hcL, hcM, hfo, hinv'⟩ := s_advised l hfl D tc zb x0 as b bs bo tr qs g trc qsc gc od n tri qsi gi fc hc v1 v2 v3 v4 trs qss gs iz u ln th ga sv sl fo hinv 
  refine lv_aload_n hx hb dL_law_1560 rfl (lv_at hl 3 rfl) ?_
  refine ipF_V (C := RX6) (n := 0) ⟨hx, hb, hml, hown, hts⟩ hM hS hP hD (IPn.app (mc := 0) (ms := 0) (IPn.app (mc := 0) (ms := 0) hcL [w_o tc bo fo]) (w_md tc b (bs 0) (bs 1) (bs 2) (bs 3) (bs 4) (bs 5) th g ga sv n sl iz u ln)) gL_law_X6_advised rfl (by decide +kernel) ⟨Nat.le_trans (Nat.succ_le_succ hfx) (by decide), Nat.le_trans (Nat.add_le_add_left hlx _) (by decide)⟩ rfl (va_recv hM.1 hP (ci := 5) (q0 := 0) rfl rfl) rfl hl.1 rfl (Nat.le_of_ble_eq_true rfl) dL_law_1561 ⟨by show _ ≤ 601024; omega, by show _ ≤ 7293033; omega⟩ (fun H locs hP hD hS => ?_)
  refine W.eq (g2 := F0 m 1564 ls [.int r9]) rfl ?_
  refine lv_aload_n hx hb dL_law_1564 rfl (lv_at hl 2 rfl) ?_
  refine ipF_V (C := RX7) (n := 0) ⟨hx, hb, hml, hown, hts⟩ hM hS hP hD (IPn.appl (mc := 0) (ms := 0) hcM ((CW tc x0 as tr' qs' g' trc' qsc' gc' od' n' tri' qsi' gi' fc' hc' v1' v2' v3' v4' trs' qss' gs' iz' u' ln') ++ [w_o tc bo fo])) gL_law_X7_advised rfl (by decide +kernel) ⟨Nat.le_trans (Nat.succ_le_succ hfr) (by decide), Nat.le_trans (Nat.add_le_add_left hlo _) (by decide)⟩ rfl (va_recv hM.1 (va_P_r hP) (ci := 6) (q0 := 0) rfl rfl) rfl hl.1 rfl (Nat.le_of_ble_eq_true rfl) dL_law_1565 ⟨by show _ ≤ 601024; omega, by show _ ≤ 7293033; omega⟩ (fun H locs hP hD hS => ?_)
  refine W.eq (g2 := F0 m 1568 ls [.int r9, .int r9]) rfl ?_
  refine lv_icmp_eq (tgt := 1980) hx hb dL_law_1568 (by decide) (fun _ => ?_) (fun h9 => absurd rfl h9)
  exact W.widen (Nat.le_succ _) (Nat.le_add_right _ _) (kk tr' qs' g' trc' qsc' gc' od' n' tri' qsi' gi' fc' hc' v1' v2' v3' v4' trs' qss' gs' iz' u' ln' th' ga' sv' sl' fo hinv' _ _ hP hD hS _ (lv_sub hl [0, 1, 2, 3, 4] rfl))
set_option maxHeartbeats 4000000 in
set_option maxRecDepth 100000 in
theorem a_spare {p : Program} {e : Env} {s : State} {m : MethodId} {below : List Frame} {meth : Method} {c : Code} (l : Launch) (D : va_G) (tc : Nat → ClassId) (zb x0 : Nat) (as : Nat → Nat) (b : Nat) (bs : Nat → Nat) (bo sb L : Nat) (xs : Nat → Int32) (i cells slots : Nat) (C0 : lw_C p s m meth c l D tc zb sb L xs) (kk : lw_K p l e s m below meth c D tc x0 as b bs bo sb i (cells + 1) (slots + 6)) (hi : i + 6 ≤ L) (hce : cells + 1 ≤ 601024) (hsl : slots + 6 ≤ 7293033) (tr : Nat → Int32) (qs : Nat → Int32) (g : Nat → Nat) (trc : Nat → Int32) (qsc : Nat → Int32) (gc : Nat → Nat) (od : Nat) (n : Nat) (tri : Nat → Nat → Int32) (qsi : Nat → Nat → Int32) (gi : Nat → Nat → Nat) (fc : Nat → Int32) (hc : Nat → Int32) (v1 : Int32) (v2 : Int32) (v3 : Int32) (v4 : Int32) (trs : Nat → Nat → Int32) (qss : Nat → Nat → Int32) (gs : Nat → Nat → Nat) (iz : Nat → Bool) (u : Nat → Nat) (ln : Nat) (th : Int32) (ga : Nat → Nat) (sv : Nat → Nat) (sl : Nat → Nat) (fo : Nat → Int64) (hinv : INV tr qs g od n tri qsi gi trs qss gs iz u ln sv sl) (H : Heap) (locs : List Loc) (hP : va_P D vwCl (((CW tc x0 as tr qs g trc qsc gc od n tri qsi gi fc hc v1 v2 v3 v4 trs qss gs iz u ln) ++ [w_o tc bo fo]) ++ (w_md tc b (bs 0) (bs 1) (bs 2) (bs 3) (bs 4) (bs 5) th g ga sv n sl iz u ln)) H) (hD : va_D (fun q => s.heap.size ≤ q) (((CW tc x0 as tr qs g trc qsc gc od n tri qsi gi fc hc v1 v2 v3 v4 trs qss gs iz u ln) ++ [w_o tc bo fo]) ++ (w_md tc b (bs 0) (bs 1) (bs 2) (bs 3) (bs 4) (bs 5) th g ga sv n sl iz u ln))) (hS : va_S (fun q => s.heap.size ≤ q) s.heap H locs) (ls : Array Slot) (hl : lv_has ls 7 [(4, .int (nI i)), (3, .ref bo), (2, .ref b), (1, .ref x0), (0, .ref sb)]) : W p l e room_1 s m #[Value.ref sb] below meth c H locs cells slots (lw_Z below #[Value.ref sb] s) (F0 m 1573 ls []) := by
  obtain ⟨hx, hb, hml, hown, hts, hM, hX, hbl, hfl, hrt, hlk, hL⟩ := id C0
  have hbA : ¬ (fun q : Nat => s.heap.size ≤ q) sb := Nat.not_le.mpr hbl
  have hL31 : L < 2 ^ 31 := Nat.lt_of_le_of_lt hL (by decide)
  obtain ⟨tr', qs', g', trc', qsc', gc', od', n', tri', qsi', gi', fc', hc', v1', v2', v3', v4', trs', qss', gs', iz', u', ln', th', ga', sv', sl', fo', r9, fx, lx, fr, lo, hfx, hlx, hfr, hlo, hcL, hcM, hfo, hinv'⟩ := s_spare l hfl D tc zb x0 as b bs bo tr qs g trc qsc gc od n tri qsi gi fc hc v1 v2 v3 v4 trs qss gs iz u ln th ga sv sl fo hinv 
  refine lv_aload_n hx hb dL_law_1573 rfl (lv_at hl 3 rfl) ?_
  refine ipF_V (C := RX6) (n := 0) ⟨hx, hb, hml, hown, hts⟩ hM hS hP hD (IPn.app (mc := 0) (ms := 0) (IPn.app (mc := 0) (ms := 0) hcL [w_o tc bo fo]) (w_md tc b (bs 0) (bs 1) (bs 2) (bs 3) (bs 4) (bs 5) th g ga sv n sl iz u ln)) gL_law_X6_spare rfl (by decide +kernel) ⟨Nat.le_trans (Nat.succ_le_succ hfx) (by decide), Nat.le_trans (Nat.add_le_add_left hlx _) (by decide)⟩ rfl (va_recv hM.1 hP (ci := 5) (q0 := 0) rfl rfl) rfl hl.1 rfl (Nat.le_of_ble_eq_true rfl) dL_law_1574 ⟨by show _ ≤ 601024; omega, by show _ ≤ 7293033; omega⟩ (fun H locs hP hD hS => ?_)
  refine W.eq (g2 := F0 m 1577 ls [.int r9]) rfl ?_
  refine lv_aload_n hx hb dL_law_1577 rfl (lv_at hl 2 rfl) ?_
  refine ipF_V (C := RX7) (n := 0) ⟨hx, hb, hml, hown, hts⟩ hM hS hP hD (IPn.appl (mc := 0) (ms := 0) hcM ((CW tc x0 as tr' qs' g' trc' qsc' gc' od' n' tri' qsi' gi' fc' hc' v1' v2' v3' v4' trs' qss' gs' iz' u' ln') ++ [w_o tc bo fo])) gL_law_X7_spare rfl (by decide +kernel) ⟨Nat.le_trans (Nat.succ_le_succ hfr) (by decide), Nat.le_trans (Nat.add_le_add_left hlo _) (by decide)⟩ rfl (va_recv hM.1 (va_P_r hP) (ci := 6) (q0 := 0) rfl rfl) rfl hl.1 rfl (Nat.le_of_ble_eq_true rfl) dL_law_1578 ⟨by show _ ≤ 601024; omega, by show _ ≤ 7293033; omega⟩ (fun H locs hP hD hS => ?_)
  refine W.eq (g2 := F0 m 1581 ls [.int r9, .int r9]) rfl ?_
  refine lv_icmp_eq (tgt := 1980) hx hb dL_law_1581 (by decide) (fun _ => ?_) (fun h9 => absurd rfl h9)
  exact W.widen (Nat.le_succ _) (Nat.le_add_right _ _) (kk tr' qs' g' trc' qsc' gc' od' n' tri' qsi' gi' fc' hc' v1' v2' v3' v4' trs' qss' gs' iz' u' ln' th' ga' sv' sl' fo hinv' _ _ hP hD hS _ (lv_sub hl [0, 1, 2, 3, 4] rfl))
set_option maxHeartbeats 4000000 in
set_option maxRecDepth 100000 in
theorem a_needed {p : Program} {e : Env} {s : State} {m : MethodId} {below : List Frame} {meth : Method} {c : Code} (l : Launch) (D : va_G) (tc : Nat → ClassId) (zb x0 : Nat) (as : Nat → Nat) (b : Nat) (bs : Nat → Nat) (bo sb L : Nat) (xs : Nat → Int32) (i cells slots : Nat) (C0 : lw_C p s m meth c l D tc zb sb L xs) (kk : lw_K p l e s m below meth c D tc x0 as b bs bo sb i (cells + 1) (slots + 6)) (hi : i + 6 ≤ L) (hce : cells + 1 ≤ 601024) (hsl : slots + 6 ≤ 7293033) (tr : Nat → Int32) (qs : Nat → Int32) (g : Nat → Nat) (trc : Nat → Int32) (qsc : Nat → Int32) (gc : Nat → Nat) (od : Nat) (n : Nat) (tri : Nat → Nat → Int32) (qsi : Nat → Nat → Int32) (gi : Nat → Nat → Nat) (fc : Nat → Int32) (hc : Nat → Int32) (v1 : Int32) (v2 : Int32) (v3 : Int32) (v4 : Int32) (trs : Nat → Nat → Int32) (qss : Nat → Nat → Int32) (gs : Nat → Nat → Nat) (iz : Nat → Bool) (u : Nat → Nat) (ln : Nat) (th : Int32) (ga : Nat → Nat) (sv : Nat → Nat) (sl : Nat → Nat) (fo : Nat → Int64) (hinv : INV tr qs g od n tri qsi gi trs qss gs iz u ln sv sl) (H : Heap) (locs : List Loc) (hP : va_P D vwCl (((CW tc x0 as tr qs g trc qsc gc od n tri qsi gi fc hc v1 v2 v3 v4 trs qss gs iz u ln) ++ [w_o tc bo fo]) ++ (w_md tc b (bs 0) (bs 1) (bs 2) (bs 3) (bs 4) (bs 5) th g ga sv n sl iz u ln)) H) (hD : va_D (fun q => s.heap.size ≤ q) (((CW tc x0 as tr qs g trc qsc gc od n tri qsi gi fc hc v1 v2 v3 v4 trs qss gs iz u ln) ++ [w_o tc bo fo]) ++ (w_md tc b (bs 0) (bs 1) (bs 2) (bs 3) (bs 4) (bs 5) th g ga sv n sl iz u ln))) (hS : va_S (fun q => s.heap.size ≤ q) s.heap H locs) (ls : Array Slot) (hl : lv_has ls 7 [(4, .int (nI i)), (3, .ref bo), (2, .ref b), (1, .ref x0), (0, .ref sb)]) : W p l e room_1 s m #[Value.ref sb] below meth c H locs cells slots (lw_Z below #[Value.ref sb] s) (F0 m 1586 ls []) := by
  obtain ⟨hx, hb, hml, hown, hts, hM, hX, hbl, hfl, hrt, hlk, hL⟩ := id C0
  have hbA : ¬ (fun q : Nat => s.heap.size ≤ q) sb := Nat.not_le.mpr hbl
  have hL31 : L < 2 ^ 31 := Nat.lt_of_le_of_lt hL (by decide)
  obtain ⟨tr', qs', g', trc', qsc', gc', od', n', tri', qsi', gi', fc', hc', v1', v2', v3', v4', trs', qss', gs', iz', u', ln', th', ga', sv', sl', fo', r9, fx, lx, fr, lo, hfx, hlx, hfr, hlo, hcL, hcM, hfo, hinv'⟩ := s_needed l hfl D tc zb x0 as b bs bo tr qs g trc qsc gc od n tri qsi gi fc hc v1 v2 v3 v4 trs qss gs iz u ln th ga sv sl fo hinv 
  refine lv_aload_n hx hb dL_law_1586 rfl (lv_at hl 3 rfl) ?_
  refine ipF_V (C := RX6) (n := 0) ⟨hx, hb, hml, hown, hts⟩ hM hS hP hD (IPn.app (mc := 0) (ms := 0) (IPn.app (mc := 0) (ms := 0) hcL [w_o tc bo fo]) (w_md tc b (bs 0) (bs 1) (bs 2) (bs 3) (bs 4) (bs 5) th g ga sv n sl iz u ln)) gL_law_X6_needed rfl (by decide +kernel) ⟨Nat.le_trans (Nat.succ_le_succ hfx) (by decide), Nat.le_trans (Nat.add_le_add_left hlx _) (by decide)⟩ rfl (va_recv hM.1 hP (ci := 5) (q0 := 0) rfl rfl) rfl hl.1 rfl (Nat.le_of_ble_eq_true rfl) dL_law_1587 ⟨by show _ ≤ 601024; omega, by show _ ≤ 7293033; omega⟩ (fun H locs hP hD hS => ?_)
  refine W.eq (g2 := F0 m 1590 ls [.int r9]) rfl ?_
  refine lv_aload_n hx hb dL_law_1590 rfl (lv_at hl 2 rfl) ?_
  refine ipF_V (C := RX7) (n := 0) ⟨hx, hb, hml, hown, hts⟩ hM hS hP hD (IPn.appl (mc := 0) (ms := 0) hcM ((CW tc x0 as tr' qs' g' trc' qsc' gc' od' n' tri' qsi' gi' fc' hc' v1' v2' v3' v4' trs' qss' gs' iz' u' ln') ++ [w_o tc bo fo])) gL_law_X7_needed rfl (by decide +kernel) ⟨Nat.le_trans (Nat.succ_le_succ hfr) (by decide), Nat.le_trans (Nat.add_le_add_left hlo _) (by decide)⟩ rfl (va_recv hM.1 (va_P_r hP) (ci := 6) (q0 := 0) rfl rfl) rfl hl.1 rfl (Nat.le_of_ble_eq_true rfl) dL_law_1591 ⟨by show _ ≤ 601024; omega, by show _ ≤ 7293033; omega⟩ (fun H locs hP hD hS => ?_)
  refine W.eq (g2 := F0 m 1594 ls [.int r9, .int r9]) rfl ?_
  refine lv_icmp_eq (tgt := 1980) hx hb dL_law_1594 (by decide) (fun _ => ?_) (fun h9 => absurd rfl h9)
  exact W.widen (Nat.le_succ _) (Nat.le_add_right _ _) (kk tr' qs' g' trc' qsc' gc' od' n' tri' qsi' gi' fc' hc' v1' v2' v3' v4' trs' qss' gs' iz' u' ln' th' ga' sv' sl' fo hinv' _ _ hP hD hS _ (lv_sub hl [0, 1, 2, 3, 4] rfl))
set_option maxHeartbeats 4000000 in
set_option maxRecDepth 100000 in
theorem a_ifKept {p : Program} {e : Env} {s : State} {m : MethodId} {below : List Frame} {meth : Method} {c : Code} (l : Launch) (D : va_G) (tc : Nat → ClassId) (zb x0 : Nat) (as : Nat → Nat) (b : Nat) (bs : Nat → Nat) (bo sb L : Nat) (xs : Nat → Int32) (i cells slots : Nat) (C0 : lw_C p s m meth c l D tc zb sb L xs) (kk : lw_K p l e s m below meth c D tc x0 as b bs bo sb i (cells + 1) (slots + 6)) (hi : i + 6 ≤ L) (hce : cells + 1 ≤ 601024) (hsl : slots + 6 ≤ 7293033) (tr : Nat → Int32) (qs : Nat → Int32) (g : Nat → Nat) (trc : Nat → Int32) (qsc : Nat → Int32) (gc : Nat → Nat) (od : Nat) (n : Nat) (tri : Nat → Nat → Int32) (qsi : Nat → Nat → Int32) (gi : Nat → Nat → Nat) (fc : Nat → Int32) (hc : Nat → Int32) (v1 : Int32) (v2 : Int32) (v3 : Int32) (v4 : Int32) (trs : Nat → Nat → Int32) (qss : Nat → Nat → Int32) (gs : Nat → Nat → Nat) (iz : Nat → Bool) (u : Nat → Nat) (ln : Nat) (th : Int32) (ga : Nat → Nat) (sv : Nat → Nat) (sl : Nat → Nat) (fo : Nat → Int64) (hinv : INV tr qs g od n tri qsi gi trs qss gs iz u ln sv sl) (H : Heap) (locs : List Loc) (hP : va_P D vwCl (((CW tc x0 as tr qs g trc qsc gc od n tri qsi gi fc hc v1 v2 v3 v4 trs qss gs iz u ln) ++ [w_o tc bo fo]) ++ (w_md tc b (bs 0) (bs 1) (bs 2) (bs 3) (bs 4) (bs 5) th g ga sv n sl iz u ln)) H) (hD : va_D (fun q => s.heap.size ≤ q) (((CW tc x0 as tr qs g trc qsc gc od n tri qsi gi fc hc v1 v2 v3 v4 trs qss gs iz u ln) ++ [w_o tc bo fo]) ++ (w_md tc b (bs 0) (bs 1) (bs 2) (bs 3) (bs 4) (bs 5) th g ga sv n sl iz u ln))) (hS : va_S (fun q => s.heap.size ≤ q) s.heap H locs) (ls : Array Slot) (hl : lv_has ls 7 [(4, .int (nI i)), (3, .ref bo), (2, .ref b), (1, .ref x0), (0, .ref sb)]) : W p l e room_1 s m #[Value.ref sb] below meth c H locs cells slots (lw_Z below #[Value.ref sb] s) (F0 m 1599 ls []) := by
  obtain ⟨hx, hb, hml, hown, hts, hM, hX, hbl, hfl, hrt, hlk, hL⟩ := id C0
  have hbA : ¬ (fun q : Nat => s.heap.size ≤ q) sb := Nat.not_le.mpr hbl
  have hL31 : L < 2 ^ 31 := Nat.lt_of_le_of_lt hL (by decide)
  obtain ⟨tr', qs', g', trc', qsc', gc', od', n', tri', qsi', gi', fc', hc', v1', v2', v3', v4', trs', qss', gs', iz', u', ln', th', ga', sv', sl', fo', k, bb, fr, lo, hk3, hfr, hlo, hcL, hcM, hth, hval, hinv'⟩ := s_ifKept l hfl D tc zb x0 as b bs bo tr qs g trc qsc gc od n tri qsi gi fc hc v1 v2 v3 v4 trs qss gs iz u ln th ga sv sl fo hinv (xs (i + 1))
  refine lv_aload_n hx hb dL_law_1599 rfl (lv_at hl 3 rfl) ?_
  refine lv_aload_n hx hb dL_law_1600 rfl (lv_at hl 4 rfl) ?_
  refine lv_iload hx hb dL_law_1601 (lv_at hl 0 rfl) ?_
  refine lv_iconst (v := nI 1) hx hb dL_law_1603 (by decide) ?_
  refine ln_iadd hx hb dL_law_1604 ?_
  refine lx_sld hx hb hX hbl hbA hS (by omega) hL31 dL_law_1605 ?_
  refine lv_aload_n hx hb dL_law_1606 rfl (lv_at hl 1 rfl) ?_
  refine ipF_SW (n := 3) ⟨hx, hb, hml, hown, hts⟩ hM hS hP hD (IPn.app hcL (w_md tc b (bs 0) (bs 1) (bs 2) (bs 3) (bs 4) (bs 5) th g ga sv n sl iz u ln)) gL_law_L_ifKept rfl (by decide +kernel) ⟨Nat.le_of_ble_eq_true rfl, Nat.le_of_ble_eq_true rfl⟩ rfl rfl hl.1 rfl (Nat.le_of_ble_eq_true rfl) dL_law_1607 ⟨by show _ ≤ 601024; omega, by show _ ≤ 7293033; omega⟩ (fun H locs hP hD hS => ?_)
  refine W.eq (g2 := F0 m 1610 ls [.int (nI k)]) rfl ?_
  refine lv_istore (lv' := [(5, .int (nI k)), (4, .int (nI i)), (3, .ref bo), (2, .ref b), (1, .ref x0), (0, .ref sb)]) hx hb dL_law_1610 hl (by decide) rfl (fun ls hl => ?_)
  refine lv_aload_n hx hb dL_law_1612 rfl (lv_at hl 3 rfl) ?_
  refine lv_aload_n hx hb dL_law_1613 rfl (lv_at hl 5 rfl) ?_
  refine lv_iload hx hb dL_law_1614 (lv_at hl 1 rfl) ?_
  refine lv_iconst (v := nI 1) hx hb dL_law_1616 (by decide) ?_
  refine ln_iadd hx hb dL_law_1617 ?_
  refine lx_sld hx hb hX hbl hbA hS (by omega) hL31 dL_law_1618 ?_
  refine ipF_V (C := RX7) (n := 1) ⟨hx, hb, hml, hown, hts⟩ hM hS hP hD (IPn.appl (mc := 0) (ms := 0) hcM ((CW tc x0 as tr' qs' g' trc' qsc' gc' od' n' tri' qsi' gi' fc' hc' v1' v2' v3' v4' trs' qss' gs' iz' u' ln') ++ [w_o tc bo fo'])) gL_law_X7_ifKept rfl (by decide +kernel) ⟨Nat.le_trans (Nat.succ_le_succ hfr) (by decide), Nat.le_trans (Nat.add_le_add_left hlo _) (by decide)⟩ rfl (va_recv hM.1 (va_P_r hP) (ci := 6) (q0 := 0) rfl rfl) rfl hl.1 rfl (Nat.le_of_ble_eq_true rfl) dL_law_1619 ⟨by show _ ≤ 601024; omega, by show _ ≤ 7293033; omega⟩ (fun H locs hP hD hS => ?_)
  refine W.eq (g2 := F0 m 1622 ls [.int bb]) rfl ?_
  refine lv_istore (lv' := [(6, .int bb), (5, .int (nI k)), (4, .int (nI i)), (3, .ref bo), (2, .ref b), (1, .ref x0), (0, .ref sb)]) hx hb dL_law_1622 hl (by decide) rfl (fun ls hl => ?_)
  refine lv_aload_n hx hb dL_law_1624 rfl (lv_at hl 4 rfl) ?_
  refine ro_V (C := RX7) (n := 0) ⟨hx, hb, hml, hown, hts⟩ hM hS (va_P_r hP) (RO.up (c7_thrown l D tc zb b th' (fun k9 => match k9 with | 1 => .ref (bs 0) | 2 => .ref (bs 1) | 3 => .ref (bs 2) | 4 => .int (nI n') | 5 => .ref (bs 3) | 6 => .ref (bs 4) | 7 => .ref (bs 5) | 8 => .int (nI ln') | _ => .null)) [0] rfl) gL_law_X7_thrown rfl (by decide +kernel) ⟨Nat.le_of_ble_eq_true rfl, Nat.le_of_ble_eq_true rfl⟩ [0, 1, 2, 3, 4, 5, 6] rfl (va_recv hM.1 (va_P_r hP) (ci := 6) (q0 := 0) rfl rfl) rfl hl.1 rfl (Nat.le_of_ble_eq_true rfl) dL_law_1625 ⟨by show _ ≤ 601024; omega, by show _ ≤ 7293033; omega⟩ ?_
  refine lv_iload hx hb dL_law_1628 (lv_at hl 1 rfl) ?_
  refine lv_icmp_eq (tgt := 1635) hx hb dL_law_1630 (by decide) (fun _ => ?_) (fun h9 => absurd hth h9)
  refine lv_iload hx hb dL_law_1635 (lv_at hl 1 rfl) ?_
  refine ln_if_ne (tgt := 1652) hx hb dL_law_1637 (by decide) (Nat.lt_trans hk3 (by decide)) (fun hk9 => ?_) (fun hk9 => ?_)
  · refine lv_goto (tgt := 1980) hx hb dL_law_1652 (by decide) ?_
    exact kk tr' qs' g' trc' qsc' gc' od' n' tri' qsi' gi' fc' hc' v1' v2' v3' v4' trs' qss' gs' iz' u' ln' th' ga' sv' sl' fo' hinv' _ _ hP hD hS _ (lv_sub hl [2, 3, 4, 5, 6] rfl)
  · refine lv_aload_n hx hb dL_law_1640 rfl (lv_at hl 3 rfl) ?_
    refine lv_iconst (v := nI 0) hx hb dL_law_1641 (by decide) ?_
    refine lx_lald hx hb hM.1 hP dL_law_1642 ?_
    refine lv_iload hx hb dL_law_1643 (lv_at hl 0 rfl) ?_
    refine lv_i2l (v := (bb).toInt64) hx hb dL_law_1645 rfl ?_
    refine W.lcmp hx hb dL_law_1646 ?_
    refine ln_lif_eq (tgt := 1652) hx hb dL_law_1647 (by decide) (fun _ => ?_) (fun h9 => absurd (hval hk9) h9)
    refine lv_goto (tgt := 1980) hx hb dL_law_1652 (by decide) ?_
    exact kk tr' qs' g' trc' qsc' gc' od' n' tri' qsi' gi' fc' hc' v1' v2' v3' v4' trs' qss' gs' iz' u' ln' th' ga' sv' sl' fo' hinv' _ _ hP hD hS _ (lv_sub hl [2, 3, 4, 5, 6] rfl)
set_option maxHeartbeats 4000000 in
set_option maxRecDepth 100000 in
theorem a_bestSet {p : Program} {e : Env} {s : State} {m : MethodId} {below : List Frame} {meth : Method} {c : Code} (l : Launch) (D : va_G) (tc : Nat → ClassId) (zb x0 : Nat) (as : Nat → Nat) (b : Nat) (bs : Nat → Nat) (bo sb L : Nat) (xs : Nat → Int32) (i cells slots : Nat) (C0 : lw_C p s m meth c l D tc zb sb L xs) (kk : lw_K p l e s m below meth c D tc x0 as b bs bo sb i (cells + 1) (slots + 6)) (hi : i + 6 ≤ L) (hce : cells + 1 ≤ 601024) (hsl : slots + 6 ≤ 7293033) (tr : Nat → Int32) (qs : Nat → Int32) (g : Nat → Nat) (trc : Nat → Int32) (qsc : Nat → Int32) (gc : Nat → Nat) (od : Nat) (n : Nat) (tri : Nat → Nat → Int32) (qsi : Nat → Nat → Int32) (gi : Nat → Nat → Nat) (fc : Nat → Int32) (hc : Nat → Int32) (v1 : Int32) (v2 : Int32) (v3 : Int32) (v4 : Int32) (trs : Nat → Nat → Int32) (qss : Nat → Nat → Int32) (gs : Nat → Nat → Nat) (iz : Nat → Bool) (u : Nat → Nat) (ln : Nat) (th : Int32) (ga : Nat → Nat) (sv : Nat → Nat) (sl : Nat → Nat) (fo : Nat → Int64) (hinv : INV tr qs g od n tri qsi gi trs qss gs iz u ln sv sl) (H : Heap) (locs : List Loc) (hP : va_P D vwCl (((CW tc x0 as tr qs g trc qsc gc od n tri qsi gi fc hc v1 v2 v3 v4 trs qss gs iz u ln) ++ [w_o tc bo fo]) ++ (w_md tc b (bs 0) (bs 1) (bs 2) (bs 3) (bs 4) (bs 5) th g ga sv n sl iz u ln)) H) (hD : va_D (fun q => s.heap.size ≤ q) (((CW tc x0 as tr qs g trc qsc gc od n tri qsi gi fc hc v1 v2 v3 v4 trs qss gs iz u ln) ++ [w_o tc bo fo]) ++ (w_md tc b (bs 0) (bs 1) (bs 2) (bs 3) (bs 4) (bs 5) th g ga sv n sl iz u ln))) (hS : va_S (fun q => s.heap.size ≤ q) s.heap H locs) (ls : Array Slot) (hl : lv_has ls 7 [(4, .int (nI i)), (3, .ref bo), (2, .ref b), (1, .ref x0), (0, .ref sb)]) : W p l e room_1 s m #[Value.ref sb] below meth c H locs cells slots (lw_Z below #[Value.ref sb] s) (F0 m 1655 ls []) := by
  obtain ⟨hx, hb, hml, hown, hts, hM, hX, hbl, hfl, hrt, hlk, hL⟩ := id C0
  have hbA : ¬ (fun q : Nat => s.heap.size ≤ q) sb := Nat.not_le.mpr hbl
  have hL31 : L < 2 ^ 31 := Nat.lt_of_le_of_lt hL (by decide)
  obtain ⟨tr', qs', g', trc', qsc', gc', od', n', tri', qsi', gi', fc', hc', v1', v2', v3', v4', trs', qss', gs', iz', u', ln', th', ga', sv', sl', fo', r9, fx, lx, fr, lo, hfx, hlx, hfr, hlo, hcL, hcM, hfo, hinv'⟩ := s_bestSet l hfl D tc zb x0 as b bs bo tr qs g trc qsc gc od n tri qsi gi fc hc v1 v2 v3 v4 trs qss gs iz u ln th ga sv sl fo hinv 
  refine lv_aload_n hx hb dL_law_1655 rfl (lv_at hl 3 rfl) ?_
  refine ipF_V (C := RX6) (n := 0) ⟨hx, hb, hml, hown, hts⟩ hM hS hP hD (IPn.app (mc := 0) (ms := 0) (IPn.app (mc := 0) (ms := 0) hcL [w_o tc bo fo]) (w_md tc b (bs 0) (bs 1) (bs 2) (bs 3) (bs 4) (bs 5) th g ga sv n sl iz u ln)) gL_law_X6_bestSet rfl (by decide +kernel) ⟨Nat.le_trans (Nat.succ_le_succ hfx) (by decide), Nat.le_trans (Nat.add_le_add_left hlx _) (by decide)⟩ rfl (va_recv hM.1 hP (ci := 5) (q0 := 0) rfl rfl) rfl hl.1 rfl (Nat.le_of_ble_eq_true rfl) dL_law_1656 ⟨by show _ ≤ 601024; omega, by show _ ≤ 7293033; omega⟩ (fun H locs hP hD hS => ?_)
  refine W.eq (g2 := F0 m 1659 ls [.int r9]) rfl ?_
  refine lv_aload_n hx hb dL_law_1659 rfl (lv_at hl 2 rfl) ?_
  refine ipF_V (C := RX7) (n := 0) ⟨hx, hb, hml, hown, hts⟩ hM hS hP hD (IPn.appl (mc := 0) (ms := 0) hcM ((CW tc x0 as tr' qs' g' trc' qsc' gc' od' n' tri' qsi' gi' fc' hc' v1' v2' v3' v4' trs' qss' gs' iz' u' ln') ++ [w_o tc bo fo])) gL_law_X7_bestSet rfl (by decide +kernel) ⟨Nat.le_trans (Nat.succ_le_succ hfr) (by decide), Nat.le_trans (Nat.add_le_add_left hlo _) (by decide)⟩ rfl (va_recv hM.1 (va_P_r hP) (ci := 6) (q0 := 0) rfl rfl) rfl hl.1 rfl (Nat.le_of_ble_eq_true rfl) dL_law_1660 ⟨by show _ ≤ 601024; omega, by show _ ≤ 7293033; omega⟩ (fun H locs hP hD hS => ?_)
  refine W.eq (g2 := F0 m 1663 ls [.int r9, .int r9]) rfl ?_
  refine lv_icmp_eq (tgt := 1980) hx hb dL_law_1663 (by decide) (fun _ => ?_) (fun h9 => absurd rfl h9)
  exact W.widen (Nat.le_succ _) (Nat.le_add_right _ _) (kk tr' qs' g' trc' qsc' gc' od' n' tri' qsi' gi' fc' hc' v1' v2' v3' v4' trs' qss' gs' iz' u' ln' th' ga' sv' sl' fo hinv' _ _ hP hD hS _ (lv_sub hl [0, 1, 2, 3, 4] rfl))
set_option maxHeartbeats 4000000 in
set_option maxRecDepth 100000 in
theorem a_runScript {p : Program} {e : Env} {s : State} {m : MethodId} {below : List Frame} {meth : Method} {c : Code} (l : Launch) (D : va_G) (tc : Nat → ClassId) (zb x0 : Nat) (as : Nat → Nat) (b : Nat) (bs : Nat → Nat) (bo sb L : Nat) (xs : Nat → Int32) (i cells slots : Nat) (C0 : lw_C p s m meth c l D tc zb sb L xs) (kk : lw_K p l e s m below meth c D tc x0 as b bs bo sb i (cells + 1) (slots + 6)) (hi : i + 6 ≤ L) (hce : cells + 1 ≤ 601024) (hsl : slots + 6 ≤ 7293033) (tr : Nat → Int32) (qs : Nat → Int32) (g : Nat → Nat) (trc : Nat → Int32) (qsc : Nat → Int32) (gc : Nat → Nat) (od : Nat) (n : Nat) (tri : Nat → Nat → Int32) (qsi : Nat → Nat → Int32) (gi : Nat → Nat → Nat) (fc : Nat → Int32) (hc : Nat → Int32) (v1 : Int32) (v2 : Int32) (v3 : Int32) (v4 : Int32) (trs : Nat → Nat → Int32) (qss : Nat → Nat → Int32) (gs : Nat → Nat → Nat) (iz : Nat → Bool) (u : Nat → Nat) (ln : Nat) (th : Int32) (ga : Nat → Nat) (sv : Nat → Nat) (sl : Nat → Nat) (fo : Nat → Int64) (hinv : INV tr qs g od n tri qsi gi trs qss gs iz u ln sv sl) (H : Heap) (locs : List Loc) (hP : va_P D vwCl (((CW tc x0 as tr qs g trc qsc gc od n tri qsi gi fc hc v1 v2 v3 v4 trs qss gs iz u ln) ++ [w_o tc bo fo]) ++ (w_md tc b (bs 0) (bs 1) (bs 2) (bs 3) (bs 4) (bs 5) th g ga sv n sl iz u ln)) H) (hD : va_D (fun q => s.heap.size ≤ q) (((CW tc x0 as tr qs g trc qsc gc od n tri qsi gi fc hc v1 v2 v3 v4 trs qss gs iz u ln) ++ [w_o tc bo fo]) ++ (w_md tc b (bs 0) (bs 1) (bs 2) (bs 3) (bs 4) (bs 5) th g ga sv n sl iz u ln))) (hS : va_S (fun q => s.heap.size ≤ q) s.heap H locs) (ls : Array Slot) (hl : lv_has ls 7 [(4, .int (nI i)), (3, .ref bo), (2, .ref b), (1, .ref x0), (0, .ref sb)]) : W p l e room_1 s m #[Value.ref sb] below meth c H locs cells slots (lw_Z below #[Value.ref sb] s) (F0 m 1668 ls []) := by
  obtain ⟨hx, hb, hml, hown, hts, hM, hX, hbl, hfl, hrt, hlk, hL⟩ := id C0
  have hbA : ¬ (fun q : Nat => s.heap.size ≤ q) sb := Nat.not_le.mpr hbl
  have hL31 : L < 2 ^ 31 := Nat.lt_of_le_of_lt hL (by decide)
  obtain ⟨tr', qs', g', trc', qsc', gc', od', n', tri', qsi', gi', fc', hc', v1', v2', v3', v4', trs', qss', gs', iz', u', ln', th', ga', sv', sl', fo', k, bb, fr, lo, hk3, hfr, hlo, hcL, hcM, hth, hval, hinv'⟩ := s_runScript l hfl D tc zb x0 as b bs bo tr qs g trc qsc gc od n tri qsi gi fc hc v1 v2 v3 v4 trs qss gs iz u ln th ga sv sl fo hinv (xs (i + 1)) ((((xs (i + 2)).toInt64) <<< ((nI 32).toInt64 &&& 63)) ||| (((xs (i + 3)).toInt64) &&& (4294967295 : Int64)))
  refine lv_aload_n hx hb dL_law_1668 rfl (lv_at hl 3 rfl) ?_
  refine lv_aload_n hx hb dL_law_1669 rfl (lv_at hl 4 rfl) ?_
  refine lv_iload hx hb dL_law_1670 (lv_at hl 0 rfl) ?_
  refine lv_iconst (v := nI 1) hx hb dL_law_1672 (by decide) ?_
  refine ln_iadd hx hb dL_law_1673 ?_
  refine lx_sld hx hb hX hbl hbA hS (by omega) hL31 dL_law_1674 ?_
  refine lv_aload_n hx hb dL_law_1675 rfl (lv_at hl 4 rfl) ?_
  refine lv_iload hx hb dL_law_1676 (lv_at hl 0 rfl) ?_
  refine lv_iconst (v := nI 2) hx hb dL_law_1678 (by decide) ?_
  refine ln_iadd hx hb dL_law_1679 ?_
  refine lx_sld hx hb hX hbl hbA hS (by omega) hL31 dL_law_1680 ?_
  refine lv_i2l (v := ((xs (i + 2))).toInt64) hx hb dL_law_1681 rfl ?_
  refine lv_bipush (v := nI 32) hx hb dL_law_1682 (by decide) ?_
  refine lv_lshl (v := ((((xs (i + 2))).toInt64) <<< (((nI 32)).toInt64 &&& 63))) hx hb dL_law_1684 rfl ?_
  refine lv_aload_n hx hb dL_law_1685 rfl (lv_at hl 4 rfl) ?_
  refine lv_iload hx hb dL_law_1686 (lv_at hl 0 rfl) ?_
  refine lv_iconst (v := nI 3) hx hb dL_law_1688 (by decide) ?_
  refine ln_iadd hx hb dL_law_1689 ?_
  refine lx_sld hx hb hX hbl hbA hS (by omega) hL31 dL_law_1690 ?_
  refine lv_i2l (v := ((xs (i + 3))).toInt64) hx hb dL_law_1691 rfl ?_
  refine lv_ldc2 (v := (4294967295 : Int64)) hx hb hown (hts (.constantLong RL 213 (4294967295)) (by decide +kernel)) dL_law_1692 ?_
  refine lv_land hx hb dL_law_1695 ?_
  refine lv_lor hx hb dL_law_1696 ?_
  refine lv_aload_n hx hb dL_law_1697 rfl (lv_at hl 1 rfl) ?_
  refine ipF_SW (n := 4) ⟨hx, hb, hml, hown, hts⟩ hM hS hP hD (IPn.app hcL (w_md tc b (bs 0) (bs 1) (bs 2) (bs 3) (bs 4) (bs 5) th g ga sv n sl iz u ln)) gL_law_L_runScript rfl (by decide +kernel) ⟨Nat.le_of_ble_eq_true rfl, Nat.le_of_ble_eq_true rfl⟩ rfl rfl hl.1 rfl (Nat.le_of_ble_eq_true rfl) dL_law_1698 ⟨by show _ ≤ 601024; omega, by show _ ≤ 7293033; omega⟩ (fun H locs hP hD hS => ?_)
  refine W.eq (g2 := F0 m 1701 ls [.int (nI k)]) rfl ?_
  refine lv_istore (lv' := [(5, .int (nI k)), (4, .int (nI i)), (3, .ref bo), (2, .ref b), (1, .ref x0), (0, .ref sb)]) hx hb dL_law_1701 hl (by decide) rfl (fun ls hl => ?_)
  refine lv_aload_n hx hb dL_law_1703 rfl (lv_at hl 3 rfl) ?_
  refine lv_aload_n hx hb dL_law_1704 rfl (lv_at hl 5 rfl) ?_
  refine lv_iload hx hb dL_law_1705 (lv_at hl 1 rfl) ?_
  refine lv_iconst (v := nI 1) hx hb dL_law_1707 (by decide) ?_
  refine ln_iadd hx hb dL_law_1708 ?_
  refine lx_sld hx hb hX hbl hbA hS (by omega) hL31 dL_law_1709 ?_
  refine lv_aload_n hx hb dL_law_1710 rfl (lv_at hl 5 rfl) ?_
  refine lv_iload hx hb dL_law_1711 (lv_at hl 1 rfl) ?_
  refine lv_iconst (v := nI 2) hx hb dL_law_1713 (by decide) ?_
  refine ln_iadd hx hb dL_law_1714 ?_
  refine lx_sld hx hb hX hbl hbA hS (by omega) hL31 dL_law_1715 ?_
  refine lv_i2l (v := ((xs (i + 2))).toInt64) hx hb dL_law_1716 rfl ?_
  refine lv_bipush (v := nI 32) hx hb dL_law_1717 (by decide) ?_
  refine lv_lshl (v := ((((xs (i + 2))).toInt64) <<< (((nI 32)).toInt64 &&& 63))) hx hb dL_law_1719 rfl ?_
  refine lv_aload_n hx hb dL_law_1720 rfl (lv_at hl 5 rfl) ?_
  refine lv_iload hx hb dL_law_1721 (lv_at hl 1 rfl) ?_
  refine lv_iconst (v := nI 3) hx hb dL_law_1723 (by decide) ?_
  refine ln_iadd hx hb dL_law_1724 ?_
  refine lx_sld hx hb hX hbl hbA hS (by omega) hL31 dL_law_1725 ?_
  refine lv_i2l (v := ((xs (i + 3))).toInt64) hx hb dL_law_1726 rfl ?_
  refine lv_ldc2 (v := (4294967295 : Int64)) hx hb hown (hts (.constantLong RL 213 (4294967295)) (by decide +kernel)) dL_law_1727 ?_
  refine lv_land hx hb dL_law_1730 ?_
  refine lv_lor hx hb dL_law_1731 ?_
  refine ipF_V (C := RX7) (n := 2) ⟨hx, hb, hml, hown, hts⟩ hM hS hP hD (IPn.appl (mc := 0) (ms := 0) hcM ((CW tc x0 as tr' qs' g' trc' qsc' gc' od' n' tri' qsi' gi' fc' hc' v1' v2' v3' v4' trs' qss' gs' iz' u' ln') ++ [w_o tc bo fo'])) gL_law_X7_runScript rfl (by decide +kernel) ⟨Nat.le_trans (Nat.succ_le_succ hfr) (by decide), Nat.le_trans (Nat.add_le_add_left hlo _) (by decide)⟩ rfl (va_recv hM.1 (va_P_r hP) (ci := 6) (q0 := 0) rfl rfl) rfl hl.1 rfl (Nat.le_of_ble_eq_true rfl) dL_law_1732 ⟨by show _ ≤ 601024; omega, by show _ ≤ 7293033; omega⟩ (fun H locs hP hD hS => ?_)
  refine W.eq (g2 := F0 m 1735 ls [.int bb]) rfl ?_
  refine lv_istore (lv' := [(6, .int bb), (5, .int (nI k)), (4, .int (nI i)), (3, .ref bo), (2, .ref b), (1, .ref x0), (0, .ref sb)]) hx hb dL_law_1735 hl (by decide) rfl (fun ls hl => ?_)
  refine lv_aload_n hx hb dL_law_1737 rfl (lv_at hl 4 rfl) ?_
  refine ro_V (C := RX7) (n := 0) ⟨hx, hb, hml, hown, hts⟩ hM hS (va_P_r hP) (RO.up (c7_thrown l D tc zb b th' (fun k9 => match k9 with | 1 => .ref (bs 0) | 2 => .ref (bs 1) | 3 => .ref (bs 2) | 4 => .int (nI n') | 5 => .ref (bs 3) | 6 => .ref (bs 4) | 7 => .ref (bs 5) | 8 => .int (nI ln') | _ => .null)) [0] rfl) gL_law_X7_thrown rfl (by decide +kernel) ⟨Nat.le_of_ble_eq_true rfl, Nat.le_of_ble_eq_true rfl⟩ [0, 1, 2, 3, 4, 5, 6] rfl (va_recv hM.1 (va_P_r hP) (ci := 6) (q0 := 0) rfl rfl) rfl hl.1 rfl (Nat.le_of_ble_eq_true rfl) dL_law_1738 ⟨by show _ ≤ 601024; omega, by show _ ≤ 7293033; omega⟩ ?_
  refine lv_iload hx hb dL_law_1741 (lv_at hl 1 rfl) ?_
  refine lv_icmp_eq (tgt := 1748) hx hb dL_law_1743 (by decide) (fun _ => ?_) (fun h9 => absurd hth h9)
  refine lv_iload hx hb dL_law_1748 (lv_at hl 1 rfl) ?_
  refine ln_if_ne (tgt := 1765) hx hb dL_law_1750 (by decide) (Nat.lt_trans hk3 (by decide)) (fun hk9 => ?_) (fun hk9 => ?_)
  · refine lv_goto (tgt := 1980) hx hb dL_law_1765 (by decide) ?_
    exact kk tr' qs' g' trc' qsc' gc' od' n' tri' qsi' gi' fc' hc' v1' v2' v3' v4' trs' qss' gs' iz' u' ln' th' ga' sv' sl' fo' hinv' _ _ hP hD hS _ (lv_sub hl [2, 3, 4, 5, 6] rfl)
  · refine lv_aload_n hx hb dL_law_1753 rfl (lv_at hl 3 rfl) ?_
    refine lv_iconst (v := nI 0) hx hb dL_law_1754 (by decide) ?_
    refine lx_lald hx hb hM.1 hP dL_law_1755 ?_
    refine lv_iload hx hb dL_law_1756 (lv_at hl 0 rfl) ?_
    refine lv_i2l (v := (bb).toInt64) hx hb dL_law_1758 rfl ?_
    refine W.lcmp hx hb dL_law_1759 ?_
    refine ln_lif_eq (tgt := 1765) hx hb dL_law_1760 (by decide) (fun _ => ?_) (fun h9 => absurd (hval hk9) h9)
    refine lv_goto (tgt := 1980) hx hb dL_law_1765 (by decide) ?_
    exact kk tr' qs' g' trc' qsc' gc' od' n' tri' qsi' gi' fc' hc' v1' v2' v3' v4' trs' qss' gs' iz' u' ln' th' ga' sv' sl' fo' hinv' _ _ hP hD hS _ (lv_sub hl [2, 3, 4, 5, 6] rfl)
set_option maxHeartbeats 4000000 in
set_option maxRecDepth 100000 in
theorem a_simulate {p : Program} {e : Env} {s : State} {m : MethodId} {below : List Frame} {meth : Method} {c : Code} (l : Launch) (D : va_G) (tc : Nat → ClassId) (zb x0 : Nat) (as : Nat → Nat) (b : Nat) (bs : Nat → Nat) (bo sb L : Nat) (xs : Nat → Int32) (i cells slots : Nat) (C0 : lw_C p s m meth c l D tc zb sb L xs) (kk : lw_K p l e s m below meth c D tc x0 as b bs bo sb i (cells + 1) (slots + 6)) (hi : i + 6 ≤ L) (hce : cells + 1 ≤ 601024) (hsl : slots + 6 ≤ 7293033) (tr : Nat → Int32) (qs : Nat → Int32) (g : Nat → Nat) (trc : Nat → Int32) (qsc : Nat → Int32) (gc : Nat → Nat) (od : Nat) (n : Nat) (tri : Nat → Nat → Int32) (qsi : Nat → Nat → Int32) (gi : Nat → Nat → Nat) (fc : Nat → Int32) (hc : Nat → Int32) (v1 : Int32) (v2 : Int32) (v3 : Int32) (v4 : Int32) (trs : Nat → Nat → Int32) (qss : Nat → Nat → Int32) (gs : Nat → Nat → Nat) (iz : Nat → Bool) (u : Nat → Nat) (ln : Nat) (th : Int32) (ga : Nat → Nat) (sv : Nat → Nat) (sl : Nat → Nat) (fo : Nat → Int64) (hinv : INV tr qs g od n tri qsi gi trs qss gs iz u ln sv sl) (H : Heap) (locs : List Loc) (hP : va_P D vwCl (((CW tc x0 as tr qs g trc qsc gc od n tri qsi gi fc hc v1 v2 v3 v4 trs qss gs iz u ln) ++ [w_o tc bo fo]) ++ (w_md tc b (bs 0) (bs 1) (bs 2) (bs 3) (bs 4) (bs 5) th g ga sv n sl iz u ln)) H) (hD : va_D (fun q => s.heap.size ≤ q) (((CW tc x0 as tr qs g trc qsc gc od n tri qsi gi fc hc v1 v2 v3 v4 trs qss gs iz u ln) ++ [w_o tc bo fo]) ++ (w_md tc b (bs 0) (bs 1) (bs 2) (bs 3) (bs 4) (bs 5) th g ga sv n sl iz u ln))) (hS : va_S (fun q => s.heap.size ≤ q) s.heap H locs) (ls : Array Slot) (hl : lv_has ls 7 [(4, .int (nI i)), (3, .ref bo), (2, .ref b), (1, .ref x0), (0, .ref sb)]) : W p l e room_1 s m #[Value.ref sb] below meth c H locs cells slots (lw_Z below #[Value.ref sb] s) (F0 m 1768 ls []) := by
  obtain ⟨hx, hb, hml, hown, hts, hM, hX, hbl, hfl, hrt, hlk, hL⟩ := id C0
  have hbA : ¬ (fun q : Nat => s.heap.size ≤ q) sb := Nat.not_le.mpr hbl
  have hL31 : L < 2 ^ 31 := Nat.lt_of_le_of_lt hL (by decide)
  obtain ⟨tr', qs', g', trc', qsc', gc', od', n', tri', qsi', gi', fc', hc', v1', v2', v3', v4', trs', qss', gs', iz', u', ln', th', ga', sv', sl', fo', k, bb, fr, lo, hk3, hfr, hlo, hcL, hcM, hth, hval, hinv'⟩ := s_simulate l hfl D tc zb x0 as b bs bo tr qs g trc qsc gc od n tri qsi gi fc hc v1 v2 v3 v4 trs qss gs iz u ln th ga sv sl fo hinv ((((xs (i + 1)).toInt64) <<< ((nI 32).toInt64 &&& 63)) ||| (((xs (i + 2)).toInt64) &&& (4294967295 : Int64))) (xs (i + 3))
  refine lv_aload_n hx hb dL_law_1768 rfl (lv_at hl 3 rfl) ?_
  refine lv_aload_n hx hb dL_law_1769 rfl (lv_at hl 4 rfl) ?_
  refine lv_iload hx hb dL_law_1770 (lv_at hl 0 rfl) ?_
  refine lv_iconst (v := nI 1) hx hb dL_law_1772 (by decide) ?_
  refine ln_iadd hx hb dL_law_1773 ?_
  refine lx_sld hx hb hX hbl hbA hS (by omega) hL31 dL_law_1774 ?_
  refine lv_i2l (v := ((xs (i + 1))).toInt64) hx hb dL_law_1775 rfl ?_
  refine lv_bipush (v := nI 32) hx hb dL_law_1776 (by decide) ?_
  refine lv_lshl (v := ((((xs (i + 1))).toInt64) <<< (((nI 32)).toInt64 &&& 63))) hx hb dL_law_1778 rfl ?_
  refine lv_aload_n hx hb dL_law_1779 rfl (lv_at hl 4 rfl) ?_
  refine lv_iload hx hb dL_law_1780 (lv_at hl 0 rfl) ?_
  refine lv_iconst (v := nI 2) hx hb dL_law_1782 (by decide) ?_
  refine ln_iadd hx hb dL_law_1783 ?_
  refine lx_sld hx hb hX hbl hbA hS (by omega) hL31 dL_law_1784 ?_
  refine lv_i2l (v := ((xs (i + 2))).toInt64) hx hb dL_law_1785 rfl ?_
  refine lv_ldc2 (v := (4294967295 : Int64)) hx hb hown (hts (.constantLong RL 213 (4294967295)) (by decide +kernel)) dL_law_1786 ?_
  refine lv_land hx hb dL_law_1789 ?_
  refine lv_lor hx hb dL_law_1790 ?_
  refine lv_aload_n hx hb dL_law_1791 rfl (lv_at hl 4 rfl) ?_
  refine lv_iload hx hb dL_law_1792 (lv_at hl 0 rfl) ?_
  refine lv_iconst (v := nI 3) hx hb dL_law_1794 (by decide) ?_
  refine ln_iadd hx hb dL_law_1795 ?_
  refine lx_sld hx hb hX hbl hbA hS (by omega) hL31 dL_law_1796 ?_
  refine lv_aload_n hx hb dL_law_1797 rfl (lv_at hl 1 rfl) ?_
  refine ipF_SW (n := 4) ⟨hx, hb, hml, hown, hts⟩ hM hS hP hD (IPn.app hcL (w_md tc b (bs 0) (bs 1) (bs 2) (bs 3) (bs 4) (bs 5) th g ga sv n sl iz u ln)) gL_law_L_simulate rfl (by decide +kernel) ⟨Nat.le_of_ble_eq_true rfl, Nat.le_of_ble_eq_true rfl⟩ rfl rfl hl.1 rfl (Nat.le_of_ble_eq_true rfl) dL_law_1798 ⟨by show _ ≤ 601024; omega, by show _ ≤ 7293033; omega⟩ (fun H locs hP hD hS => ?_)
  refine W.eq (g2 := F0 m 1801 ls [.int (nI k)]) rfl ?_
  refine lv_istore (lv' := [(5, .int (nI k)), (4, .int (nI i)), (3, .ref bo), (2, .ref b), (1, .ref x0), (0, .ref sb)]) hx hb dL_law_1801 hl (by decide) rfl (fun ls hl => ?_)
  refine lv_aload_n hx hb dL_law_1803 rfl (lv_at hl 3 rfl) ?_
  refine lv_aload_n hx hb dL_law_1804 rfl (lv_at hl 5 rfl) ?_
  refine lv_iload hx hb dL_law_1805 (lv_at hl 1 rfl) ?_
  refine lv_iconst (v := nI 1) hx hb dL_law_1807 (by decide) ?_
  refine ln_iadd hx hb dL_law_1808 ?_
  refine lx_sld hx hb hX hbl hbA hS (by omega) hL31 dL_law_1809 ?_
  refine lv_i2l (v := ((xs (i + 1))).toInt64) hx hb dL_law_1810 rfl ?_
  refine lv_bipush (v := nI 32) hx hb dL_law_1811 (by decide) ?_
  refine lv_lshl (v := ((((xs (i + 1))).toInt64) <<< (((nI 32)).toInt64 &&& 63))) hx hb dL_law_1813 rfl ?_
  refine lv_aload_n hx hb dL_law_1814 rfl (lv_at hl 5 rfl) ?_
  refine lv_iload hx hb dL_law_1815 (lv_at hl 1 rfl) ?_
  refine lv_iconst (v := nI 2) hx hb dL_law_1817 (by decide) ?_
  refine ln_iadd hx hb dL_law_1818 ?_
  refine lx_sld hx hb hX hbl hbA hS (by omega) hL31 dL_law_1819 ?_
  refine lv_i2l (v := ((xs (i + 2))).toInt64) hx hb dL_law_1820 rfl ?_
  refine lv_ldc2 (v := (4294967295 : Int64)) hx hb hown (hts (.constantLong RL 213 (4294967295)) (by decide +kernel)) dL_law_1821 ?_
  refine lv_land hx hb dL_law_1824 ?_
  refine lv_lor hx hb dL_law_1825 ?_
  refine lv_aload_n hx hb dL_law_1826 rfl (lv_at hl 5 rfl) ?_
  refine lv_iload hx hb dL_law_1827 (lv_at hl 1 rfl) ?_
  refine lv_iconst (v := nI 3) hx hb dL_law_1829 (by decide) ?_
  refine ln_iadd hx hb dL_law_1830 ?_
  refine lx_sld hx hb hX hbl hbA hS (by omega) hL31 dL_law_1831 ?_
  refine ipF_V (C := RX7) (n := 2) ⟨hx, hb, hml, hown, hts⟩ hM hS hP hD (IPn.appl (mc := 0) (ms := 0) hcM ((CW tc x0 as tr' qs' g' trc' qsc' gc' od' n' tri' qsi' gi' fc' hc' v1' v2' v3' v4' trs' qss' gs' iz' u' ln') ++ [w_o tc bo fo'])) gL_law_X7_simulate rfl (by decide +kernel) ⟨Nat.le_trans (Nat.succ_le_succ hfr) (by decide), Nat.le_trans (Nat.add_le_add_left hlo _) (by decide)⟩ rfl (va_recv hM.1 (va_P_r hP) (ci := 6) (q0 := 0) rfl rfl) rfl hl.1 rfl (Nat.le_of_ble_eq_true rfl) dL_law_1832 ⟨by show _ ≤ 601024; omega, by show _ ≤ 7293033; omega⟩ (fun H locs hP hD hS => ?_)
  refine W.eq (g2 := F0 m 1835 ls [.int bb]) rfl ?_
  refine lv_istore (lv' := [(6, .int bb), (5, .int (nI k)), (4, .int (nI i)), (3, .ref bo), (2, .ref b), (1, .ref x0), (0, .ref sb)]) hx hb dL_law_1835 hl (by decide) rfl (fun ls hl => ?_)
  refine lv_aload_n hx hb dL_law_1837 rfl (lv_at hl 4 rfl) ?_
  refine ro_V (C := RX7) (n := 0) ⟨hx, hb, hml, hown, hts⟩ hM hS (va_P_r hP) (RO.up (c7_thrown l D tc zb b th' (fun k9 => match k9 with | 1 => .ref (bs 0) | 2 => .ref (bs 1) | 3 => .ref (bs 2) | 4 => .int (nI n') | 5 => .ref (bs 3) | 6 => .ref (bs 4) | 7 => .ref (bs 5) | 8 => .int (nI ln') | _ => .null)) [0] rfl) gL_law_X7_thrown rfl (by decide +kernel) ⟨Nat.le_of_ble_eq_true rfl, Nat.le_of_ble_eq_true rfl⟩ [0, 1, 2, 3, 4, 5, 6] rfl (va_recv hM.1 (va_P_r hP) (ci := 6) (q0 := 0) rfl rfl) rfl hl.1 rfl (Nat.le_of_ble_eq_true rfl) dL_law_1838 ⟨by show _ ≤ 601024; omega, by show _ ≤ 7293033; omega⟩ ?_
  refine lv_iload hx hb dL_law_1841 (lv_at hl 1 rfl) ?_
  refine lv_icmp_eq (tgt := 1848) hx hb dL_law_1843 (by decide) (fun _ => ?_) (fun h9 => absurd hth h9)
  refine lv_iload hx hb dL_law_1848 (lv_at hl 1 rfl) ?_
  refine ln_if_ne (tgt := 1865) hx hb dL_law_1850 (by decide) (Nat.lt_trans hk3 (by decide)) (fun hk9 => ?_) (fun hk9 => ?_)
  · refine lv_goto (tgt := 1980) hx hb dL_law_1865 (by decide) ?_
    exact kk tr' qs' g' trc' qsc' gc' od' n' tri' qsi' gi' fc' hc' v1' v2' v3' v4' trs' qss' gs' iz' u' ln' th' ga' sv' sl' fo' hinv' _ _ hP hD hS _ (lv_sub hl [2, 3, 4, 5, 6] rfl)
  · refine lv_aload_n hx hb dL_law_1853 rfl (lv_at hl 3 rfl) ?_
    refine lv_iconst (v := nI 0) hx hb dL_law_1854 (by decide) ?_
    refine lx_lald hx hb hM.1 hP dL_law_1855 ?_
    refine lv_iload hx hb dL_law_1856 (lv_at hl 0 rfl) ?_
    refine lv_i2l (v := (bb).toInt64) hx hb dL_law_1858 rfl ?_
    refine W.lcmp hx hb dL_law_1859 ?_
    refine ln_lif_eq (tgt := 1865) hx hb dL_law_1860 (by decide) (fun _ => ?_) (fun h9 => absurd (hval hk9) h9)
    refine lv_goto (tgt := 1980) hx hb dL_law_1865 (by decide) ?_
    exact kk tr' qs' g' trc' qsc' gc' od' n' tri' qsi' gi' fc' hc' v1' v2' v3' v4' trs' qss' gs' iz' u' ln' th' ga' sv' sl' fo' hinv' _ _ hP hD hS _ (lv_sub hl [2, 3, 4, 5, 6] rfl)
set_option maxHeartbeats 4000000 in
set_option maxRecDepth 100000 in
theorem a_save {p : Program} {e : Env} {s : State} {m : MethodId} {below : List Frame} {meth : Method} {c : Code} (l : Launch) (D : va_G) (tc : Nat → ClassId) (zb x0 : Nat) (as : Nat → Nat) (b : Nat) (bs : Nat → Nat) (bo sb L : Nat) (xs : Nat → Int32) (i cells slots : Nat) (C0 : lw_C p s m meth c l D tc zb sb L xs) (kk : lw_K p l e s m below meth c D tc x0 as b bs bo sb i (cells + 1) (slots + 6)) (hi : i + 6 ≤ L) (hce : cells + 1 ≤ 601024) (hsl : slots + 6 ≤ 7293033) (tr : Nat → Int32) (qs : Nat → Int32) (g : Nat → Nat) (trc : Nat → Int32) (qsc : Nat → Int32) (gc : Nat → Nat) (od : Nat) (n : Nat) (tri : Nat → Nat → Int32) (qsi : Nat → Nat → Int32) (gi : Nat → Nat → Nat) (fc : Nat → Int32) (hc : Nat → Int32) (v1 : Int32) (v2 : Int32) (v3 : Int32) (v4 : Int32) (trs : Nat → Nat → Int32) (qss : Nat → Nat → Int32) (gs : Nat → Nat → Nat) (iz : Nat → Bool) (u : Nat → Nat) (ln : Nat) (th : Int32) (ga : Nat → Nat) (sv : Nat → Nat) (sl : Nat → Nat) (fo : Nat → Int64) (hinv : INV tr qs g od n tri qsi gi trs qss gs iz u ln sv sl) (H : Heap) (locs : List Loc) (hP : va_P D vwCl (((CW tc x0 as tr qs g trc qsc gc od n tri qsi gi fc hc v1 v2 v3 v4 trs qss gs iz u ln) ++ [w_o tc bo fo]) ++ (w_md tc b (bs 0) (bs 1) (bs 2) (bs 3) (bs 4) (bs 5) th g ga sv n sl iz u ln)) H) (hD : va_D (fun q => s.heap.size ≤ q) (((CW tc x0 as tr qs g trc qsc gc od n tri qsi gi fc hc v1 v2 v3 v4 trs qss gs iz u ln) ++ [w_o tc bo fo]) ++ (w_md tc b (bs 0) (bs 1) (bs 2) (bs 3) (bs 4) (bs 5) th g ga sv n sl iz u ln))) (hS : va_S (fun q => s.heap.size ≤ q) s.heap H locs) (ls : Array Slot) (hl : lv_has ls 7 [(4, .int (nI i)), (3, .ref bo), (2, .ref b), (1, .ref x0), (0, .ref sb)]) : W p l e room_1 s m #[Value.ref sb] below meth c H locs cells slots (lw_Z below #[Value.ref sb] s) (F0 m 1868 ls []) := by
  obtain ⟨hx, hb, hml, hown, hts, hM, hX, hbl, hfl, hrt, hlk, hL⟩ := id C0
  have hbA : ¬ (fun q : Nat => s.heap.size ≤ q) sb := Nat.not_le.mpr hbl
  have hL31 : L < 2 ^ 31 := Nat.lt_of_le_of_lt hL (by decide)
  obtain ⟨tr', qs', g', trc', qsc', gc', od', n', tri', qsi', gi', fc', hc', v1', v2', v3', v4', trs', qss', gs', iz', u', ln', th', ga', sv', sl', fo', k, bb, fr, lo, hk3, hfr, hlo, hcL, hcM, hth, hval, hinv'⟩ := s_save l hfl D tc zb x0 as b bs bo tr qs g trc qsc gc od n tri qsi gi fc hc v1 v2 v3 v4 trs qss gs iz u ln th ga sv sl fo hinv (xs (i + 1))
  refine lv_aload_n hx hb dL_law_1868 rfl (lv_at hl 3 rfl) ?_
  refine lv_aload_n hx hb dL_law_1869 rfl (lv_at hl 4 rfl) ?_
  refine lv_iload hx hb dL_law_1870 (lv_at hl 0 rfl) ?_
  refine lv_iconst (v := nI 1) hx hb dL_law_1872 (by decide) ?_
  refine ln_iadd hx hb dL_law_1873 ?_
  refine lx_sld hx hb hX hbl hbA hS (by omega) hL31 dL_law_1874 ?_
  refine lv_aload_n hx hb dL_law_1875 rfl (lv_at hl 1 rfl) ?_
  refine ipF_SW (n := 3) ⟨hx, hb, hml, hown, hts⟩ hM hS hP hD (IPn.app hcL (w_md tc b (bs 0) (bs 1) (bs 2) (bs 3) (bs 4) (bs 5) th g ga sv n sl iz u ln)) gL_law_L_save rfl (by decide +kernel) ⟨Nat.le_of_ble_eq_true rfl, Nat.le_of_ble_eq_true rfl⟩ rfl rfl hl.1 rfl (Nat.le_of_ble_eq_true rfl) dL_law_1876 ⟨by show _ ≤ 601024; omega, by show _ ≤ 7293033; omega⟩ (fun H locs hP hD hS => ?_)
  refine W.eq (g2 := F0 m 1879 ls [.int (nI k)]) rfl ?_
  refine lv_istore (lv' := [(5, .int (nI k)), (4, .int (nI i)), (3, .ref bo), (2, .ref b), (1, .ref x0), (0, .ref sb)]) hx hb dL_law_1879 hl (by decide) rfl (fun ls hl => ?_)
  refine lv_aload_n hx hb dL_law_1881 rfl (lv_at hl 3 rfl) ?_
  refine lv_aload_n hx hb dL_law_1882 rfl (lv_at hl 5 rfl) ?_
  refine lv_iload hx hb dL_law_1883 (lv_at hl 1 rfl) ?_
  refine lv_iconst (v := nI 1) hx hb dL_law_1885 (by decide) ?_
  refine ln_iadd hx hb dL_law_1886 ?_
  refine lx_sld hx hb hX hbl hbA hS (by omega) hL31 dL_law_1887 ?_
  refine ipF_V (C := RX7) (n := 1) ⟨hx, hb, hml, hown, hts⟩ hM hS hP hD (IPn.appl (mc := 0) (ms := 0) hcM ((CW tc x0 as tr' qs' g' trc' qsc' gc' od' n' tri' qsi' gi' fc' hc' v1' v2' v3' v4' trs' qss' gs' iz' u' ln') ++ [w_o tc bo fo'])) gL_law_X7_save rfl (by decide +kernel) ⟨Nat.le_trans (Nat.succ_le_succ hfr) (by decide), Nat.le_trans (Nat.add_le_add_left hlo _) (by decide)⟩ rfl (va_recv hM.1 (va_P_r hP) (ci := 6) (q0 := 0) rfl rfl) rfl hl.1 rfl (Nat.le_of_ble_eq_true rfl) dL_law_1888 ⟨by show _ ≤ 601024; omega, by show _ ≤ 7293033; omega⟩ (fun H locs hP hD hS => ?_)
  refine W.eq (g2 := F0 m 1891 ls [.int bb]) rfl ?_
  refine lv_istore (lv' := [(6, .int bb), (5, .int (nI k)), (4, .int (nI i)), (3, .ref bo), (2, .ref b), (1, .ref x0), (0, .ref sb)]) hx hb dL_law_1891 hl (by decide) rfl (fun ls hl => ?_)
  refine lv_aload_n hx hb dL_law_1893 rfl (lv_at hl 4 rfl) ?_
  refine ro_V (C := RX7) (n := 0) ⟨hx, hb, hml, hown, hts⟩ hM hS (va_P_r hP) (RO.up (c7_thrown l D tc zb b th' (fun k9 => match k9 with | 1 => .ref (bs 0) | 2 => .ref (bs 1) | 3 => .ref (bs 2) | 4 => .int (nI n') | 5 => .ref (bs 3) | 6 => .ref (bs 4) | 7 => .ref (bs 5) | 8 => .int (nI ln') | _ => .null)) [0] rfl) gL_law_X7_thrown rfl (by decide +kernel) ⟨Nat.le_of_ble_eq_true rfl, Nat.le_of_ble_eq_true rfl⟩ [0, 1, 2, 3, 4, 5, 6] rfl (va_recv hM.1 (va_P_r hP) (ci := 6) (q0 := 0) rfl rfl) rfl hl.1 rfl (Nat.le_of_ble_eq_true rfl) dL_law_1894 ⟨by show _ ≤ 601024; omega, by show _ ≤ 7293033; omega⟩ ?_
  refine lv_iload hx hb dL_law_1897 (lv_at hl 1 rfl) ?_
  refine lv_icmp_eq (tgt := 1904) hx hb dL_law_1899 (by decide) (fun _ => ?_) (fun h9 => absurd hth h9)
  refine lv_iload hx hb dL_law_1904 (lv_at hl 1 rfl) ?_
  refine ln_if_ne (tgt := 1921) hx hb dL_law_1906 (by decide) (Nat.lt_trans hk3 (by decide)) (fun hk9 => ?_) (fun hk9 => ?_)
  · refine lv_goto (tgt := 1980) hx hb dL_law_1921 (by decide) ?_
    exact kk tr' qs' g' trc' qsc' gc' od' n' tri' qsi' gi' fc' hc' v1' v2' v3' v4' trs' qss' gs' iz' u' ln' th' ga' sv' sl' fo' hinv' _ _ hP hD hS _ (lv_sub hl [2, 3, 4, 5, 6] rfl)
  · refine lv_aload_n hx hb dL_law_1909 rfl (lv_at hl 3 rfl) ?_
    refine lv_iconst (v := nI 0) hx hb dL_law_1910 (by decide) ?_
    refine lx_lald hx hb hM.1 hP dL_law_1911 ?_
    refine lv_iload hx hb dL_law_1912 (lv_at hl 0 rfl) ?_
    refine lv_i2l (v := (bb).toInt64) hx hb dL_law_1914 rfl ?_
    refine W.lcmp hx hb dL_law_1915 ?_
    refine ln_lif_eq (tgt := 1921) hx hb dL_law_1916 (by decide) (fun _ => ?_) (fun h9 => absurd (hval hk9) h9)
    refine lv_goto (tgt := 1980) hx hb dL_law_1921 (by decide) ?_
    exact kk tr' qs' g' trc' qsc' gc' od' n' tri' qsi' gi' fc' hc' v1' v2' v3' v4' trs' qss' gs' iz' u' ln' th' ga' sv' sl' fo' hinv' _ _ hP hD hS _ (lv_sub hl [2, 3, 4, 5, 6] rfl)
set_option maxHeartbeats 4000000 in
set_option maxRecDepth 100000 in
theorem a_restore {p : Program} {e : Env} {s : State} {m : MethodId} {below : List Frame} {meth : Method} {c : Code} (l : Launch) (D : va_G) (tc : Nat → ClassId) (zb x0 : Nat) (as : Nat → Nat) (b : Nat) (bs : Nat → Nat) (bo sb L : Nat) (xs : Nat → Int32) (i cells slots : Nat) (C0 : lw_C p s m meth c l D tc zb sb L xs) (kk : lw_K p l e s m below meth c D tc x0 as b bs bo sb i (cells + 1) (slots + 6)) (hi : i + 6 ≤ L) (hce : cells + 1 ≤ 601024) (hsl : slots + 6 ≤ 7293033) (tr : Nat → Int32) (qs : Nat → Int32) (g : Nat → Nat) (trc : Nat → Int32) (qsc : Nat → Int32) (gc : Nat → Nat) (od : Nat) (n : Nat) (tri : Nat → Nat → Int32) (qsi : Nat → Nat → Int32) (gi : Nat → Nat → Nat) (fc : Nat → Int32) (hc : Nat → Int32) (v1 : Int32) (v2 : Int32) (v3 : Int32) (v4 : Int32) (trs : Nat → Nat → Int32) (qss : Nat → Nat → Int32) (gs : Nat → Nat → Nat) (iz : Nat → Bool) (u : Nat → Nat) (ln : Nat) (th : Int32) (ga : Nat → Nat) (sv : Nat → Nat) (sl : Nat → Nat) (fo : Nat → Int64) (hinv : INV tr qs g od n tri qsi gi trs qss gs iz u ln sv sl) (H : Heap) (locs : List Loc) (hP : va_P D vwCl (((CW tc x0 as tr qs g trc qsc gc od n tri qsi gi fc hc v1 v2 v3 v4 trs qss gs iz u ln) ++ [w_o tc bo fo]) ++ (w_md tc b (bs 0) (bs 1) (bs 2) (bs 3) (bs 4) (bs 5) th g ga sv n sl iz u ln)) H) (hD : va_D (fun q => s.heap.size ≤ q) (((CW tc x0 as tr qs g trc qsc gc od n tri qsi gi fc hc v1 v2 v3 v4 trs qss gs iz u ln) ++ [w_o tc bo fo]) ++ (w_md tc b (bs 0) (bs 1) (bs 2) (bs 3) (bs 4) (bs 5) th g ga sv n sl iz u ln))) (hS : va_S (fun q => s.heap.size ≤ q) s.heap H locs) (ls : Array Slot) (hl : lv_has ls 7 [(4, .int (nI i)), (3, .ref bo), (2, .ref b), (1, .ref x0), (0, .ref sb)]) : W p l e room_1 s m #[Value.ref sb] below meth c H locs cells slots (lw_Z below #[Value.ref sb] s) (F0 m 1924 ls []) := by
  obtain ⟨hx, hb, hml, hown, hts, hM, hX, hbl, hfl, hrt, hlk, hL⟩ := id C0
  have hbA : ¬ (fun q : Nat => s.heap.size ≤ q) sb := Nat.not_le.mpr hbl
  have hL31 : L < 2 ^ 31 := Nat.lt_of_le_of_lt hL (by decide)
  obtain ⟨tr', qs', g', trc', qsc', gc', od', n', tri', qsi', gi', fc', hc', v1', v2', v3', v4', trs', qss', gs', iz', u', ln', th', ga', sv', sl', fo', k, bb, fr, lo, hk3, hfr, hlo, hcL, hcM, hth, hval, hinv'⟩ := s_restore l hfl D tc zb x0 as b bs bo tr qs g trc qsc gc od n tri qsi gi fc hc v1 v2 v3 v4 trs qss gs iz u ln th ga sv sl fo hinv (xs (i + 1))
  refine lv_aload_n hx hb dL_law_1924 rfl (lv_at hl 3 rfl) ?_
  refine lv_aload_n hx hb dL_law_1925 rfl (lv_at hl 4 rfl) ?_
  refine lv_iload hx hb dL_law_1926 (lv_at hl 0 rfl) ?_
  refine lv_iconst (v := nI 1) hx hb dL_law_1928 (by decide) ?_
  refine ln_iadd hx hb dL_law_1929 ?_
  refine lx_sld hx hb hX hbl hbA hS (by omega) hL31 dL_law_1930 ?_
  refine lv_aload_n hx hb dL_law_1931 rfl (lv_at hl 1 rfl) ?_
  refine ipF_SW (n := 3) ⟨hx, hb, hml, hown, hts⟩ hM hS hP hD (IPn.app hcL (w_md tc b (bs 0) (bs 1) (bs 2) (bs 3) (bs 4) (bs 5) th g ga sv n sl iz u ln)) gL_law_L_restore rfl (by decide +kernel) ⟨Nat.le_of_ble_eq_true rfl, Nat.le_of_ble_eq_true rfl⟩ rfl rfl hl.1 rfl (Nat.le_of_ble_eq_true rfl) dL_law_1932 ⟨by show _ ≤ 601024; omega, by show _ ≤ 7293033; omega⟩ (fun H locs hP hD hS => ?_)
  refine W.eq (g2 := F0 m 1935 ls [.int (nI k)]) rfl ?_
  refine lv_istore (lv' := [(5, .int (nI k)), (4, .int (nI i)), (3, .ref bo), (2, .ref b), (1, .ref x0), (0, .ref sb)]) hx hb dL_law_1935 hl (by decide) rfl (fun ls hl => ?_)
  refine lv_aload_n hx hb dL_law_1937 rfl (lv_at hl 3 rfl) ?_
  refine lv_aload_n hx hb dL_law_1938 rfl (lv_at hl 5 rfl) ?_
  refine lv_iload hx hb dL_law_1939 (lv_at hl 1 rfl) ?_
  refine lv_iconst (v := nI 1) hx hb dL_law_1941 (by decide) ?_
  refine ln_iadd hx hb dL_law_1942 ?_
  refine lx_sld hx hb hX hbl hbA hS (by omega) hL31 dL_law_1943 ?_
  refine ipF_V (C := RX7) (n := 1) ⟨hx, hb, hml, hown, hts⟩ hM hS hP hD (IPn.appl (mc := 0) (ms := 0) hcM ((CW tc x0 as tr' qs' g' trc' qsc' gc' od' n' tri' qsi' gi' fc' hc' v1' v2' v3' v4' trs' qss' gs' iz' u' ln') ++ [w_o tc bo fo'])) gL_law_X7_restore rfl (by decide +kernel) ⟨Nat.le_trans (Nat.succ_le_succ hfr) (by decide), Nat.le_trans (Nat.add_le_add_left hlo _) (by decide)⟩ rfl (va_recv hM.1 (va_P_r hP) (ci := 6) (q0 := 0) rfl rfl) rfl hl.1 rfl (Nat.le_of_ble_eq_true rfl) dL_law_1944 ⟨by show _ ≤ 601024; omega, by show _ ≤ 7293033; omega⟩ (fun H locs hP hD hS => ?_)
  refine W.eq (g2 := F0 m 1947 ls [.int bb]) rfl ?_
  refine lv_istore (lv' := [(6, .int bb), (5, .int (nI k)), (4, .int (nI i)), (3, .ref bo), (2, .ref b), (1, .ref x0), (0, .ref sb)]) hx hb dL_law_1947 hl (by decide) rfl (fun ls hl => ?_)
  refine lv_aload_n hx hb dL_law_1949 rfl (lv_at hl 4 rfl) ?_
  refine ro_V (C := RX7) (n := 0) ⟨hx, hb, hml, hown, hts⟩ hM hS (va_P_r hP) (RO.up (c7_thrown l D tc zb b th' (fun k9 => match k9 with | 1 => .ref (bs 0) | 2 => .ref (bs 1) | 3 => .ref (bs 2) | 4 => .int (nI n') | 5 => .ref (bs 3) | 6 => .ref (bs 4) | 7 => .ref (bs 5) | 8 => .int (nI ln') | _ => .null)) [0] rfl) gL_law_X7_thrown rfl (by decide +kernel) ⟨Nat.le_of_ble_eq_true rfl, Nat.le_of_ble_eq_true rfl⟩ [0, 1, 2, 3, 4, 5, 6] rfl (va_recv hM.1 (va_P_r hP) (ci := 6) (q0 := 0) rfl rfl) rfl hl.1 rfl (Nat.le_of_ble_eq_true rfl) dL_law_1950 ⟨by show _ ≤ 601024; omega, by show _ ≤ 7293033; omega⟩ ?_
  refine lv_iload hx hb dL_law_1953 (lv_at hl 1 rfl) ?_
  refine lv_icmp_eq (tgt := 1960) hx hb dL_law_1955 (by decide) (fun _ => ?_) (fun h9 => absurd hth h9)
  refine lv_iload hx hb dL_law_1960 (lv_at hl 1 rfl) ?_
  refine ln_if_ne (tgt := 1977) hx hb dL_law_1962 (by decide) (Nat.lt_trans hk3 (by decide)) (fun hk9 => ?_) (fun hk9 => ?_)
  · refine lv_goto (tgt := 1980) hx hb dL_law_1977 (by decide) ?_
    exact kk tr' qs' g' trc' qsc' gc' od' n' tri' qsi' gi' fc' hc' v1' v2' v3' v4' trs' qss' gs' iz' u' ln' th' ga' sv' sl' fo' hinv' _ _ hP hD hS _ (lv_sub hl [2, 3, 4, 5, 6] rfl)
  · refine lv_aload_n hx hb dL_law_1965 rfl (lv_at hl 3 rfl) ?_
    refine lv_iconst (v := nI 0) hx hb dL_law_1966 (by decide) ?_
    refine lx_lald hx hb hM.1 hP dL_law_1967 ?_
    refine lv_iload hx hb dL_law_1968 (lv_at hl 0 rfl) ?_
    refine lv_i2l (v := (bb).toInt64) hx hb dL_law_1970 rfl ?_
    refine W.lcmp hx hb dL_law_1971 ?_
    refine ln_lif_eq (tgt := 1977) hx hb dL_law_1972 (by decide) (fun _ => ?_) (fun h9 => absurd (hval hk9) h9)
    refine lv_goto (tgt := 1980) hx hb dL_law_1977 (by decide) ?_
    exact kk tr' qs' g' trc' qsc' gc' od' n' tri' qsi' gi' fc' hc' v1' v2' v3' v4' trs' qss' gs' iz' u' ln' th' ga' sv' sl' fo' hinv' _ _ hP hD hS _ (lv_sub hl [2, 3, 4, 5, 6] rfl)
