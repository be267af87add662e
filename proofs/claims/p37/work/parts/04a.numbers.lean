set_option maxHeartbeats 4000000 in
set_option maxRecDepth 100000 in
theorem c_componentAt (l : Launch) (D : va_G) (tc : Nat → ClassId) (zb : Nat) (q pl : Nat) (hq : q < 6) (hp : pl < 3) : RO l yX2_componentAt wsX2_componentAt 0 0 D tc zb [] [.int (nI q), .int (nI pl)] (.int (nI (byf (3 * q + pl)))) := by
  refine RO.of (cc := cX2_componentAt) (maxL := 3) (ret := (some .int)) (by decide) rfl (Nat.le_of_ble_eq_true rfl) ?_
  intro p e s m args below meth c hx hb hr hml hlk hts hown hM hS hP ls hl
  have hl : lv_has ls 3 [(0, .int (nI q)), (1, .int (nI pl))] := hl
  refine lv_iconst (v := (nI 3)) hx hb dX2_componentAt_0 (by decide) ?_
  refine lv_iload_n hx hb dX2_componentAt_1 rfl (lv_at hl 0 rfl) ?_
  refine ln_imul hx hb dX2_componentAt_2 ?_
  refine lv_iload_n hx hb dX2_componentAt_3 rfl (lv_at hl 1 rfl) ?_
  refine ln_iadd hx hb dX2_componentAt_4 ?_
  refine lv_istore_n (lv' := [(2, .int (nI ((3 * q) + pl))), (0, .int (nI q)), (1, .int (nI pl))]) hx hb dX2_componentAt_5 rfl hl (by decide) rfl (fun ls hl => ?_)
  refine lv_iload_n hx hb dX2_componentAt_6 rfl (lv_at hl 0 rfl) ?_
  refine ln_if_lt (tgt := 26) hx hb dX2_componentAt_7 (by decide) (by omega) ?_
  refine lv_iload_n hx hb dX2_componentAt_10 rfl (lv_at hl 0 rfl) ?_
  refine va_gets hx hb hM.2.1 hS hown (hts (.fieldLink RX2 9 "TripleWays$Numbers" "BY" "[I") (by decide +kernel)) (fun _ h9 => h9) dX2_componentAt_11 ?_
  refine va_tlen hx hb hM.2.2.1 hS (v := nI 18) rfl dX2_componentAt_14 ?_
  refine ln_icmp_ge (tgt := 26) hx hb dX2_componentAt_15 (by decide) (by omega) (by decide) (fun h1 => ?_) (fun h1 => ?_)
  · refine lv_iconst (v := (-1)) hx hb dX2_componentAt_26 (by decide) ?_
    exact ro_iret hx hb hr hlk dX2_componentAt_27 (by omega)
  · refine va_gets hx hb hM.2.1 hS hown (hts (.fieldLink RX2 9 "TripleWays$Numbers" "BY" "[I") (by decide +kernel)) (fun _ h9 => h9) dX2_componentAt_18 ?_
    refine lv_iload_n hx hb dX2_componentAt_21 rfl (lv_at hl 0 rfl) ?_
    refine ln_ti hx hb hM.2.2.1 hS dX2_componentAt_22 (by decide) (by omega) rfl ?_
    refine lv_goto (tgt := 27) hx hb dX2_componentAt_23 (by decide) ?_
    exact ro_iret hx hb hr hlk dX2_componentAt_27 (congrArg nI (by omega))
set_option maxHeartbeats 4000000 in
set_option maxRecDepth 100000 in
theorem c_tripleDigit (l : Launch) (D : va_G) (tc : Nat → ClassId) (zb : Nat) (t cc9 : Nat) (ht : t < 1000) (hc : cc9 < 3) : RO l yX2_tripleDigit wsX2_tripleDigit 0 0 D tc zb [] [.int (nI t), .int (nI cc9)] (.int (nI (k_pt t cc9))) := by
  refine RO.of (cc := cX2_tripleDigit) (maxL := 2) (ret := (some .int)) (by decide) rfl (Nat.le_of_ble_eq_true rfl) ?_
  intro p e s m args below meth c hx hb hr hml hlk hts hown hM hS hP ls hl
  have hl : lv_has ls 2 [(0, .int (nI t)), (1, .int (nI cc9))] := hl
  refine lv_iload_n hx hb dX2_tripleDigit_0 rfl (lv_at hl 1 rfl) ?_
  rcases (show cc9 = 0 ∨ cc9 = 1 ∨ cc9 = 2 by omega) with rfl | rfl | rfl
  · refine lv_lookup (off := 27) (tgt := 28) hx hb dX2_tripleDigit_1 (by decide) (by decide) (by decide) ?_
    refine lv_iload_n hx hb dX2_tripleDigit_28 rfl (lv_at hl 0 rfl) ?_
    refine lv_bipush (v := (nI 100)) hx hb dX2_tripleDigit_29 (by decide) ?_
    refine ln_idiv hx hb dX2_tripleDigit_31 (by omega) (by decide) (by decide) ?_
    exact ro_iret hx hb hr hlk dX2_tripleDigit_32 (congrArg nI (by rfl))
  · refine lv_lookup (off := 32) (tgt := 33) hx hb dX2_tripleDigit_1 (by decide) (by decide) (by decide) ?_
    refine lv_iload_n hx hb dX2_tripleDigit_33 rfl (lv_at hl 0 rfl) ?_
    refine lv_bipush (v := (nI 10)) hx hb dX2_tripleDigit_34 (by decide) ?_
    refine ln_idiv hx hb dX2_tripleDigit_36 (by omega) (by decide) (by decide) ?_
    refine lv_bipush (v := (nI 10)) hx hb dX2_tripleDigit_37 (by decide) ?_
    refine ln_irem hx hb dX2_tripleDigit_39 (by omega) (by decide) (by decide) ?_
    exact ro_iret hx hb hr hlk dX2_tripleDigit_40 (congrArg nI (by rfl))
  · refine lv_lookup (off := 40) (tgt := 41) hx hb dX2_tripleDigit_1 (by decide) (by decide) (by decide) ?_
    refine lv_iload_n hx hb dX2_tripleDigit_41 rfl (lv_at hl 0 rfl) ?_
    refine lv_bipush (v := (nI 10)) hx hb dX2_tripleDigit_42 (by decide) ?_
    refine ln_irem hx hb dX2_tripleDigit_44 (by omega) (by decide) (by decide) ?_
    exact ro_iret hx hb hr hlk dX2_tripleDigit_45 (congrArg nI (by rfl))
set_option maxHeartbeats 4000000 in
set_option maxRecDepth 100000 in
theorem c_questionDigit (l : Launch) (D : va_G) (tc : Nat → ClassId) (zb : Nat) (x cc9 : Nat) (ht : x < 1331) (hc : cc9 < 3) : RO l yX2_questionDigit wsX2_questionDigit 0 0 D tc zb [] [.int (nI x), .int (nI cc9)] (.int (nI (k_dg x cc9))) := by
  refine RO.of (cc := cX2_questionDigit) (maxL := 2) (ret := (some .int)) (by decide) rfl (Nat.le_of_ble_eq_true rfl) ?_
  intro p e s m args below meth c hx hb hr hml hlk hts hown hM hS hP ls hl
  have hl : lv_has ls 2 [(0, .int (nI x)), (1, .int (nI cc9))] := hl
  refine lv_iload_n hx hb dX2_questionDigit_0 rfl (lv_at hl 1 rfl) ?_
  rcases (show cc9 = 0 ∨ cc9 = 1 ∨ cc9 = 2 by omega) with rfl | rfl | rfl
  · refine lv_lookup (off := 27) (tgt := 28) hx hb dX2_questionDigit_1 (by decide) (by decide) (by decide) ?_
    refine lv_iload_n hx hb dX2_questionDigit_28 rfl (lv_at hl 0 rfl) ?_
    refine lv_bipush (v := (nI 121)) hx hb dX2_questionDigit_29 (by decide) ?_
    refine ln_idiv hx hb dX2_questionDigit_31 (by omega) (by decide) (by decide) ?_
    exact ro_iret hx hb hr hlk dX2_questionDigit_32 (congrArg nI (by rfl))
  · refine lv_lookup (off := 32) (tgt := 33) hx hb dX2_questionDigit_1 (by decide) (by decide) (by decide) ?_
    refine lv_iload_n hx hb dX2_questionDigit_33 rfl (lv_at hl 0 rfl) ?_
    refine lv_bipush (v := (nI 11)) hx hb dX2_questionDigit_34 (by decide) ?_
    refine ln_idiv hx hb dX2_questionDigit_36 (by omega) (by decide) (by decide) ?_
    refine lv_bipush (v := (nI 11)) hx hb dX2_questionDigit_37 (by decide) ?_
    refine ln_irem hx hb dX2_questionDigit_39 (by omega) (by decide) (by decide) ?_
    exact ro_iret hx hb hr hlk dX2_questionDigit_40 (congrArg nI (by rfl))
  · refine lv_lookup (off := 40) (tgt := 41) hx hb dX2_questionDigit_1 (by decide) (by decide) (by decide) ?_
    refine lv_iload_n hx hb dX2_questionDigit_41 rfl (lv_at hl 0 rfl) ?_
    refine lv_bipush (v := (nI 11)) hx hb dX2_questionDigit_42 (by decide) ?_
    refine ln_irem hx hb dX2_questionDigit_44 (by omega) (by decide) (by decide) ?_
    exact ro_iret hx hb hr hlk dX2_questionDigit_45 (congrArg nI (by rfl))
set_option maxHeartbeats 4000000 in
set_option maxRecDepth 100000 in
theorem c_unitOf (l : Launch) (D : va_G) (tc : Nat → ClassId) (zb : Nat) (cc9 : Nat) (hc : cc9 < 3) : RO l yX2_unitOf wsX2_unitOf 0 0 D tc zb [] [.int (nI cc9)] (.int (nI (k_un cc9))) := by
  refine RO.of (cc := cX2_unitOf) (maxL := 1) (ret := (some .int)) (by decide) rfl (Nat.le_of_ble_eq_true rfl) ?_
  intro p e s m args below meth c hx hb hr hml hlk hts hown hM hS hP ls hl
  have hl : lv_has ls 1 [(0, .int (nI cc9))] := hl
  refine lv_iload_n hx hb dX2_unitOf_0 rfl (lv_at hl 0 rfl) ?_
  rcases (show cc9 = 0 ∨ cc9 = 1 ∨ cc9 = 2 by omega) with rfl | rfl | rfl
  · refine lv_lookup (off := 27) (tgt := 28) hx hb dX2_unitOf_1 (by decide) (by decide) (by decide) ?_
    refine lv_bipush (v := (nI 121)) hx hb dX2_unitOf_28 (by decide) ?_
    exact ro_iret hx hb hr hlk dX2_unitOf_30 (congrArg nI (by rfl))
  · refine lv_lookup (off := 30) (tgt := 31) hx hb dX2_unitOf_1 (by decide) (by decide) (by decide) ?_
    refine lv_bipush (v := (nI 11)) hx hb dX2_unitOf_31 (by decide) ?_
    exact ro_iret hx hb hr hlk dX2_unitOf_33 (congrArg nI (by rfl))
  · refine lv_lookup (off := 33) (tgt := 34) hx hb dX2_unitOf_1 (by decide) (by decide) (by decide) ?_
    refine lv_iconst (v := (nI 1)) hx hb dX2_unitOf_34 (by decide) ?_
    exact ro_iret hx hb hr hlk dX2_unitOf_35 (congrArg nI (by rfl))

set_option maxHeartbeats 4000000 in
set_option maxRecDepth 100000 in
theorem c_rankOf (l : Launch) (D : va_G) (tc : Nat → ClassId) (zb : Nat) (t q : Nat) (ht : t < 1000) (hq : q < 6) : RO l yX2_rankOf wsX2_rankOf 1 22 D tc zb [] [.int (nI t), .int (nI q)] (.int (nI (k_rk t q))) := by
  refine RO.of (cc := cX2_rankOf) (maxL := 4) (ret := (some .int)) (by decide) rfl (Nat.le_of_ble_eq_true rfl) ?_
  intro p e s m args below meth c hx hb hr hml hlk hts hown hM hS hP ls hl
  have hl : lv_has ls 4 [(0, .int (nI t)), (1, .int (nI q))] := hl
  refine lv_iconst (v := (nI 0)) hx hb dX2_rankOf_0 (by decide) ?_
  refine lv_istore_n (lv' := [(2, .int (nI 0)), (0, .int (nI t)), (1, .int (nI q))]) hx hb dX2_rankOf_1 rfl hl (by decide) rfl (fun ls hl => ?_)
  refine lv_iconst (v := (nI 0)) hx hb dX2_rankOf_2 (by decide) ?_
  refine lv_istore_n (lv' := [(3, .int (nI 0)), (2, .int (nI 0)), (0, .int (nI t)), (1, .int (nI q))]) hx hb dX2_rankOf_3 rfl hl (by decide) rfl (fun ls hl => ?_)
  refine lv_iload_n hx hb dX2_rankOf_4 rfl (lv_at hl 0 rfl) ?_
  refine lv_iconst (v := (nI 3)) hx hb dX2_rankOf_5 (by decide) ?_
  refine lv_icmp_ge (tgt := 30) hx hb dX2_rankOf_6 (by decide) (fun h9 => False.elim (by revert h9; decide)) (fun _ => ?_)
  refine lv_bipush (v := (nI 10)) hx hb dX2_rankOf_9 (by decide) ?_
  refine lv_iload_n hx hb dX2_rankOf_11 rfl (lv_at hl 1 rfl) ?_
  refine lv_imul hx hb dX2_rankOf_12 ?_
  refine ln_eq (x' := (nI 0)) (by decide) ?_
  refine lv_iload_n hx hb dX2_rankOf_13 rfl (lv_at hl 2 rfl) ?_
  refine lv_iload_n hx hb dX2_rankOf_14 rfl (lv_at hl 3 rfl) ?_
  refine lv_iload_n hx hb dX2_rankOf_15 rfl (lv_at hl 0 rfl) ?_
  refine ro_S (n := 2) ⟨hx, hb, hml, hown, hts⟩ hM hS hP (c_componentAt l D tc zb q 0 (by omega) (by omega)) gX2_rankOf_X2_componentAt rfl (by decide +kernel) ⟨Nat.le_of_ble_eq_true rfl, Nat.le_of_ble_eq_true rfl⟩ [] rfl rfl hl.1 rfl (Nat.le_of_ble_eq_true rfl) dX2_rankOf_16 ⟨Nat.le_refl _, Nat.le_refl _⟩ ?_
  refine ro_S (n := 2) ⟨hx, hb, hml, hown, hts⟩ hM hS hP (c_tripleDigit l D tc zb t (byf (3 * q + 0)) (by omega) (by first | omega | exact byf_lt _)) gX2_rankOf_X2_tripleDigit rfl (by decide +kernel) ⟨Nat.le_of_ble_eq_true rfl, Nat.le_of_ble_eq_true rfl⟩ [] rfl rfl hl.1 rfl (Nat.le_of_ble_eq_true rfl) dX2_rankOf_19 ⟨Nat.le_refl _, Nat.le_refl _⟩ ?_
  have hf1 := show k_pt t (byf (3 * q + 0)) ≤ 9 from k_pt_le (by omega)
  refine ln_iadd hx hb dX2_rankOf_22 ?_
  refine lv_istore_n (lv' := [(2, .int (nI (0 + (k_pt t (byf (3 * q + 0)))))), (3, .int (nI 0)), (0, .int (nI t)), (1, .int (nI q))]) hx hb dX2_rankOf_23 rfl hl (by decide) rfl (fun ls hl => ?_)
  refine lv_iinc (v := (nI 1)) (lv' := [(3, .int (nI 1)), (2, .int (nI (0 + (k_pt t (byf (3 * q + 0)))))), (0, .int (nI t)), (1, .int (nI q))]) hx hb dX2_rankOf_24 hl (k := 1) rfl (by decide) (by decide) rfl (fun ls hl => ?_)
  refine lv_goto (tgt := 4) hx hb dX2_rankOf_27 (by decide) ?_
  refine lv_iload_n hx hb dX2_rankOf_4 rfl (lv_at hl 0 rfl) ?_
  refine lv_iconst (v := (nI 3)) hx hb dX2_rankOf_5 (by decide) ?_
  refine lv_icmp_ge (tgt := 30) hx hb dX2_rankOf_6 (by decide) (fun h9 => False.elim (by revert h9; decide)) (fun _ => ?_)
  refine lv_bipush (v := (nI 10)) hx hb dX2_rankOf_9 (by decide) ?_
  refine lv_iload_n hx hb dX2_rankOf_11 rfl (lv_at hl 1 rfl) ?_
  refine ln_imul hx hb dX2_rankOf_12 ?_
  refine lv_iload_n hx hb dX2_rankOf_13 rfl (lv_at hl 2 rfl) ?_
  refine lv_iload_n hx hb dX2_rankOf_14 rfl (lv_at hl 3 rfl) ?_
  refine lv_iload_n hx hb dX2_rankOf_15 rfl (lv_at hl 0 rfl) ?_
  refine ro_S (n := 2) ⟨hx, hb, hml, hown, hts⟩ hM hS hP (c_componentAt l D tc zb q 1 (by omega) (by omega)) gX2_rankOf_X2_componentAt rfl (by decide +kernel) ⟨Nat.le_of_ble_eq_true rfl, Nat.le_of_ble_eq_true rfl⟩ [] rfl rfl hl.1 rfl (Nat.le_of_ble_eq_true rfl) dX2_rankOf_16 ⟨Nat.le_refl _, Nat.le_refl _⟩ ?_
  refine ro_S (n := 2) ⟨hx, hb, hml, hown, hts⟩ hM hS hP (c_tripleDigit l D tc zb t (byf (3 * q + 1)) (by omega) (by first | omega | exact byf_lt _)) gX2_rankOf_X2_tripleDigit rfl (by decide +kernel) ⟨Nat.le_of_ble_eq_true rfl, Nat.le_of_ble_eq_true rfl⟩ [] rfl rfl hl.1 rfl (Nat.le_of_ble_eq_true rfl) dX2_rankOf_19 ⟨Nat.le_refl _, Nat.le_refl _⟩ ?_
  have hf2 := show k_pt t (byf (3 * q + 1)) ≤ 9 from k_pt_le (by omega)
  refine ln_iadd hx hb dX2_rankOf_22 ?_
  refine lv_istore_n (lv' := [(2, .int (nI ((10 * (0 + (k_pt t (byf (3 * q + 0))))) + (k_pt t (byf (3 * q + 1)))))), (3, .int (nI 1)), (0, .int (nI t)), (1, .int (nI q))]) hx hb dX2_rankOf_23 rfl hl (by decide) rfl (fun ls hl => ?_)
  refine lv_iinc (v := (nI 2)) (lv' := [(3, .int (nI 2)), (2, .int (nI ((10 * (0 + (k_pt t (byf (3 * q + 0))))) + (k_pt t (byf (3 * q + 1)))))), (0, .int (nI t)), (1, .int (nI q))]) hx hb dX2_rankOf_24 hl (k := 1) rfl (by decide) (by decide) rfl (fun ls hl => ?_)
  refine lv_goto (tgt := 4) hx hb dX2_rankOf_27 (by decide) ?_
  refine lv_iload_n hx hb dX2_rankOf_4 rfl (lv_at hl 0 rfl) ?_
  refine lv_iconst (v := (nI 3)) hx hb dX2_rankOf_5 (by decide) ?_
  refine lv_icmp_ge (tgt := 30) hx hb dX2_rankOf_6 (by decide) (fun h9 => False.elim (by revert h9; decide)) (fun _ => ?_)
  refine lv_bipush (v := (nI 10)) hx hb dX2_rankOf_9 (by decide) ?_
  refine lv_iload_n hx hb dX2_rankOf_11 rfl (lv_at hl 1 rfl) ?_
  refine ln_imul hx hb dX2_rankOf_12 ?_
  refine lv_iload_n hx hb dX2_rankOf_13 rfl (lv_at hl 2 rfl) ?_
  refine lv_iload_n hx hb dX2_rankOf_14 rfl (lv_at hl 3 rfl) ?_
  refine lv_iload_n hx hb dX2_rankOf_15 rfl (lv_at hl 0 rfl) ?_
  refine ro_S (n := 2) ⟨hx, hb, hml, hown, hts⟩ hM hS hP (c_componentAt l D tc zb q 2 (by omega) (by omega)) gX2_rankOf_X2_componentAt rfl (by decide +kernel) ⟨Nat.le_of_ble_eq_true rfl, Nat.le_of_ble_eq_true rfl⟩ [] rfl rfl hl.1 rfl (Nat.le_of_ble_eq_true rfl) dX2_rankOf_16 ⟨Nat.le_refl _, Nat.le_refl _⟩ ?_
  refine ro_S (n := 2) ⟨hx, hb, hml, hown, hts⟩ hM hS hP (c_tripleDigit l D tc zb t (byf (3 * q + 2)) (by omega) (by first | omega | exact byf_lt _)) gX2_rankOf_X2_tripleDigit rfl (by decide +kernel) ⟨Nat.le_of_ble_eq_true rfl, Nat.le_of_ble_eq_true rfl⟩ [] rfl rfl hl.1 rfl (Nat.le_of_ble_eq_true rfl) dX2_rankOf_19 ⟨Nat.le_refl _, Nat.le_refl _⟩ ?_
  have hf3 := show k_pt t (byf (3 * q + 2)) ≤ 9 from k_pt_le (by omega)
  refine ln_iadd hx hb dX2_rankOf_22 ?_
  refine lv_istore_n (lv' := [(2, .int (nI ((10 * ((10 * (0 + (k_pt t (byf (3 * q + 0))))) + (k_pt t (byf (3 * q + 1))))) + (k_pt t (byf (3 * q + 2)))))), (3, .int (nI 2)), (0, .int (nI t)), (1, .int (nI q))]) hx hb dX2_rankOf_23 rfl hl (by decide) rfl (fun ls hl => ?_)
  refine lv_iinc (v := (nI 3)) (lv' := [(3, .int (nI 3)), (2, .int (nI ((10 * ((10 * (0 + (k_pt t (byf (3 * q + 0))))) + (k_pt t (byf (3 * q + 1))))) + (k_pt t (byf (3 * q + 2)))))), (0, .int (nI t)), (1, .int (nI q))]) hx hb dX2_rankOf_24 hl (k := 1) rfl (by decide) (by decide) rfl (fun ls hl => ?_)
  refine lv_goto (tgt := 4) hx hb dX2_rankOf_27 (by decide) ?_
  refine lv_iload_n hx hb dX2_rankOf_4 rfl (lv_at hl 0 rfl) ?_
  refine lv_iconst (v := (nI 3)) hx hb dX2_rankOf_5 (by decide) ?_
  refine lv_icmp_ge (tgt := 30) hx hb dX2_rankOf_6 (by decide) (fun _ => ?_) (fun h9 => False.elim (by revert h9; decide))
  refine lv_iload_n hx hb dX2_rankOf_30 rfl (lv_at hl 1 rfl) ?_
  exact ro_iret hx hb hr hlk dX2_rankOf_31 (congrArg nI (by unfold k_rk; omega))
set_option maxHeartbeats 4000000 in
set_option maxRecDepth 100000 in
theorem c_reachOf (l : Launch) (D : va_G) (tc : Nat → ClassId) (zb : Nat) (x q : Nat) (hx9 : x < 1331) (hq : q < 6) : RO l yX2_reachOf wsX2_reachOf 1 22 D tc zb [] [.int (nI x), .int (nI q)] (.int (nI (k_rch x q))) := by
  refine RO.of (cc := cX2_reachOf) (maxL := 3) (ret := (some .int)) (by decide) rfl (Nat.le_of_ble_eq_true rfl) ?_
  intro p e s m args below meth c hx hb hr hml hlk hts hown hM hS hP ls hl
  have hl : lv_has ls 3 [(0, .int (nI x)), (1, .int (nI q))] := hl
  refine lv_iconst (v := (nI 0)) hx hb dX2_reachOf_0 (by decide) ?_
  refine lv_istore_n (lv' := [(2, .int (nI 0)), (0, .int (nI x)), (1, .int (nI q))]) hx hb dX2_reachOf_1 rfl hl (by decide) rfl (fun ls hl => ?_)
  refine lv_iload_n hx hb dX2_reachOf_2 rfl (lv_at hl 0 rfl) ?_
  refine lv_iconst (v := (nI 3)) hx hb dX2_reachOf_3 (by decide) ?_
  refine lv_icmp_ge (tgt := 27) hx hb dX2_reachOf_4 (by decide) (fun h9 => False.elim (by revert h9; decide)) (fun _ => ?_)
  refine lv_iload_n hx hb dX2_reachOf_7 rfl (lv_at hl 1 rfl) ?_
  refine lv_iload_n hx hb dX2_reachOf_8 rfl (lv_at hl 2 rfl) ?_
  refine lv_iload_n hx hb dX2_reachOf_9 rfl (lv_at hl 0 rfl) ?_
  refine ro_S (n := 2) ⟨hx, hb, hml, hown, hts⟩ hM hS hP (c_componentAt l D tc zb q 0 (by omega) (by omega)) gX2_reachOf_X2_componentAt rfl (by decide +kernel) ⟨Nat.le_of_ble_eq_true rfl, Nat.le_of_ble_eq_true rfl⟩ [] rfl rfl hl.1 rfl (Nat.le_of_ble_eq_true rfl) dX2_reachOf_10 ⟨Nat.le_refl _, Nat.le_refl _⟩ ?_
  refine ro_S (n := 2) ⟨hx, hb, hml, hown, hts⟩ hM hS hP (c_questionDigit l D tc zb x (byf (3 * q + 0)) (by omega) (by first | omega | exact byf_lt _)) gX2_reachOf_X2_questionDigit rfl (by decide +kernel) ⟨Nat.le_of_ble_eq_true rfl, Nat.le_of_ble_eq_true rfl⟩ [] rfl rfl hl.1 rfl (Nat.le_of_ble_eq_true rfl) dX2_reachOf_13 ⟨Nat.le_refl _, Nat.le_refl _⟩ ?_
  have hf1 := show k_dg x (byf (3 * q + 0)) ≤ 10 from k_dg_le (by omega)
  refine lv_bipush (v := (nI 10)) hx hb dX2_reachOf_16 (by decide) ?_
  refine ln_icmp_eq (tgt := 27) hx hb dX2_reachOf_18 (by decide) (by omega) (by decide) (fun h2 => ?_) (fun h2 => ?_)
  · refine lv_iload_n hx hb dX2_reachOf_27 rfl (lv_at hl 0 rfl) ?_
    exact ro_iret hx hb hr hlk dX2_reachOf_28 (congrArg nI (by unfold k_rch; (repeat' split) <;> omega))
  · refine lv_iinc (v := (nI 1)) (lv' := [(2, .int (nI 1)), (0, .int (nI x)), (1, .int (nI q))]) hx hb dX2_reachOf_21 hl (k := 0) rfl (by decide) (by decide) rfl (fun ls hl => ?_)
    refine lv_goto (tgt := 2) hx hb dX2_reachOf_24 (by decide) ?_
    refine lv_iload_n hx hb dX2_reachOf_2 rfl (lv_at hl 0 rfl) ?_
    refine lv_iconst (v := (nI 3)) hx hb dX2_reachOf_3 (by decide) ?_
    refine lv_icmp_ge (tgt := 27) hx hb dX2_reachOf_4 (by decide) (fun h9 => False.elim (by revert h9; decide)) (fun _ => ?_)
    refine lv_iload_n hx hb dX2_reachOf_7 rfl (lv_at hl 1 rfl) ?_
    refine lv_iload_n hx hb dX2_reachOf_8 rfl (lv_at hl 2 rfl) ?_
    refine lv_iload_n hx hb dX2_reachOf_9 rfl (lv_at hl 0 rfl) ?_
    refine ro_S (n := 2) ⟨hx, hb, hml, hown, hts⟩ hM hS hP (c_componentAt l D tc zb q 1 (by omega) (by omega)) gX2_reachOf_X2_componentAt rfl (by decide +kernel) ⟨Nat.le_of_ble_eq_true rfl, Nat.le_of_ble_eq_true rfl⟩ [] rfl rfl hl.1 rfl (Nat.le_of_ble_eq_true rfl) dX2_reachOf_10 ⟨Nat.le_refl _, Nat.le_refl _⟩ ?_
    refine ro_S (n := 2) ⟨hx, hb, hml, hown, hts⟩ hM hS hP (c_questionDigit l D tc zb x (byf (3 * q + 1)) (by omega) (by first | omega | exact byf_lt _)) gX2_reachOf_X2_questionDigit rfl (by decide +kernel) ⟨Nat.le_of_ble_eq_true rfl, Nat.le_of_ble_eq_true rfl⟩ [] rfl rfl hl.1 rfl (Nat.le_of_ble_eq_true rfl) dX2_reachOf_13 ⟨Nat.le_refl _, Nat.le_refl _⟩ ?_
    have hf3 := show k_dg x (byf (3 * q + 1)) ≤ 10 from k_dg_le (by omega)
    refine lv_bipush (v := (nI 10)) hx hb dX2_reachOf_16 (by decide) ?_
    refine ln_icmp_eq (tgt := 27) hx hb dX2_reachOf_18 (by decide) (by omega) (by decide) (fun h4 => ?_) (fun h4 => ?_)
    · refine lv_iload_n hx hb dX2_reachOf_27 rfl (lv_at hl 0 rfl) ?_
      exact ro_iret hx hb hr hlk dX2_reachOf_28 (congrArg nI (by unfold k_rch; (repeat' split) <;> omega))
    · refine lv_iinc (v := (nI 2)) (lv' := [(2, .int (nI 2)), (0, .int (nI x)), (1, .int (nI q))]) hx hb dX2_reachOf_21 hl (k := 0) rfl (by decide) (by decide) rfl (fun ls hl => ?_)
      refine lv_goto (tgt := 2) hx hb dX2_reachOf_24 (by decide) ?_
      refine lv_iload_n hx hb dX2_reachOf_2 rfl (lv_at hl 0 rfl) ?_
      refine lv_iconst (v := (nI 3)) hx hb dX2_reachOf_3 (by decide) ?_
      refine lv_icmp_ge (tgt := 27) hx hb dX2_reachOf_4 (by decide) (fun h9 => False.elim (by revert h9; decide)) (fun _ => ?_)
      refine lv_iload_n hx hb dX2_reachOf_7 rfl (lv_at hl 1 rfl) ?_
      refine lv_iload_n hx hb dX2_reachOf_8 rfl (lv_at hl 2 rfl) ?_
      refine lv_iload_n hx hb dX2_reachOf_9 rfl (lv_at hl 0 rfl) ?_
      refine ro_S (n := 2) ⟨hx, hb, hml, hown, hts⟩ hM hS hP (c_componentAt l D tc zb q 2 (by omega) (by omega)) gX2_reachOf_X2_componentAt rfl (by decide +kernel) ⟨Nat.le_of_ble_eq_true rfl, Nat.le_of_ble_eq_true rfl⟩ [] rfl rfl hl.1 rfl (Nat.le_of_ble_eq_true rfl) dX2_reachOf_10 ⟨Nat.le_refl _, Nat.le_refl _⟩ ?_
      refine ro_S (n := 2) ⟨hx, hb, hml, hown, hts⟩ hM hS hP (c_questionDigit l D tc zb x (byf (3 * q + 2)) (by omega) (by first | omega | exact byf_lt _)) gX2_reachOf_X2_questionDigit rfl (by decide +kernel) ⟨Nat.le_of_ble_eq_true rfl, Nat.le_of_ble_eq_true rfl⟩ [] rfl rfl hl.1 rfl (Nat.le_of_ble_eq_true rfl) dX2_reachOf_13 ⟨Nat.le_refl _, Nat.le_refl _⟩ ?_
      have hf5 := show k_dg x (byf (3 * q + 2)) ≤ 10 from k_dg_le (by omega)
      refine lv_bipush (v := (nI 10)) hx hb dX2_reachOf_16 (by decide) ?_
      refine ln_icmp_eq (tgt := 27) hx hb dX2_reachOf_18 (by decide) (by omega) (by decide) (fun h6 => ?_) (fun h6 => ?_)
      · refine lv_iload_n hx hb dX2_reachOf_27 rfl (lv_at hl 0 rfl) ?_
        exact ro_iret hx hb hr hlk dX2_reachOf_28 (congrArg nI (by unfold k_rch; (repeat' split) <;> omega))
      · refine lv_iinc (v := (nI 3)) (lv' := [(2, .int (nI 3)), (0, .int (nI x)), (1, .int (nI q))]) hx hb dX2_reachOf_21 hl (k := 0) rfl (by decide) (by decide) rfl (fun ls hl => ?_)
        refine lv_goto (tgt := 2) hx hb dX2_reachOf_24 (by decide) ?_
        refine lv_iload_n hx hb dX2_reachOf_2 rfl (lv_at hl 0 rfl) ?_
        refine lv_iconst (v := (nI 3)) hx hb dX2_reachOf_3 (by decide) ?_
        refine lv_icmp_ge (tgt := 27) hx hb dX2_reachOf_4 (by decide) (fun _ => ?_) (fun h9 => False.elim (by revert h9; decide))
        refine lv_iload_n hx hb dX2_reachOf_27 rfl (lv_at hl 0 rfl) ?_
        exact ro_iret hx hb hr hlk dX2_reachOf_28 (congrArg nI (by unfold k_rch; (repeat' split) <;> omega))
set_option maxHeartbeats 4000000 in
set_option maxRecDepth 100000 in
theorem c_countBound (l : Launch) (D : va_G) (tc : Nat → ClassId) (zb : Nat) (x : Nat) (hx9 : x < 1331) : RO l yX2_countBound wsX2_countBound 1 21 D tc zb [] [.int (nI x)] (.int (nI (k_bnd x))) := by
  refine RO.of (cc := cX2_countBound) (maxL := 3) (ret := (some .int)) (by decide) rfl (Nat.le_of_ble_eq_true rfl) ?_
  intro p e s m args below meth c hx hb hr hml hlk hts hown hM hS hP ls hl
  have hl : lv_has ls 3 [(0, .int (nI x))] := hl
  refine lv_iconst (v := (nI 0)) hx hb dX2_countBound_0 (by decide) ?_
  refine lv_istore_n (lv' := [(1, .int (nI 0)), (0, .int (nI x))]) hx hb dX2_countBound_1 rfl hl (by decide) rfl (fun ls hl => ?_)
  refine lv_iconst (v := (nI 0)) hx hb dX2_countBound_2 (by decide) ?_
  refine lv_istore_n (lv' := [(2, .int (nI 0)), (1, .int (nI 0)), (0, .int (nI x))]) hx hb dX2_countBound_3 rfl hl (by decide) rfl (fun ls hl => ?_)
  refine lv_iload_n hx hb dX2_countBound_4 rfl (lv_at hl 0 rfl) ?_
  refine lv_iconst (v := (nI 3)) hx hb dX2_countBound_5 (by decide) ?_
  refine lv_icmp_ge (tgt := 28) hx hb dX2_countBound_6 (by decide) (fun h9 => False.elim (by revert h9; decide)) (fun _ => ?_)
  refine lv_iload_n hx hb dX2_countBound_9 rfl (lv_at hl 2 rfl) ?_
  refine lv_iload_n hx hb dX2_countBound_10 rfl (lv_at hl 0 rfl) ?_
  refine ro_S (n := 2) ⟨hx, hb, hml, hown, hts⟩ hM hS hP (c_questionDigit l D tc zb x 0 (by omega) (by first | omega | exact byf_lt _)) gX2_countBound_X2_questionDigit rfl (by decide +kernel) ⟨Nat.le_of_ble_eq_true rfl, Nat.le_of_ble_eq_true rfl⟩ [] rfl rfl hl.1 rfl (Nat.le_of_ble_eq_true rfl) dX2_countBound_11 ⟨Nat.le_refl _, Nat.le_refl _⟩ ?_
  have hf1 := show k_dg x 0 ≤ 10 from k_dg_le (by omega)
  refine lv_bipush (v := (nI 10)) hx hb dX2_countBound_14 (by decide) ?_
  refine ln_icmp_eq (tgt := 22) hx hb dX2_countBound_16 (by decide) (by omega) (by decide) (fun h2 => ?_) (fun h2 => ?_)
  · refine lv_iinc (v := (nI 1)) (lv' := [(2, .int (nI 1)), (1, .int (nI 0)), (0, .int (nI x))]) hx hb dX2_countBound_22 hl (k := 0) rfl (by decide) (by decide) rfl (fun ls hl => ?_)
    refine lv_goto (tgt := 4) hx hb dX2_countBound_25 (by decide) ?_
    refine lv_iload_n hx hb dX2_countBound_4 rfl (lv_at hl 0 rfl) ?_
    refine lv_iconst (v := (nI 3)) hx hb dX2_countBound_5 (by decide) ?_
    refine lv_icmp_ge (tgt := 28) hx hb dX2_countBound_6 (by decide) (fun h9 => False.elim (by revert h9; decide)) (fun _ => ?_)
    refine lv_iload_n hx hb dX2_countBound_9 rfl (lv_at hl 2 rfl) ?_
    refine lv_iload_n hx hb dX2_countBound_10 rfl (lv_at hl 0 rfl) ?_
    refine ro_S (n := 2) ⟨hx, hb, hml, hown, hts⟩ hM hS hP (c_questionDigit l D tc zb x 1 (by omega) (by first | omega | exact byf_lt _)) gX2_countBound_X2_questionDigit rfl (by decide +kernel) ⟨Nat.le_of_ble_eq_true rfl, Nat.le_of_ble_eq_true rfl⟩ [] rfl rfl hl.1 rfl (Nat.le_of_ble_eq_true rfl) dX2_countBound_11 ⟨Nat.le_refl _, Nat.le_refl _⟩ ?_
    have hf3 := show k_dg x 1 ≤ 10 from k_dg_le (by omega)
    refine lv_bipush (v := (nI 10)) hx hb dX2_countBound_14 (by decide) ?_
    refine ln_icmp_eq (tgt := 22) hx hb dX2_countBound_16 (by decide) (by omega) (by decide) (fun h4 => ?_) (fun h4 => ?_)
    · refine lv_iinc (v := (nI 2)) (lv' := [(2, .int (nI 2)), (1, .int (nI 0)), (0, .int (nI x))]) hx hb dX2_countBound_22 hl (k := 0) rfl (by decide) (by decide) rfl (fun ls hl => ?_)
      refine lv_goto (tgt := 4) hx hb dX2_countBound_25 (by decide) ?_
      refine lv_iload_n hx hb dX2_countBound_4 rfl (lv_at hl 0 rfl) ?_
      refine lv_iconst (v := (nI 3)) hx hb dX2_countBound_5 (by decide) ?_
      refine lv_icmp_ge (tgt := 28) hx hb dX2_countBound_6 (by decide) (fun h9 => False.elim (by revert h9; decide)) (fun _ => ?_)
      refine lv_iload_n hx hb dX2_countBound_9 rfl (lv_at hl 2 rfl) ?_
      refine lv_iload_n hx hb dX2_countBound_10 rfl (lv_at hl 0 rfl) ?_
      refine ro_S (n := 2) ⟨hx, hb, hml, hown, hts⟩ hM hS hP (c_questionDigit l D tc zb x 2 (by omega) (by first | omega | exact byf_lt _)) gX2_countBound_X2_questionDigit rfl (by decide +kernel) ⟨Nat.le_of_ble_eq_true rfl, Nat.le_of_ble_eq_true rfl⟩ [] rfl rfl hl.1 rfl (Nat.le_of_ble_eq_true rfl) dX2_countBound_11 ⟨Nat.le_refl _, Nat.le_refl _⟩ ?_
      have hf5 := show k_dg x 2 ≤ 10 from k_dg_le (by omega)
      refine lv_bipush (v := (nI 10)) hx hb dX2_countBound_14 (by decide) ?_
      refine ln_icmp_eq (tgt := 22) hx hb dX2_countBound_16 (by decide) (by omega) (by decide) (fun h6 => ?_) (fun h6 => ?_)
      · refine lv_iinc (v := (nI 3)) (lv' := [(2, .int (nI 3)), (1, .int (nI 0)), (0, .int (nI x))]) hx hb dX2_countBound_22 hl (k := 0) rfl (by decide) (by decide) rfl (fun ls hl => ?_)
        refine lv_goto (tgt := 4) hx hb dX2_countBound_25 (by decide) ?_
        refine lv_iload_n hx hb dX2_countBound_4 rfl (lv_at hl 0 rfl) ?_
        refine lv_iconst (v := (nI 3)) hx hb dX2_countBound_5 (by decide) ?_
        refine lv_icmp_ge (tgt := 28) hx hb dX2_countBound_6 (by decide) (fun _ => ?_) (fun h9 => False.elim (by revert h9; decide))
        refine lv_iload_n hx hb dX2_countBound_28 rfl (lv_at hl 1 rfl) ?_
        exact ro_iret hx hb hr hlk dX2_countBound_29 (congrArg nI (by simp [k_bnd, k_f, *]))
      · refine lv_iinc (v := (nI 1)) (lv' := [(1, .int (nI 1)), (2, .int (nI 2)), (0, .int (nI x))]) hx hb dX2_countBound_19 hl (k := 1) rfl (by decide) (by decide) rfl (fun ls hl => ?_)
        refine lv_iinc (v := (nI 3)) (lv' := [(2, .int (nI 3)), (1, .int (nI 1)), (0, .int (nI x))]) hx hb dX2_countBound_22 hl (k := 1) rfl (by decide) (by decide) rfl (fun ls hl => ?_)
        refine lv_goto (tgt := 4) hx hb dX2_countBound_25 (by decide) ?_
        refine lv_iload_n hx hb dX2_countBound_4 rfl (lv_at hl 0 rfl) ?_
        refine lv_iconst (v := (nI 3)) hx hb dX2_countBound_5 (by decide) ?_
        refine lv_icmp_ge (tgt := 28) hx hb dX2_countBound_6 (by decide) (fun _ => ?_) (fun h9 => False.elim (by revert h9; decide))
        refine lv_iload_n hx hb dX2_countBound_28 rfl (lv_at hl 1 rfl) ?_
        exact ro_iret hx hb hr hlk dX2_countBound_29 (congrArg nI (by simp [k_bnd, k_f, *]))
    · refine lv_iinc (v := (nI 1)) (lv' := [(1, .int (nI 1)), (2, .int (nI 1)), (0, .int (nI x))]) hx hb dX2_countBound_19 hl (k := 1) rfl (by decide) (by decide) rfl (fun ls hl => ?_)
      refine lv_iinc (v := (nI 2)) (lv' := [(2, .int (nI 2)), (1, .int (nI 1)), (0, .int (nI x))]) hx hb dX2_countBound_22 hl (k := 1) rfl (by decide) (by decide) rfl (fun ls hl => ?_)
      refine lv_goto (tgt := 4) hx hb dX2_countBound_25 (by decide) ?_
      refine lv_iload_n hx hb dX2_countBound_4 rfl (lv_at hl 0 rfl) ?_
      refine lv_iconst (v := (nI 3)) hx hb dX2_countBound_5 (by decide) ?_
      refine lv_icmp_ge (tgt := 28) hx hb dX2_countBound_6 (by decide) (fun h9 => False.elim (by revert h9; decide)) (fun _ => ?_)
      refine lv_iload_n hx hb dX2_countBound_9 rfl (lv_at hl 2 rfl) ?_
      refine lv_iload_n hx hb dX2_countBound_10 rfl (lv_at hl 0 rfl) ?_
      refine ro_S (n := 2) ⟨hx, hb, hml, hown, hts⟩ hM hS hP (c_questionDigit l D tc zb x 2 (by omega) (by first | omega | exact byf_lt _)) gX2_countBound_X2_questionDigit rfl (by decide +kernel) ⟨Nat.le_of_ble_eq_true rfl, Nat.le_of_ble_eq_true rfl⟩ [] rfl rfl hl.1 rfl (Nat.le_of_ble_eq_true rfl) dX2_countBound_11 ⟨Nat.le_refl _, Nat.le_refl _⟩ ?_
      have hf7 := show k_dg x 2 ≤ 10 from k_dg_le (by omega)
      refine lv_bipush (v := (nI 10)) hx hb dX2_countBound_14 (by decide) ?_
      refine ln_icmp_eq (tgt := 22) hx hb dX2_countBound_16 (by decide) (by omega) (by decide) (fun h8 => ?_) (fun h8 => ?_)
      · refine lv_iinc (v := (nI 3)) (lv' := [(2, .int (nI 3)), (1, .int (nI 1)), (0, .int (nI x))]) hx hb dX2_countBound_22 hl (k := 0) rfl (by decide) (by decide) rfl (fun ls hl => ?_)
        refine lv_goto (tgt := 4) hx hb dX2_countBound_25 (by decide) ?_
        refine lv_iload_n hx hb dX2_countBound_4 rfl (lv_at hl 0 rfl) ?_
        refine lv_iconst (v := (nI 3)) hx hb dX2_countBound_5 (by decide) ?_
        refine lv_icmp_ge (tgt := 28) hx hb dX2_countBound_6 (by decide) (fun _ => ?_) (fun h9 => False.elim (by revert h9; decide))
        refine lv_iload_n hx hb dX2_countBound_28 rfl (lv_at hl 1 rfl) ?_
        exact ro_iret hx hb hr hlk dX2_countBound_29 (congrArg nI (by simp [k_bnd, k_f, *]))
      · refine lv_iinc (v := (nI 2)) (lv' := [(1, .int (nI 2)), (2, .int (nI 2)), (0, .int (nI x))]) hx hb dX2_countBound_19 hl (k := 1) rfl (by decide) (by decide) rfl (fun ls hl => ?_)
        refine lv_iinc (v := (nI 3)) (lv' := [(2, .int (nI 3)), (1, .int (nI 2)), (0, .int (nI x))]) hx hb dX2_countBound_22 hl (k := 1) rfl (by decide) (by decide) rfl (fun ls hl => ?_)
        refine lv_goto (tgt := 4) hx hb dX2_countBound_25 (by decide) ?_
        refine lv_iload_n hx hb dX2_countBound_4 rfl (lv_at hl 0 rfl) ?_
        refine lv_iconst (v := (nI 3)) hx hb dX2_countBound_5 (by decide) ?_
        refine lv_icmp_ge (tgt := 28) hx hb dX2_countBound_6 (by decide) (fun _ => ?_) (fun h9 => False.elim (by revert h9; decide))
        refine lv_iload_n hx hb dX2_countBound_28 rfl (lv_at hl 1 rfl) ?_
        exact ro_iret hx hb hr hlk dX2_countBound_29 (congrArg nI (by simp [k_bnd, k_f, *]))
  · refine lv_iinc (v := (nI 1)) (lv' := [(1, .int (nI 1)), (2, .int (nI 0)), (0, .int (nI x))]) hx hb dX2_countBound_19 hl (k := 1) rfl (by decide) (by decide) rfl (fun ls hl => ?_)
    refine lv_iinc (v := (nI 1)) (lv' := [(2, .int (nI 1)), (1, .int (nI 1)), (0, .int (nI x))]) hx hb dX2_countBound_22 hl (k := 1) rfl (by decide) (by decide) rfl (fun ls hl => ?_)
    refine lv_goto (tgt := 4) hx hb dX2_countBound_25 (by decide) ?_
    refine lv_iload_n hx hb dX2_countBound_4 rfl (lv_at hl 0 rfl) ?_
    refine lv_iconst (v := (nI 3)) hx hb dX2_countBound_5 (by decide) ?_
    refine lv_icmp_ge (tgt := 28) hx hb dX2_countBound_6 (by decide) (fun h9 => False.elim (by revert h9; decide)) (fun _ => ?_)
    refine lv_iload_n hx hb dX2_countBound_9 rfl (lv_at hl 2 rfl) ?_
    refine lv_iload_n hx hb dX2_countBound_10 rfl (lv_at hl 0 rfl) ?_
    refine ro_S (n := 2) ⟨hx, hb, hml, hown, hts⟩ hM hS hP (c_questionDigit l D tc zb x 1 (by omega) (by first | omega | exact byf_lt _)) gX2_countBound_X2_questionDigit rfl (by decide +kernel) ⟨Nat.le_of_ble_eq_true rfl, Nat.le_of_ble_eq_true rfl⟩ [] rfl rfl hl.1 rfl (Nat.le_of_ble_eq_true rfl) dX2_countBound_11 ⟨Nat.le_refl _, Nat.le_refl _⟩ ?_
    have hf9 := show k_dg x 1 ≤ 10 from k_dg_le (by omega)
    refine lv_bipush (v := (nI 10)) hx hb dX2_countBound_14 (by decide) ?_
    refine ln_icmp_eq (tgt := 22) hx hb dX2_countBound_16 (by decide) (by omega) (by decide) (fun h10 => ?_) (fun h10 => ?_)
    · refine lv_iinc (v := (nI 2)) (lv' := [(2, .int (nI 2)), (1, .int (nI 1)), (0, .int (nI x))]) hx hb dX2_countBound_22 hl (k := 0) rfl (by decide) (by decide) rfl (fun ls hl => ?_)
      refine lv_goto (tgt := 4) hx hb dX2_countBound_25 (by decide) ?_
      refine lv_iload_n hx hb dX2_countBound_4 rfl (lv_at hl 0 rfl) ?_
      refine lv_iconst (v := (nI 3)) hx hb dX2_countBound_5 (by decide) ?_
      refine lv_icmp_ge (tgt := 28) hx hb dX2_countBound_6 (by decide) (fun h9 => False.elim (by revert h9; decide)) (fun _ => ?_)
      refine lv_iload_n hx hb dX2_countBound_9 rfl (lv_at hl 2 rfl) ?_
      refine lv_iload_n hx hb dX2_countBound_10 rfl (lv_at hl 0 rfl) ?_
      refine ro_S (n := 2) ⟨hx, hb, hml, hown, hts⟩ hM hS hP (c_questionDigit l D tc zb x 2 (by omega) (by first | omega | exact byf_lt _)) gX2_countBound_X2_questionDigit rfl (by decide +kernel) ⟨Nat.le_of_ble_eq_true rfl, Nat.le_of_ble_eq_true rfl⟩ [] rfl rfl hl.1 rfl (Nat.le_of_ble_eq_true rfl) dX2_countBound_11 ⟨Nat.le_refl _, Nat.le_refl _⟩ ?_
      have hf11 := show k_dg x 2 ≤ 10 from k_dg_le (by omega)
      refine lv_bipush (v := (nI 10)) hx hb dX2_countBound_14 (by decide) ?_
      refine ln_icmp_eq (tgt := 22) hx hb dX2_countBound_16 (by decide) (by omega) (by decide) (fun h12 => ?_) (fun h12 => ?_)
      · refine lv_iinc (v := (nI 3)) (lv' := [(2, .int (nI 3)), (1, .int (nI 1)), (0, .int (nI x))]) hx hb dX2_countBound_22 hl (k := 0) rfl (by decide) (by decide) rfl (fun ls hl => ?_)
        refine lv_goto (tgt := 4) hx hb dX2_countBound_25 (by decide) ?_
        refine lv_iload_n hx hb dX2_countBound_4 rfl (lv_at hl 0 rfl) ?_
        refine lv_iconst (v := (nI 3)) hx hb dX2_countBound_5 (by decide) ?_
        refine lv_icmp_ge (tgt := 28) hx hb dX2_countBound_6 (by decide) (fun _ => ?_) (fun h9 => False.elim (by revert h9; decide))
        refine lv_iload_n hx hb dX2_countBound_28 rfl (lv_at hl 1 rfl) ?_
        exact ro_iret hx hb hr hlk dX2_countBound_29 (congrArg nI (by simp [k_bnd, k_f, *]))
      · refine lv_iinc (v := (nI 2)) (lv' := [(1, .int (nI 2)), (2, .int (nI 2)), (0, .int (nI x))]) hx hb dX2_countBound_19 hl (k := 1) rfl (by decide) (by decide) rfl (fun ls hl => ?_)
        refine lv_iinc (v := (nI 3)) (lv' := [(2, .int (nI 3)), (1, .int (nI 2)), (0, .int (nI x))]) hx hb dX2_countBound_22 hl (k := 1) rfl (by decide) (by decide) rfl (fun ls hl => ?_)
        refine lv_goto (tgt := 4) hx hb dX2_countBound_25 (by decide) ?_
        refine lv_iload_n hx hb dX2_countBound_4 rfl (lv_at hl 0 rfl) ?_
        refine lv_iconst (v := (nI 3)) hx hb dX2_countBound_5 (by decide) ?_
        refine lv_icmp_ge (tgt := 28) hx hb dX2_countBound_6 (by decide) (fun _ => ?_) (fun h9 => False.elim (by revert h9; decide))
        refine lv_iload_n hx hb dX2_countBound_28 rfl (lv_at hl 1 rfl) ?_
        exact ro_iret hx hb hr hlk dX2_countBound_29 (congrArg nI (by simp [k_bnd, k_f, *]))
    · refine lv_iinc (v := (nI 2)) (lv' := [(1, .int (nI 2)), (2, .int (nI 1)), (0, .int (nI x))]) hx hb dX2_countBound_19 hl (k := 1) rfl (by decide) (by decide) rfl (fun ls hl => ?_)
      refine lv_iinc (v := (nI 2)) (lv' := [(2, .int (nI 2)), (1, .int (nI 2)), (0, .int (nI x))]) hx hb dX2_countBound_22 hl (k := 1) rfl (by decide) (by decide) rfl (fun ls hl => ?_)
      refine lv_goto (tgt := 4) hx hb dX2_countBound_25 (by decide) ?_
      refine lv_iload_n hx hb dX2_countBound_4 rfl (lv_at hl 0 rfl) ?_
      refine lv_iconst (v := (nI 3)) hx hb dX2_countBound_5 (by decide) ?_
      refine lv_icmp_ge (tgt := 28) hx hb dX2_countBound_6 (by decide) (fun h9 => False.elim (by revert h9; decide)) (fun _ => ?_)
      refine lv_iload_n hx hb dX2_countBound_9 rfl (lv_at hl 2 rfl) ?_
      refine lv_iload_n hx hb dX2_countBound_10 rfl (lv_at hl 0 rfl) ?_
      refine ro_S (n := 2) ⟨hx, hb, hml, hown, hts⟩ hM hS hP (c_questionDigit l D tc zb x 2 (by omega) (by first | omega | exact byf_lt _)) gX2_countBound_X2_questionDigit rfl (by decide +kernel) ⟨Nat.le_of_ble_eq_true rfl, Nat.le_of_ble_eq_true rfl⟩ [] rfl rfl hl.1 rfl (Nat.le_of_ble_eq_true rfl) dX2_countBound_11 ⟨Nat.le_refl _, Nat.le_refl _⟩ ?_
      have hf13 := show k_dg x 2 ≤ 10 from k_dg_le (by omega)
      refine lv_bipush (v := (nI 10)) hx hb dX2_countBound_14 (by decide) ?_
      refine ln_icmp_eq (tgt := 22) hx hb dX2_countBound_16 (by decide) (by omega) (by decide) (fun h14 => ?_) (fun h14 => ?_)
      · refine lv_iinc (v := (nI 3)) (lv' := [(2, .int (nI 3)), (1, .int (nI 2)), (0, .int (nI x))]) hx hb dX2_countBound_22 hl (k := 0) rfl (by decide) (by decide) rfl (fun ls hl => ?_)
        refine lv_goto (tgt := 4) hx hb dX2_countBound_25 (by decide) ?_
        refine lv_iload_n hx hb dX2_countBound_4 rfl (lv_at hl 0 rfl) ?_
        refine lv_iconst (v := (nI 3)) hx hb dX2_countBound_5 (by decide) ?_
        refine lv_icmp_ge (tgt := 28) hx hb dX2_countBound_6 (by decide) (fun _ => ?_) (fun h9 => False.elim (by revert h9; decide))
        refine lv_iload_n hx hb dX2_countBound_28 rfl (lv_at hl 1 rfl) ?_
        exact ro_iret hx hb hr hlk dX2_countBound_29 (congrArg nI (by simp [k_bnd, k_f, *]))
      · refine lv_iinc (v := (nI 3)) (lv' := [(1, .int (nI 3)), (2, .int (nI 2)), (0, .int (nI x))]) hx hb dX2_countBound_19 hl (k := 1) rfl (by decide) (by decide) rfl (fun ls hl => ?_)
        refine lv_iinc (v := (nI 3)) (lv' := [(2, .int (nI 3)), (1, .int (nI 3)), (0, .int (nI x))]) hx hb dX2_countBound_22 hl (k := 1) rfl (by decide) (by decide) rfl (fun ls hl => ?_)
        refine lv_goto (tgt := 4) hx hb dX2_countBound_25 (by decide) ?_
        refine lv_iload_n hx hb dX2_countBound_4 rfl (lv_at hl 0 rfl) ?_
        refine lv_iconst (v := (nI 3)) hx hb dX2_countBound_5 (by decide) ?_
        refine lv_icmp_ge (tgt := 28) hx hb dX2_countBound_6 (by decide) (fun _ => ?_) (fun h9 => False.elim (by revert h9; decide))
        refine lv_iload_n hx hb dX2_countBound_28 rfl (lv_at hl 1 rfl) ?_
        exact ro_iret hx hb hr hlk dX2_countBound_29 (congrArg nI (by simp [k_bnd, k_f, *]))
set_option maxHeartbeats 4000000 in
set_option maxRecDepth 100000 in
theorem c_reachesAll (l : Launch) (D : va_G) (tc : Nat → ClassId) (zb : Nat) (x q : Nat) (hx9 : x < 1331) (hq : q < 6) : RO l yX2_reachesAll wsX2_reachesAll 2 44 D tc zb [] [.int (nI x), .int (nI q)] (.int (bI (decide (k_rch x q = k_bnd x)))) := by
  refine RO.of (cc := cX2_reachesAll) (maxL := 2) (ret := (some .boolean)) (by decide) rfl (Nat.le_of_ble_eq_true rfl) ?_
  intro p e s m args below meth c hx hb hr hml hlk hts hown hM hS hP ls hl
  have hl : lv_has ls 2 [(0, .int (nI x)), (1, .int (nI q))] := hl
  refine lv_iload_n hx hb dX2_reachesAll_0 rfl (lv_at hl 0 rfl) ?_
  refine lv_iload_n hx hb dX2_reachesAll_1 rfl (lv_at hl 1 rfl) ?_
  refine ro_S (n := 2) ⟨hx, hb, hml, hown, hts⟩ hM hS hP (c_reachOf l D tc zb x q (by omega) (by omega)) gX2_reachesAll_X2_reachOf rfl (by decide +kernel) ⟨Nat.le_of_ble_eq_true rfl, Nat.le_of_ble_eq_true rfl⟩ [] rfl rfl hl.1 rfl (Nat.le_of_ble_eq_true rfl) dX2_reachesAll_2 ⟨Nat.le_refl _, Nat.le_refl _⟩ ?_
  have hf1 := k_rch_le x q
  refine lv_iload_n hx hb dX2_reachesAll_5 rfl (lv_at hl 0 rfl) ?_
  refine ro_S (n := 1) ⟨hx, hb, hml, hown, hts⟩ hM hS hP (c_countBound l D tc zb x (by omega)) gX2_reachesAll_X2_countBound rfl (by decide +kernel) ⟨Nat.le_of_ble_eq_true rfl, Nat.le_of_ble_eq_true rfl⟩ [] rfl rfl hl.1 rfl (Nat.le_of_ble_eq_true rfl) dX2_reachesAll_6 ⟨Nat.le_refl _, Nat.le_refl _⟩ ?_
  have hf2 := k_bnd_le x
  refine ln_icmp_ne (tgt := 16) hx hb dX2_reachesAll_9 (by decide) (by omega) (by omega) (fun h3 => ?_) (fun h3 => ?_)
  · refine lv_iconst (v := (nI 0)) hx hb dX2_reachesAll_16 (by decide) ?_
    exact ro_zret hx hb hr hlk dX2_reachesAll_17 (show bI false = _ from congrArg bI (by simp [*]))
  · refine lv_iconst (v := (nI 1)) hx hb dX2_reachesAll_12 (by decide) ?_
    refine lv_goto (tgt := 17) hx hb dX2_reachesAll_13 (by decide) ?_
    exact ro_zret hx hb hr hlk dX2_reachesAll_17 (show bI true = _ from congrArg bI (by simp [*]))
set_option maxHeartbeats 4000000 in
set_option maxRecDepth 100000 in
theorem c_reachedPart (l : Launch) (D : va_G) (tc : Nat → ClassId) (zb : Nat) (x q r : Nat) (hx9 : x < 1331) (hq : q < 6) (hr9 : r ≤ 3) : RO l yX2_reachedPart wsX2_reachedPart 1 22 D tc zb [] [.int (nI x), .int (nI q), .int (nI r)] (.int (nI (k_red x q r))) := by
  refine RO.of (cc := cX2_reachedPart) (maxL := 6) (ret := (some .int)) (by decide) rfl (Nat.le_of_ble_eq_true rfl) ?_
  intro p e s m args below meth c hx hb hr hml hlk hts hown hM hS hP ls hl
  have hl : lv_has ls 6 [(0, .int (nI x)), (1, .int (nI q)), (2, .int (nI r))] := hl
  rcases (show r = 0 ∨ r = 1 ∨ r = 2 ∨ r = 3 by omega) with rfl | rfl | rfl | rfl
  · refine lv_iload_n hx hb dX2_reachedPart_0 rfl (lv_at hl 0 rfl) ?_
    refine lv_istore_n (lv' := [(3, .int (nI x)), (0, .int (nI x)), (1, .int (nI q)), (2, .int (nI 0))]) hx hb dX2_reachedPart_1 rfl hl (by decide) rfl (fun ls hl => ?_)
    refine lv_iload_n hx hb dX2_reachedPart_2 rfl (lv_at hl 3 rfl) ?_
    refine lv_istore (lv' := [(4, .int (nI 0)), (3, .int (nI x)), (0, .int (nI x)), (1, .int (nI q)), (2, .int (nI 0))]) hx hb dX2_reachedPart_3 hl (by decide) rfl (fun ls hl => ?_)
    refine lv_iload hx hb dX2_reachedPart_5 (lv_at hl 0 rfl) ?_
    refine lv_iconst (v := (nI 3)) hx hb dX2_reachedPart_7 (by decide) ?_
    refine lv_icmp_ge (tgt := 43) hx hb dX2_reachedPart_8 (by decide) (fun h9 => False.elim (by revert h9; decide)) (fun _ => ?_)
    refine lv_iload_n hx hb dX2_reachedPart_11 rfl (lv_at hl 3 rfl) ?_
    refine lv_iload hx hb dX2_reachedPart_12 (lv_at hl 0 rfl) ?_
    refine ro_S (n := 2) ⟨hx, hb, hml, hown, hts⟩ hM hS hP (c_componentAt l D tc zb q 0 (by omega) (by omega)) gX2_reachedPart_X2_componentAt rfl (by decide +kernel) ⟨Nat.le_of_ble_eq_true rfl, Nat.le_of_ble_eq_true rfl⟩ [] rfl rfl hl.1 rfl (Nat.le_of_ble_eq_true rfl) dX2_reachedPart_14 ⟨Nat.le_refl _, Nat.le_refl _⟩ ?_
    refine lv_istore (lv' := [(5, .int (nI (byf (3 * q + 0)))), (4, .int (nI 0)), (3, .int (nI x)), (0, .int (nI x)), (1, .int (nI q)), (2, .int (nI 0))]) hx hb dX2_reachedPart_17 hl (by decide) rfl (fun ls hl => ?_)
    refine lv_iload_n hx hb dX2_reachedPart_19 rfl (lv_at hl 2 rfl) ?_
    refine lv_iload hx hb dX2_reachedPart_20 (lv_at hl 0 rfl) ?_
    refine ro_S (n := 1) ⟨hx, hb, hml, hown, hts⟩ hM hS hP (c_unitOf l D tc zb (byf (3 * q + 0)) (by first | omega | exact byf_lt _)) gX2_reachedPart_X2_unitOf rfl (by decide +kernel) ⟨Nat.le_of_ble_eq_true rfl, Nat.le_of_ble_eq_true rfl⟩ [] rfl rfl hl.1 rfl (Nat.le_of_ble_eq_true rfl) dX2_reachedPart_22 ⟨Nat.le_refl _, Nat.le_refl _⟩ ?_
    have hf1 := k_un_le (byf (3 * q + 0))
    refine lv_bipush (v := (nI 10)) hx hb dX2_reachedPart_25 (by decide) ?_
    refine lv_iload_n hx hb dX2_reachedPart_27 rfl (lv_at hl 3 rfl) ?_
    refine lv_iload hx hb dX2_reachedPart_28 (lv_at hl 0 rfl) ?_
    refine ro_S (n := 2) ⟨hx, hb, hml, hown, hts⟩ hM hS hP (c_questionDigit l D tc zb x (byf (3 * q + 0)) (by omega) (by first | omega | exact byf_lt _)) gX2_reachedPart_X2_questionDigit rfl (by decide +kernel) ⟨Nat.le_of_ble_eq_true rfl, Nat.le_of_ble_eq_true rfl⟩ [] rfl rfl hl.1 rfl (Nat.le_of_ble_eq_true rfl) dX2_reachedPart_30 ⟨Nat.le_refl _, Nat.le_refl _⟩ ?_
    have hf2 := show k_dg x (byf (3 * q + 0)) ≤ 10 from k_dg_le (by omega)
    refine ln_isub hx hb dX2_reachedPart_33 (by omega) ?_
    refine ln_imul hx hb dX2_reachedPart_34 ?_
    refine ln_iadd hx hb dX2_reachedPart_35 ?_
    refine lv_istore_n (lv' := [(3, .int (nI (x + ((k_un (byf (3 * q + 0))) * (10 - (k_dg x (byf (3 * q + 0)))))))), (5, .int (nI (byf (3 * q + 0)))), (4, .int (nI 0)), (0, .int (nI x)), (1, .int (nI q)), (2, .int (nI 0))]) hx hb dX2_reachedPart_36 rfl hl (by decide) rfl (fun ls hl => ?_)
    refine lv_iinc (v := (nI 1)) (lv' := [(4, .int (nI 1)), (3, .int (nI (x + ((k_un (byf (3 * q + 0))) * (10 - (k_dg x (byf (3 * q + 0)))))))), (5, .int (nI (byf (3 * q + 0)))), (0, .int (nI x)), (1, .int (nI q)), (2, .int (nI 0))]) hx hb dX2_reachedPart_37 hl (k := 2) rfl (by decide) (by decide) rfl (fun ls hl => ?_)
    refine lv_goto (tgt := 5) hx hb dX2_reachedPart_40 (by decide) ?_
    refine lv_iload hx hb dX2_reachedPart_5 (lv_at hl 0 rfl) ?_
    refine lv_iconst (v := (nI 3)) hx hb dX2_reachedPart_7 (by decide) ?_
    refine lv_icmp_ge (tgt := 43) hx hb dX2_reachedPart_8 (by decide) (fun h9 => False.elim (by revert h9; decide)) (fun _ => ?_)
    refine lv_iload_n hx hb dX2_reachedPart_11 rfl (lv_at hl 4 rfl) ?_
    refine lv_iload hx hb dX2_reachedPart_12 (lv_at hl 0 rfl) ?_
    refine ro_S (n := 2) ⟨hx, hb, hml, hown, hts⟩ hM hS hP (c_componentAt l D tc zb q 1 (by omega) (by omega)) gX2_reachedPart_X2_componentAt rfl (by decide +kernel) ⟨Nat.le_of_ble_eq_true rfl, Nat.le_of_ble_eq_true rfl⟩ [] rfl rfl hl.1 rfl (Nat.le_of_ble_eq_true rfl) dX2_reachedPart_14 ⟨Nat.le_refl _, Nat.le_refl _⟩ ?_
    refine lv_istore (lv' := [(5, .int (nI (byf (3 * q + 1)))), (4, .int (nI 1)), (3, .int (nI (x + ((k_un (byf (3 * q + 0))) * (10 - (k_dg x (byf (3 * q + 0)))))))), (0, .int (nI x)), (1, .int (nI q)), (2, .int (nI 0))]) hx hb dX2_reachedPart_17 hl (by decide) rfl (fun ls hl => ?_)
    refine lv_iload_n hx hb dX2_reachedPart_19 rfl (lv_at hl 2 rfl) ?_
    refine lv_iload hx hb dX2_reachedPart_20 (lv_at hl 0 rfl) ?_
    refine ro_S (n := 1) ⟨hx, hb, hml, hown, hts⟩ hM hS hP (c_unitOf l D tc zb (byf (3 * q + 1)) (by first | omega | exact byf_lt _)) gX2_reachedPart_X2_unitOf rfl (by decide +kernel) ⟨Nat.le_of_ble_eq_true rfl, Nat.le_of_ble_eq_true rfl⟩ [] rfl rfl hl.1 rfl (Nat.le_of_ble_eq_true rfl) dX2_reachedPart_22 ⟨Nat.le_refl _, Nat.le_refl _⟩ ?_
    have hf3 := k_un_le (byf (3 * q + 1))
    refine lv_bipush (v := (nI 10)) hx hb dX2_reachedPart_25 (by decide) ?_
    refine lv_iload_n hx hb dX2_reachedPart_27 rfl (lv_at hl 3 rfl) ?_
    refine lv_iload hx hb dX2_reachedPart_28 (lv_at hl 0 rfl) ?_
    refine ro_S (n := 2) ⟨hx, hb, hml, hown, hts⟩ hM hS hP (c_questionDigit l D tc zb x (byf (3 * q + 1)) (by omega) (by first | omega | exact byf_lt _)) gX2_reachedPart_X2_questionDigit rfl (by decide +kernel) ⟨Nat.le_of_ble_eq_true rfl, Nat.le_of_ble_eq_true rfl⟩ [] rfl rfl hl.1 rfl (Nat.le_of_ble_eq_true rfl) dX2_reachedPart_30 ⟨Nat.le_refl _, Nat.le_refl _⟩ ?_
    have hf4 := show k_dg x (byf (3 * q + 1)) ≤ 10 from k_dg_le (by omega)
    refine ln_isub hx hb dX2_reachedPart_33 (by omega) ?_
    refine ln_imul hx hb dX2_reachedPart_34 ?_
    refine ln_iadd hx hb dX2_reachedPart_35 ?_
    refine lv_istore_n (lv' := [(3, .int (nI ((x + ((k_un (byf (3 * q + 0))) * (10 - (k_dg x (byf (3 * q + 0)))))) + ((k_un (byf (3 * q + 1))) * (10 - (k_dg x (byf (3 * q + 1)))))))), (5, .int (nI (byf (3 * q + 1)))), (4, .int (nI 1)), (0, .int (nI x)), (1, .int (nI q)), (2, .int (nI 0))]) hx hb dX2_reachedPart_36 rfl hl (by decide) rfl (fun ls hl => ?_)
    refine lv_iinc (v := (nI 2)) (lv' := [(4, .int (nI 2)), (3, .int (nI ((x + ((k_un (byf (3 * q + 0))) * (10 - (k_dg x (byf (3 * q + 0)))))) + ((k_un (byf (3 * q + 1))) * (10 - (k_dg x (byf (3 * q + 1)))))))), (5, .int (nI (byf (3 * q + 1)))), (0, .int (nI x)), (1, .int (nI q)), (2, .int (nI 0))]) hx hb dX2_reachedPart_37 hl (k := 2) rfl (by decide) (by decide) rfl (fun ls hl => ?_)
    refine lv_goto (tgt := 5) hx hb dX2_reachedPart_40 (by decide) ?_
    refine lv_iload hx hb dX2_reachedPart_5 (lv_at hl 0 rfl) ?_
    refine lv_iconst (v := (nI 3)) hx hb dX2_reachedPart_7 (by decide) ?_
    refine lv_icmp_ge (tgt := 43) hx hb dX2_reachedPart_8 (by decide) (fun h9 => False.elim (by revert h9; decide)) (fun _ => ?_)
    refine lv_iload_n hx hb dX2_reachedPart_11 rfl (lv_at hl 4 rfl) ?_
    refine lv_iload hx hb dX2_reachedPart_12 (lv_at hl 0 rfl) ?_
    refine ro_S (n := 2) ⟨hx, hb, hml, hown, hts⟩ hM hS hP (c_componentAt l D tc zb q 2 (by omega) (by omega)) gX2_reachedPart_X2_componentAt rfl (by decide +kernel) ⟨Nat.le_of_ble_eq_true rfl, Nat.le_of_ble_eq_true rfl⟩ [] rfl rfl hl.1 rfl (Nat.le_of_ble_eq_true rfl) dX2_reachedPart_14 ⟨Nat.le_refl _, Nat.le_refl _⟩ ?_
    refine lv_istore (lv' := [(5, .int (nI (byf (3 * q + 2)))), (4, .int (nI 2)), (3, .int (nI ((x + ((k_un (byf (3 * q + 0))) * (10 - (k_dg x (byf (3 * q + 0)))))) + ((k_un (byf (3 * q + 1))) * (10 - (k_dg x (byf (3 * q + 1)))))))), (0, .int (nI x)), (1, .int (nI q)), (2, .int (nI 0))]) hx hb dX2_reachedPart_17 hl (by decide) rfl (fun ls hl => ?_)
    refine lv_iload_n hx hb dX2_reachedPart_19 rfl (lv_at hl 2 rfl) ?_
    refine lv_iload hx hb dX2_reachedPart_20 (lv_at hl 0 rfl) ?_
    refine ro_S (n := 1) ⟨hx, hb, hml, hown, hts⟩ hM hS hP (c_unitOf l D tc zb (byf (3 * q + 2)) (by first | omega | exact byf_lt _)) gX2_reachedPart_X2_unitOf rfl (by decide +kernel) ⟨Nat.le_of_ble_eq_true rfl, Nat.le_of_ble_eq_true rfl⟩ [] rfl rfl hl.1 rfl (Nat.le_of_ble_eq_true rfl) dX2_reachedPart_22 ⟨Nat.le_refl _, Nat.le_refl _⟩ ?_
    have hf5 := k_un_le (byf (3 * q + 2))
    refine lv_bipush (v := (nI 10)) hx hb dX2_reachedPart_25 (by decide) ?_
    refine lv_iload_n hx hb dX2_reachedPart_27 rfl (lv_at hl 3 rfl) ?_
    refine lv_iload hx hb dX2_reachedPart_28 (lv_at hl 0 rfl) ?_
    refine ro_S (n := 2) ⟨hx, hb, hml, hown, hts⟩ hM hS hP (c_questionDigit l D tc zb x (byf (3 * q + 2)) (by omega) (by first | omega | exact byf_lt _)) gX2_reachedPart_X2_questionDigit rfl (by decide +kernel) ⟨Nat.le_of_ble_eq_true rfl, Nat.le_of_ble_eq_true rfl⟩ [] rfl rfl hl.1 rfl (Nat.le_of_ble_eq_true rfl) dX2_reachedPart_30 ⟨Nat.le_refl _, Nat.le_refl _⟩ ?_
    have hf6 := show k_dg x (byf (3 * q + 2)) ≤ 10 from k_dg_le (by omega)
    refine ln_isub hx hb dX2_reachedPart_33 (by omega) ?_
    refine ln_imul hx hb dX2_reachedPart_34 ?_
    refine ln_iadd hx hb dX2_reachedPart_35 ?_
    refine lv_istore_n (lv' := [(3, .int (nI (((x + ((k_un (byf (3 * q + 0))) * (10 - (k_dg x (byf (3 * q + 0)))))) + ((k_un (byf (3 * q + 1))) * (10 - (k_dg x (byf (3 * q + 1)))))) + ((k_un (byf (3 * q + 2))) * (10 - (k_dg x (byf (3 * q + 2)))))))), (5, .int (nI (byf (3 * q + 2)))), (4, .int (nI 2)), (0, .int (nI x)), (1, .int (nI q)), (2, .int (nI 0))]) hx hb dX2_reachedPart_36 rfl hl (by decide) rfl (fun ls hl => ?_)
    refine lv_iinc (v := (nI 3)) (lv' := [(4, .int (nI 3)), (3, .int (nI (((x + ((k_un (byf (3 * q + 0))) * (10 - (k_dg x (byf (3 * q + 0)))))) + ((k_un (byf (3 * q + 1))) * (10 - (k_dg x (byf (3 * q + 1)))))) + ((k_un (byf (3 * q + 2))) * (10 - (k_dg x (byf (3 * q + 2)))))))), (5, .int (nI (byf (3 * q + 2)))), (0, .int (nI x)), (1, .int (nI q)), (2, .int (nI 0))]) hx hb dX2_reachedPart_37 hl (k := 2) rfl (by decide) (by decide) rfl (fun ls hl => ?_)
    refine lv_goto (tgt := 5) hx hb dX2_reachedPart_40 (by decide) ?_
    refine lv_iload hx hb dX2_reachedPart_5 (lv_at hl 0 rfl) ?_
    refine lv_iconst (v := (nI 3)) hx hb dX2_reachedPart_7 (by decide) ?_
    refine lv_icmp_ge (tgt := 43) hx hb dX2_reachedPart_8 (by decide) (fun _ => ?_) (fun h9 => False.elim (by revert h9; decide))
    refine lv_iload_n hx hb dX2_reachedPart_43 rfl (lv_at hl 1 rfl) ?_
    exact ro_iret hx hb hr hlk dX2_reachedPart_44 (congrArg nI (by first | rfl | simp [k_red, k_fr]))
  · refine lv_iload_n hx hb dX2_reachedPart_0 rfl (lv_at hl 0 rfl) ?_
    refine lv_istore_n (lv' := [(3, .int (nI x)), (0, .int (nI x)), (1, .int (nI q)), (2, .int (nI 1))]) hx hb dX2_reachedPart_1 rfl hl (by decide) rfl (fun ls hl => ?_)
    refine lv_iload_n hx hb dX2_reachedPart_2 rfl (lv_at hl 3 rfl) ?_
    refine lv_istore (lv' := [(4, .int (nI 1)), (3, .int (nI x)), (0, .int (nI x)), (1, .int (nI q)), (2, .int (nI 1))]) hx hb dX2_reachedPart_3 hl (by decide) rfl (fun ls hl => ?_)
    refine lv_iload hx hb dX2_reachedPart_5 (lv_at hl 0 rfl) ?_
    refine lv_iconst (v := (nI 3)) hx hb dX2_reachedPart_7 (by decide) ?_
    refine lv_icmp_ge (tgt := 43) hx hb dX2_reachedPart_8 (by decide) (fun h9 => False.elim (by revert h9; decide)) (fun _ => ?_)
    refine lv_iload_n hx hb dX2_reachedPart_11 rfl (lv_at hl 3 rfl) ?_
    refine lv_iload hx hb dX2_reachedPart_12 (lv_at hl 0 rfl) ?_
    refine ro_S (n := 2) ⟨hx, hb, hml, hown, hts⟩ hM hS hP (c_componentAt l D tc zb q 1 (by omega) (by omega)) gX2_reachedPart_X2_componentAt rfl (by decide +kernel) ⟨Nat.le_of_ble_eq_true rfl, Nat.le_of_ble_eq_true rfl⟩ [] rfl rfl hl.1 rfl (Nat.le_of_ble_eq_true rfl) dX2_reachedPart_14 ⟨Nat.le_refl _, Nat.le_refl _⟩ ?_
    refine lv_istore (lv' := [(5, .int (nI (byf (3 * q + 1)))), (4, .int (nI 1)), (3, .int (nI x)), (0, .int (nI x)), (1, .int (nI q)), (2, .int (nI 1))]) hx hb dX2_reachedPart_17 hl (by decide) rfl (fun ls hl => ?_)
    refine lv_iload_n hx hb dX2_reachedPart_19 rfl (lv_at hl 2 rfl) ?_
    refine lv_iload hx hb dX2_reachedPart_20 (lv_at hl 0 rfl) ?_
    refine ro_S (n := 1) ⟨hx, hb, hml, hown, hts⟩ hM hS hP (c_unitOf l D tc zb (byf (3 * q + 1)) (by first | omega | exact byf_lt _)) gX2_reachedPart_X2_unitOf rfl (by decide +kernel) ⟨Nat.le_of_ble_eq_true rfl, Nat.le_of_ble_eq_true rfl⟩ [] rfl rfl hl.1 rfl (Nat.le_of_ble_eq_true rfl) dX2_reachedPart_22 ⟨Nat.le_refl _, Nat.le_refl _⟩ ?_
    have hf7 := k_un_le (byf (3 * q + 1))
    refine lv_bipush (v := (nI 10)) hx hb dX2_reachedPart_25 (by decide) ?_
    refine lv_iload_n hx hb dX2_reachedPart_27 rfl (lv_at hl 3 rfl) ?_
    refine lv_iload hx hb dX2_reachedPart_28 (lv_at hl 0 rfl) ?_
    refine ro_S (n := 2) ⟨hx, hb, hml, hown, hts⟩ hM hS hP (c_questionDigit l D tc zb x (byf (3 * q + 1)) (by omega) (by first | omega | exact byf_lt _)) gX2_reachedPart_X2_questionDigit rfl (by decide +kernel) ⟨Nat.le_of_ble_eq_true rfl, Nat.le_of_ble_eq_true rfl⟩ [] rfl rfl hl.1 rfl (Nat.le_of_ble_eq_true rfl) dX2_reachedPart_30 ⟨Nat.le_refl _, Nat.le_refl _⟩ ?_
    have hf8 := show k_dg x (byf (3 * q + 1)) ≤ 10 from k_dg_le (by omega)
    refine ln_isub hx hb dX2_reachedPart_33 (by omega) ?_
    refine ln_imul hx hb dX2_reachedPart_34 ?_
    refine ln_iadd hx hb dX2_reachedPart_35 ?_
    refine lv_istore_n (lv' := [(3, .int (nI (x + ((k_un (byf (3 * q + 1))) * (10 - (k_dg x (byf (3 * q + 1)))))))), (5, .int (nI (byf (3 * q + 1)))), (4, .int (nI 1)), (0, .int (nI x)), (1, .int (nI q)), (2, .int (nI 1))]) hx hb dX2_reachedPart_36 rfl hl (by decide) rfl (fun ls hl => ?_)
    refine lv_iinc (v := (nI 2)) (lv' := [(4, .int (nI 2)), (3, .int (nI (x + ((k_un (byf (3 * q + 1))) * (10 - (k_dg x (byf (3 * q + 1)))))))), (5, .int (nI (byf (3 * q + 1)))), (0, .int (nI x)), (1, .int (nI q)), (2, .int (nI 1))]) hx hb dX2_reachedPart_37 hl (k := 2) rfl (by decide) (by decide) rfl (fun ls hl => ?_)
    refine lv_goto (tgt := 5) hx hb dX2_reachedPart_40 (by decide) ?_
    refine lv_iload hx hb dX2_reachedPart_5 (lv_at hl 0 rfl) ?_
    refine lv_iconst (v := (nI 3)) hx hb dX2_reachedPart_7 (by decide) ?_
    refine lv_icmp_ge (tgt := 43) hx hb dX2_reachedPart_8 (by decide) (fun h9 => False.elim (by revert h9; decide)) (fun _ => ?_)
    refine lv_iload_n hx hb dX2_reachedPart_11 rfl (lv_at hl 4 rfl) ?_
    refine lv_iload hx hb dX2_reachedPart_12 (lv_at hl 0 rfl) ?_
    refine ro_S (n := 2) ⟨hx, hb, hml, hown, hts⟩ hM hS hP (c_componentAt l D tc zb q 2 (by omega) (by omega)) gX2_reachedPart_X2_componentAt rfl (by decide +kernel) ⟨Nat.le_of_ble_eq_true rfl, Nat.le_of_ble_eq_true rfl⟩ [] rfl rfl hl.1 rfl (Nat.le_of_ble_eq_true rfl) dX2_reachedPart_14 ⟨Nat.le_refl _, Nat.le_refl _⟩ ?_
    refine lv_istore (lv' := [(5, .int (nI (byf (3 * q + 2)))), (4, .int (nI 2)), (3, .int (nI (x + ((k_un (byf (3 * q + 1))) * (10 - (k_dg x (byf (3 * q + 1)))))))), (0, .int (nI x)), (1, .int (nI q)), (2, .int (nI 1))]) hx hb dX2_reachedPart_17 hl (by decide) rfl (fun ls hl => ?_)
    refine lv_iload_n hx hb dX2_reachedPart_19 rfl (lv_at hl 2 rfl) ?_
    refine lv_iload hx hb dX2_reachedPart_20 (lv_at hl 0 rfl) ?_
    refine ro_S (n := 1) ⟨hx, hb, hml, hown, hts⟩ hM hS hP (c_unitOf l D tc zb (byf (3 * q + 2)) (by first | omega | exact byf_lt _)) gX2_reachedPart_X2_unitOf rfl (by decide +kernel) ⟨Nat.le_of_ble_eq_true rfl, Nat.le_of_ble_eq_true rfl⟩ [] rfl rfl hl.1 rfl (Nat.le_of_ble_eq_true rfl) dX2_reachedPart_22 ⟨Nat.le_refl _, Nat.le_refl _⟩ ?_
    have hf9 := k_un_le (byf (3 * q + 2))
    refine lv_bipush (v := (nI 10)) hx hb dX2_reachedPart_25 (by decide) ?_
    refine lv_iload_n hx hb dX2_reachedPart_27 rfl (lv_at hl 3 rfl) ?_
    refine lv_iload hx hb dX2_reachedPart_28 (lv_at hl 0 rfl) ?_
    refine ro_S (n := 2) ⟨hx, hb, hml, hown, hts⟩ hM hS hP (c_questionDigit l D tc zb x (byf (3 * q + 2)) (by omega) (by first | omega | exact byf_lt _)) gX2_reachedPart_X2_questionDigit rfl (by decide +kernel) ⟨Nat.le_of_ble_eq_true rfl, Nat.le_of_ble_eq_true rfl⟩ [] rfl rfl hl.1 rfl (Nat.le_of_ble_eq_true rfl) dX2_reachedPart_30 ⟨Nat.le_refl _, Nat.le_refl _⟩ ?_
    have hf10 := show k_dg x (byf (3 * q + 2)) ≤ 10 from k_dg_le (by omega)
    refine ln_isub hx hb dX2_reachedPart_33 (by omega) ?_
    refine ln_imul hx hb dX2_reachedPart_34 ?_
    refine ln_iadd hx hb dX2_reachedPart_35 ?_
    refine lv_istore_n (lv' := [(3, .int (nI ((x + ((k_un (byf (3 * q + 1))) * (10 - (k_dg x (byf (3 * q + 1)))))) + ((k_un (byf (3 * q + 2))) * (10 - (k_dg x (byf (3 * q + 2)))))))), (5, .int (nI (byf (3 * q + 2)))), (4, .int (nI 2)), (0, .int (nI x)), (1, .int (nI q)), (2, .int (nI 1))]) hx hb dX2_reachedPart_36 rfl hl (by decide) rfl (fun ls hl => ?_)
    refine lv_iinc (v := (nI 3)) (lv' := [(4, .int (nI 3)), (3, .int (nI ((x + ((k_un (byf (3 * q + 1))) * (10 - (k_dg x (byf (3 * q + 1)))))) + ((k_un (byf (3 * q + 2))) * (10 - (k_dg x (byf (3 * q + 2)))))))), (5, .int (nI (byf (3 * q + 2)))), (0, .int (nI x)), (1, .int (nI q)), (2, .int (nI 1))]) hx hb dX2_reachedPart_37 hl (k := 2) rfl (by decide) (by decide) rfl (fun ls hl => ?_)
    refine lv_goto (tgt := 5) hx hb dX2_reachedPart_40 (by decide) ?_
    refine lv_iload hx hb dX2_reachedPart_5 (lv_at hl 0 rfl) ?_
    refine lv_iconst (v := (nI 3)) hx hb dX2_reachedPart_7 (by decide) ?_
    refine lv_icmp_ge (tgt := 43) hx hb dX2_reachedPart_8 (by decide) (fun _ => ?_) (fun h9 => False.elim (by revert h9; decide))
    refine lv_iload_n hx hb dX2_reachedPart_43 rfl (lv_at hl 1 rfl) ?_
    exact ro_iret hx hb hr hlk dX2_reachedPart_44 (congrArg nI (by first | rfl | simp [k_red, k_fr]))
  · refine lv_iload_n hx hb dX2_reachedPart_0 rfl (lv_at hl 0 rfl) ?_
    refine lv_istore_n (lv' := [(3, .int (nI x)), (0, .int (nI x)), (1, .int (nI q)), (2, .int (nI 2))]) hx hb dX2_reachedPart_1 rfl hl (by decide) rfl (fun ls hl => ?_)
    refine lv_iload_n hx hb dX2_reachedPart_2 rfl (lv_at hl 3 rfl) ?_
    refine lv_istore (lv' := [(4, .int (nI 2)), (3, .int (nI x)), (0, .int (nI x)), (1, .int (nI q)), (2, .int (nI 2))]) hx hb dX2_reachedPart_3 hl (by decide) rfl (fun ls hl => ?_)
    refine lv_iload hx hb dX2_reachedPart_5 (lv_at hl 0 rfl) ?_
    refine lv_iconst (v := (nI 3)) hx hb dX2_reachedPart_7 (by decide) ?_
    refine lv_icmp_ge (tgt := 43) hx hb dX2_reachedPart_8 (by decide) (fun h9 => False.elim (by revert h9; decide)) (fun _ => ?_)
    refine lv_iload_n hx hb dX2_reachedPart_11 rfl (lv_at hl 3 rfl) ?_
    refine lv_iload hx hb dX2_reachedPart_12 (lv_at hl 0 rfl) ?_
    refine ro_S (n := 2) ⟨hx, hb, hml, hown, hts⟩ hM hS hP (c_componentAt l D tc zb q 2 (by omega) (by omega)) gX2_reachedPart_X2_componentAt rfl (by decide +kernel) ⟨Nat.le_of_ble_eq_true rfl, Nat.le_of_ble_eq_true rfl⟩ [] rfl rfl hl.1 rfl (Nat.le_of_ble_eq_true rfl) dX2_reachedPart_14 ⟨Nat.le_refl _, Nat.le_refl _⟩ ?_
    refine lv_istore (lv' := [(5, .int (nI (byf (3 * q + 2)))), (4, .int (nI 2)), (3, .int (nI x)), (0, .int (nI x)), (1, .int (nI q)), (2, .int (nI 2))]) hx hb dX2_reachedPart_17 hl (by decide) rfl (fun ls hl => ?_)
    refine lv_iload_n hx hb dX2_reachedPart_19 rfl (lv_at hl 2 rfl) ?_
    refine lv_iload hx hb dX2_reachedPart_20 (lv_at hl 0 rfl) ?_
    refine ro_S (n := 1) ⟨hx, hb, hml, hown, hts⟩ hM hS hP (c_unitOf l D tc zb (byf (3 * q + 2)) (by first | omega | exact byf_lt _)) gX2_reachedPart_X2_unitOf rfl (by decide +kernel) ⟨Nat.le_of_ble_eq_true rfl, Nat.le_of_ble_eq_true rfl⟩ [] rfl rfl hl.1 rfl (Nat.le_of_ble_eq_true rfl) dX2_reachedPart_22 ⟨Nat.le_refl _, Nat.le_refl _⟩ ?_
    have hf11 := k_un_le (byf (3 * q + 2))
    refine lv_bipush (v := (nI 10)) hx hb dX2_reachedPart_25 (by decide) ?_
    refine lv_iload_n hx hb dX2_reachedPart_27 rfl (lv_at hl 3 rfl) ?_
    refine lv_iload hx hb dX2_reachedPart_28 (lv_at hl 0 rfl) ?_
    refine ro_S (n := 2) ⟨hx, hb, hml, hown, hts⟩ hM hS hP (c_questionDigit l D tc zb x (byf (3 * q + 2)) (by omega) (by first | omega | exact byf_lt _)) gX2_reachedPart_X2_questionDigit rfl (by decide +kernel) ⟨Nat.le_of_ble_eq_true rfl, Nat.le_of_ble_eq_true rfl⟩ [] rfl rfl hl.1 rfl (Nat.le_of_ble_eq_true rfl) dX2_reachedPart_30 ⟨Nat.le_refl _, Nat.le_refl _⟩ ?_
    have hf12 := show k_dg x (byf (3 * q + 2)) ≤ 10 from k_dg_le (by omega)
    refine ln_isub hx hb dX2_reachedPart_33 (by omega) ?_
    refine ln_imul hx hb dX2_reachedPart_34 ?_
    refine ln_iadd hx hb dX2_reachedPart_35 ?_
    refine lv_istore_n (lv' := [(3, .int (nI (x + ((k_un (byf (3 * q + 2))) * (10 - (k_dg x (byf (3 * q + 2)))))))), (5, .int (nI (byf (3 * q + 2)))), (4, .int (nI 2)), (0, .int (nI x)), (1, .int (nI q)), (2, .int (nI 2))]) hx hb dX2_reachedPart_36 rfl hl (by decide) rfl (fun ls hl => ?_)
    refine lv_iinc (v := (nI 3)) (lv' := [(4, .int (nI 3)), (3, .int (nI (x + ((k_un (byf (3 * q + 2))) * (10 - (k_dg x (byf (3 * q + 2)))))))), (5, .int (nI (byf (3 * q + 2)))), (0, .int (nI x)), (1, .int (nI q)), (2, .int (nI 2))]) hx hb dX2_reachedPart_37 hl (k := 2) rfl (by decide) (by decide) rfl (fun ls hl => ?_)
    refine lv_goto (tgt := 5) hx hb dX2_reachedPart_40 (by decide) ?_
    refine lv_iload hx hb dX2_reachedPart_5 (lv_at hl 0 rfl) ?_
    refine lv_iconst (v := (nI 3)) hx hb dX2_reachedPart_7 (by decide) ?_
    refine lv_icmp_ge (tgt := 43) hx hb dX2_reachedPart_8 (by decide) (fun _ => ?_) (fun h9 => False.elim (by revert h9; decide))
    refine lv_iload_n hx hb dX2_reachedPart_43 rfl (lv_at hl 1 rfl) ?_
    exact ro_iret hx hb hr hlk dX2_reachedPart_44 (congrArg nI (by first | rfl | simp [k_red, k_fr]))
  · refine lv_iload_n hx hb dX2_reachedPart_0 rfl (lv_at hl 0 rfl) ?_
    refine lv_istore_n (lv' := [(3, .int (nI x)), (0, .int (nI x)), (1, .int (nI q)), (2, .int (nI 3))]) hx hb dX2_reachedPart_1 rfl hl (by decide) rfl (fun ls hl => ?_)
    refine lv_iload_n hx hb dX2_reachedPart_2 rfl (lv_at hl 3 rfl) ?_
    refine lv_istore (lv' := [(4, .int (nI 3)), (3, .int (nI x)), (0, .int (nI x)), (1, .int (nI q)), (2, .int (nI 3))]) hx hb dX2_reachedPart_3 hl (by decide) rfl (fun ls hl => ?_)
    refine lv_iload hx hb dX2_reachedPart_5 (lv_at hl 0 rfl) ?_
    refine lv_iconst (v := (nI 3)) hx hb dX2_reachedPart_7 (by decide) ?_
    refine lv_icmp_ge (tgt := 43) hx hb dX2_reachedPart_8 (by decide) (fun _ => ?_) (fun h9 => False.elim (by revert h9; decide))
    refine lv_iload_n hx hb dX2_reachedPart_43 rfl (lv_at hl 1 rfl) ?_
    exact ro_iret hx hb hr hlk dX2_reachedPart_44 (congrArg nI (by first | rfl | simp [k_red, k_fr]))

