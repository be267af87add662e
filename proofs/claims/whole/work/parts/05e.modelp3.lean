theorem c7_in_raw (l : Launch) (D : va_G) (tc : Nat → ClassId) (zb : Nat) (pp : Int32) (lo hi : Nat) (h2 : lo < 2 ^ 31) (h3 : hi < 2 ^ 31) : RO l yX7_in wsX7_in 0 0 D tc zb [] [.long pp.toInt64, .long (lN lo), .long (lN hi)] (.int (bI (decide (nI lo ≤ pp ∧ pp ≤ nI hi)))) := by
  have h := c7_in l D tc zb pp.toInt64 (lN lo) (lN hi)
  rw [show decide (lN lo ≤ pp.toInt64 ∧ pp.toInt64 ≤ lN hi) = decide (nI lo ≤ pp ∧ pp ≤ nI hi) from decide_eq_decide.mpr (by rw [← nI_l h2, ← nI_l h3, k_wide_le, k_wide_le])] at h
  exact h

set_option maxHeartbeats 4000000 in
set_option maxRecDepth 100000 in
theorem c7_isQuestion_raw (l : Launch) (D : va_G) (tc : Nat → ClassId) (zb : Nat) (pp : Int32)  : RO l yX7_isQuestion wsX7_isQuestion 1 25 D tc zb [] [.int (pp)] (.int (bI (decide (nI 0 ≤ pp ∧ pp ≤ nI 1330)))) := by
  refine RO.of (cc := cX7_isQuestion) (maxL := 1) (ret := (some .boolean)) (by decide) rfl (Nat.le_of_ble_eq_true rfl) ?_
  intro p e s m args below meth c hx hb hr hml hlk hts hown hM hS hP ls hl
  have hl : lv_has ls 1 [(0, .int (pp))] := hl
  refine lv_iload_n hx hb dX7_isQuestion_0 rfl (lv_at hl 0 rfl) ?_
  refine lv_i2l (v := ((pp)).toInt64) hx hb dX7_isQuestion_1 rfl ?_
  refine lv_lconst (v := (0 : Int64)) hx hb dX7_isQuestion_2 rfl ?_
  refine lv_ldc2 (v := (1330 : Int64)) hx hb hown (hts (.constantLong RX7 51 (1330)) (by decide +kernel)) dX7_isQuestion_3 ?_
  refine ro_S (n := 3) ⟨hx, hb, hml, hown, hts⟩ hM hS hP (c7_in_raw l D tc zb pp 0 1330 (by decide) (by decide)) gX7_isQuestion_X7_in rfl (by decide +kernel) ⟨Nat.le_of_ble_eq_true rfl, Nat.le_of_ble_eq_true rfl⟩ [] rfl rfl hl.1 rfl (Nat.le_of_ble_eq_true rfl) dX7_isQuestion_6 ⟨Nat.le_refl _, Nat.le_refl _⟩ ?_
  exact ro_zret hx hb hr hlk dX7_isQuestion_9 (rfl)
set_option maxHeartbeats 4000000 in
set_option maxRecDepth 100000 in
theorem c7_isJoin_raw (l : Launch) (D : va_G) (tc : Nat → ClassId) (zb : Nat) (pp p2 p3 p4 : Int32)  : RO l yX7_isJoin wsX7_isJoin 2 45 D tc zb [] [.int (pp), .int (p2), .int (p3), .int (p4)] (.int (bI (decide ((nI 0 ≤ pp ∧ pp ≤ nI 1330) ∧ (nI 0 ≤ p2 ∧ p2 ≤ nI 1330) ∧ (nI 0 ≤ p3 ∧ p3 ≤ nI 2) ∧ (nI 0 ≤ p4 ∧ p4 ≤ nI 2))))) := by
  refine RO.of (cc := cX7_isJoin) (maxL := 4) (ret := (some .boolean)) (by decide) rfl (Nat.le_of_ble_eq_true rfl) ?_
  intro p e s m args below meth c hx hb hr hml hlk hts hown hM hS hP ls hl
  have hl : lv_has ls 4 [(0, .int (pp)), (1, .int (p2)), (2, .int (p3)), (3, .int (p4))] := hl
  refine lv_iload_n hx hb dX7_isJoin_0 rfl (lv_at hl 0 rfl) ?_
  refine ro_S (n := 1) ⟨hx, hb, hml, hown, hts⟩ hM hS hP (c7_isQuestion_raw l D tc zb ((pp))) gX7_isJoin_X7_isQuestion rfl (by decide +kernel) ⟨Nat.le_of_ble_eq_true rfl, Nat.le_of_ble_eq_true rfl⟩ [] rfl rfl hl.1 rfl (Nat.le_of_ble_eq_true rfl) dX7_isJoin_1 ⟨Nat.le_refl _, Nat.le_refl _⟩ ?_
  refine ln_if_eqB (tgt := 42) hx hb dX7_isJoin_4 (by decide) (fun h1 => ?_) (fun h1 => ?_)
  · have h1 := of_decide_eq_false h1
    refine lv_iconst (v := (nI 0)) hx hb dX7_isJoin_42 (by decide) ?_
    exact ro_zret hx hb hr hlk dX7_isJoin_43 (show bI false = _ from congrArg bI (by first | exact (decide_eq_true ⟨by assumption, by assumption, by assumption, by assumption⟩).symm | exact (decide_eq_false (fun h9 => by first | exact absurd h9.1 (by assumption) | exact absurd h9.2.1 (by assumption) | exact absurd h9.2.2.1 (by assumption) | exact absurd h9.2.2.2 (by assumption))).symm))
  · have h1 := of_decide_eq_true h1
    refine lv_iload_n hx hb dX7_isJoin_7 rfl (lv_at hl 1 rfl) ?_
    refine ro_S (n := 1) ⟨hx, hb, hml, hown, hts⟩ hM hS hP (c7_isQuestion_raw l D tc zb ((p2))) gX7_isJoin_X7_isQuestion rfl (by decide +kernel) ⟨Nat.le_of_ble_eq_true rfl, Nat.le_of_ble_eq_true rfl⟩ [] rfl rfl hl.1 rfl (Nat.le_of_ble_eq_true rfl) dX7_isJoin_8 ⟨Nat.le_refl _, Nat.le_refl _⟩ ?_
    refine ln_if_eqB (tgt := 42) hx hb dX7_isJoin_11 (by decide) (fun h2 => ?_) (fun h2 => ?_)
    · have h2 := of_decide_eq_false h2
      refine lv_iconst (v := (nI 0)) hx hb dX7_isJoin_42 (by decide) ?_
      exact ro_zret hx hb hr hlk dX7_isJoin_43 (show bI false = _ from congrArg bI (by first | exact (decide_eq_true ⟨by assumption, by assumption, by assumption, by assumption⟩).symm | exact (decide_eq_false (fun h9 => by first | exact absurd h9.1 (by assumption) | exact absurd h9.2.1 (by assumption) | exact absurd h9.2.2.1 (by assumption) | exact absurd h9.2.2.2 (by assumption))).symm))
    · have h2 := of_decide_eq_true h2
      refine lv_iload_n hx hb dX7_isJoin_14 rfl (lv_at hl 2 rfl) ?_
      refine lv_i2l (v := ((p3)).toInt64) hx hb dX7_isJoin_15 rfl ?_
      refine lv_lconst (v := (0 : Int64)) hx hb dX7_isJoin_16 rfl ?_
      refine lv_ldc2 (v := (2 : Int64)) hx hb hown (hts (.constantLong RX7 119 (2)) (by decide +kernel)) dX7_isJoin_17 ?_
      refine ro_S (n := 3) ⟨hx, hb, hml, hown, hts⟩ hM hS hP (c7_in_raw l D tc zb p3 0 2 (by decide) (by decide)) gX7_isJoin_X7_in rfl (by decide +kernel) ⟨Nat.le_of_ble_eq_true rfl, Nat.le_of_ble_eq_true rfl⟩ [] rfl rfl hl.1 rfl (Nat.le_of_ble_eq_true rfl) dX7_isJoin_20 ⟨Nat.le_refl _, Nat.le_refl _⟩ ?_
      refine ln_if_eqB (tgt := 42) hx hb dX7_isJoin_23 (by decide) (fun h3 => ?_) (fun h3 => ?_)
      · have h3 := of_decide_eq_false h3
        refine lv_iconst (v := (nI 0)) hx hb dX7_isJoin_42 (by decide) ?_
        exact ro_zret hx hb hr hlk dX7_isJoin_43 (show bI false = _ from congrArg bI (by first | exact (decide_eq_true ⟨by assumption, by assumption, by assumption, by assumption⟩).symm | exact (decide_eq_false (fun h9 => by first | exact absurd h9.1 (by assumption) | exact absurd h9.2.1 (by assumption) | exact absurd h9.2.2.1 (by assumption) | exact absurd h9.2.2.2 (by assumption))).symm))
      · have h3 := of_decide_eq_true h3
        refine lv_iload_n hx hb dX7_isJoin_26 rfl (lv_at hl 3 rfl) ?_
        refine lv_i2l (v := ((p4)).toInt64) hx hb dX7_isJoin_27 rfl ?_
        refine lv_lconst (v := (0 : Int64)) hx hb dX7_isJoin_28 rfl ?_
        refine lv_ldc2 (v := (2 : Int64)) hx hb hown (hts (.constantLong RX7 119 (2)) (by decide +kernel)) dX7_isJoin_29 ?_
        refine ro_S (n := 3) ⟨hx, hb, hml, hown, hts⟩ hM hS hP (c7_in_raw l D tc zb p4 0 2 (by decide) (by decide)) gX7_isJoin_X7_in rfl (by decide +kernel) ⟨Nat.le_of_ble_eq_true rfl, Nat.le_of_ble_eq_true rfl⟩ [] rfl rfl hl.1 rfl (Nat.le_of_ble_eq_true rfl) dX7_isJoin_32 ⟨Nat.le_refl _, Nat.le_refl _⟩ ?_
        refine ln_if_eqB (tgt := 42) hx hb dX7_isJoin_35 (by decide) (fun h4 => ?_) (fun h4 => ?_)
        · have h4 := of_decide_eq_false h4
          refine lv_iconst (v := (nI 0)) hx hb dX7_isJoin_42 (by decide) ?_
          exact ro_zret hx hb hr hlk dX7_isJoin_43 (show bI false = _ from congrArg bI (by first | exact (decide_eq_true ⟨by assumption, by assumption, by assumption, by assumption⟩).symm | exact (decide_eq_false (fun h9 => by first | exact absurd h9.1 (by assumption) | exact absurd h9.2.1 (by assumption) | exact absurd h9.2.2.1 (by assumption) | exact absurd h9.2.2.2 (by assumption))).symm))
        · have h4 := of_decide_eq_true h4
          refine lv_iconst (v := (nI 1)) hx hb dX7_isJoin_38 (by decide) ?_
          refine lv_goto (tgt := 43) hx hb dX7_isJoin_39 (by decide) ?_
          exact ro_zret hx hb hr hlk dX7_isJoin_43 (show bI true = _ from congrArg bI (by first | exact (decide_eq_true ⟨by assumption, by assumption, by assumption, by assumption⟩).symm | exact (decide_eq_false (fun h9 => by first | exact absurd h9.1 (by assumption) | exact absurd h9.2.1 (by assumption) | exact absurd h9.2.2.1 (by assumption) | exact absurd h9.2.2.2 (by assumption))).symm))
set_option maxHeartbeats 4000000 in
set_option maxRecDepth 100000 in
theorem c7_isJoin_ok (l : Launch) (D : va_G) (tc : Nat → ClassId) (zb : Nat) (f9 s9 a9 b9 : Nat) (hf9 : f9 < 1331) (hs9 : s9 < 1331) (ha9 : a9 < 3) (hb9 : b9 < 3) : RO l yX7_isJoin wsX7_isJoin 2 45 D tc zb [] [.int (nI f9), .int (nI s9), .int (nI a9), .int (nI b9)] (.int (bI (true))) := by
  refine RO.of (cc := cX7_isJoin) (maxL := 4) (ret := (some .boolean)) (by decide) rfl (Nat.le_of_ble_eq_true rfl) ?_
  intro p e s m args below meth c hx hb hr hml hlk hts hown hM hS hP ls hl
  have hl : lv_has ls 4 [(0, .int (nI f9)), (1, .int (nI s9)), (2, .int (nI a9)), (3, .int (nI b9))] := hl
  refine lv_iload_n hx hb dX7_isJoin_0 rfl (lv_at hl 0 rfl) ?_
  refine ro_S (n := 1) ⟨hx, hb, hml, hown, hts⟩ hM hS hP (c7_isQuestion_ok l D tc zb f9 (by omega)) gX7_isJoin_X7_isQuestion rfl (by decide +kernel) ⟨Nat.le_of_ble_eq_true rfl, Nat.le_of_ble_eq_true rfl⟩ [] rfl rfl hl.1 rfl (Nat.le_of_ble_eq_true rfl) dX7_isJoin_1 ⟨Nat.le_refl _, Nat.le_refl _⟩ ?_
  refine lv_if_eq (tgt := 42) hx hb dX7_isJoin_4 (by decide) (fun h9 => False.elim (by revert h9; decide)) (fun _ => ?_)
  refine lv_iload_n hx hb dX7_isJoin_7 rfl (lv_at hl 1 rfl) ?_
  refine ro_S (n := 1) ⟨hx, hb, hml, hown, hts⟩ hM hS hP (c7_isQuestion_ok l D tc zb s9 (by omega)) gX7_isJoin_X7_isQuestion rfl (by decide +kernel) ⟨Nat.le_of_ble_eq_true rfl, Nat.le_of_ble_eq_true rfl⟩ [] rfl rfl hl.1 rfl (Nat.le_of_ble_eq_true rfl) dX7_isJoin_8 ⟨Nat.le_refl _, Nat.le_refl _⟩ ?_
  refine lv_if_eq (tgt := 42) hx hb dX7_isJoin_11 (by decide) (fun h9 => False.elim (by revert h9; decide)) (fun _ => ?_)
  refine lv_iload_n hx hb dX7_isJoin_14 rfl (lv_at hl 2 rfl) ?_
  refine lv_i2l (v := ((nI a9)).toInt64) hx hb dX7_isJoin_15 rfl ?_
  refine lv_lconst (v := (0 : Int64)) hx hb dX7_isJoin_16 rfl ?_
  refine lv_ldc2 (v := (2 : Int64)) hx hb hown (hts (.constantLong RX7 119 (2)) (by decide +kernel)) dX7_isJoin_17 ?_
  refine ro_S (n := 3) ⟨hx, hb, hml, hown, hts⟩ hM hS hP (c7_in_ok l D tc zb a9 0 2 (by omega) (by decide)) gX7_isJoin_X7_in rfl (by decide +kernel) ⟨Nat.le_of_ble_eq_true rfl, Nat.le_of_ble_eq_true rfl⟩ [] rfl rfl hl.1 rfl (Nat.le_of_ble_eq_true rfl) dX7_isJoin_20 ⟨Nat.le_refl _, Nat.le_refl _⟩ ?_
  refine lv_if_eq (tgt := 42) hx hb dX7_isJoin_23 (by decide) (fun h9 => False.elim (by revert h9; decide)) (fun _ => ?_)
  refine lv_iload_n hx hb dX7_isJoin_26 rfl (lv_at hl 3 rfl) ?_
  refine lv_i2l (v := ((nI b9)).toInt64) hx hb dX7_isJoin_27 rfl ?_
  refine lv_lconst (v := (0 : Int64)) hx hb dX7_isJoin_28 rfl ?_
  refine lv_ldc2 (v := (2 : Int64)) hx hb hown (hts (.constantLong RX7 119 (2)) (by decide +kernel)) dX7_isJoin_29 ?_
  refine ro_S (n := 3) ⟨hx, hb, hml, hown, hts⟩ hM hS hP (c7_in_ok l D tc zb b9 0 2 (by omega) (by decide)) gX7_isJoin_X7_in rfl (by decide +kernel) ⟨Nat.le_of_ble_eq_true rfl, Nat.le_of_ble_eq_true rfl⟩ [] rfl rfl hl.1 rfl (Nat.le_of_ble_eq_true rfl) dX7_isJoin_32 ⟨Nat.le_refl _, Nat.le_refl _⟩ ?_
  refine lv_if_eq (tgt := 42) hx hb dX7_isJoin_35 (by decide) (fun h9 => False.elim (by revert h9; decide)) (fun _ => ?_)
  refine lv_iconst (v := (nI 1)) hx hb dX7_isJoin_38 (by decide) ?_
  refine lv_goto (tgt := 43) hx hb dX7_isJoin_39 (by decide) ?_
  exact ro_zret hx hb hr hlk dX7_isJoin_43 (show bI true = _ from congrArg bI (by rfl))
set_option maxHeartbeats 4000000 in
set_option maxRecDepth 100000 in
theorem c7_bind (l : Launch) (D : va_G) (tc : Nat → ClassId) (zb : Nat) (x cc9 dd : Nat) (hx9 : x < 1331) (hc : cc9 < 3) (hd : dd < 10) : RO l yX7_bind wsX7_bind 1 21 D tc zb [] [.int (nI x), .int (nI cc9), .int (nI dd)] (.int (oI (k_bt x cc9 dd))) := by
  refine RO.of (cc := cX7_bind) (maxL := 5) (ret := (some .int)) (by decide) rfl (Nat.le_of_ble_eq_true rfl) ?_
  intro p e s m args below meth c hx hb hr hml hlk hts hown hM hS hP ls hl
  have hl : lv_has ls 5 [(0, .int (nI x)), (1, .int (nI cc9)), (2, .int (nI dd))] := hl
  rcases (show cc9 = 0 ∨ cc9 = 1 ∨ cc9 = 2 by omega) with rfl | rfl | rfl
  · refine lv_iload_n hx hb dX7_bind_0 rfl (lv_at hl 1 rfl) ?_
    refine lv_if_ne (tgt := 9) hx hb dX7_bind_1 (by decide) (fun h9 => False.elim (by revert h9; decide)) (fun _ => ?_)
    refine lv_bipush (v := (nI 121)) hx hb dX7_bind_4 (by decide) ?_
    refine lv_goto (tgt := 20) hx hb dX7_bind_6 (by decide) ?_
    refine lv_istore_n (lv' := [(3, .int (nI 121)), (0, .int (nI x)), (1, .int (nI 0)), (2, .int (nI dd))]) hx hb dX7_bind_20 rfl hl (by decide) rfl (fun ls hl => ?_)
    refine lv_iload_n hx hb dX7_bind_21 rfl (lv_at hl 1 rfl) ?_
    refine lv_iload_n hx hb dX7_bind_22 rfl (lv_at hl 2 rfl) ?_
    refine ro_S (n := 2) ⟨hx, hb, hml, hown, hts⟩ hM hS hP (c7_digitOf l D tc zb x 0 (by first | omega | exact ok5 _ (by omega)) (by first | omega | exact byf_lt _)) gX7_bind_X7_digitOf rfl (by decide +kernel) ⟨Nat.le_of_ble_eq_true rfl, Nat.le_of_ble_eq_true rfl⟩ [] rfl rfl hl.1 rfl (Nat.le_of_ble_eq_true rfl) dX7_bind_23 ⟨Nat.le_refl _, Nat.le_refl _⟩ ?_
    have hf1 := show k_dg x 0 ≤ 10 from k_dg_le (by first | omega | exact ok5 _ (by omega))
    refine lv_istore (lv' := [(4, .int (nI (k_dg x 0))), (3, .int (nI 121)), (0, .int (nI x)), (1, .int (nI 0)), (2, .int (nI dd))]) hx hb dX7_bind_26 hl (by decide) rfl (fun ls hl => ?_)
    refine lv_iload hx hb dX7_bind_28 (lv_at hl 0 rfl) ?_
    refine lv_bipush (v := (nI 10)) hx hb dX7_bind_30 (by decide) ?_
    refine ln_icmp_ne (tgt := 46) hx hb dX7_bind_32 (by decide) (by omega) (by decide) (fun h2 => ?_) (fun h2 => ?_)
    · refine lv_iload hx hb dX7_bind_46 (lv_at hl 0 rfl) ?_
      refine lv_iload_n hx hb dX7_bind_48 rfl (lv_at hl 4 rfl) ?_
      refine ln_icmp_ne (tgt := 56) hx hb dX7_bind_49 (by decide) (by omega) (by omega) (fun h3 => ?_) (fun h3 => ?_)
      · refine lv_iconst (v := (-1)) hx hb dX7_bind_56 (by decide) ?_
        exact ro_iret hx hb hr hlk dX7_bind_57 (show oI none = _ from congrArg oI (by unfold k_bt; (repeat' split) <;> first | rfl | (exfalso; omega)))
      · refine lv_iload_n hx hb dX7_bind_52 rfl (lv_at hl 2 rfl) ?_
        refine lv_goto (tgt := 57) hx hb dX7_bind_53 (by decide) ?_
        exact ro_iret hx hb hr hlk dX7_bind_57 (show oI (some x) = _ from congrArg oI (by unfold k_bt; (repeat' split) <;> first | rfl | (exfalso; omega)))
    · refine lv_iload_n hx hb dX7_bind_35 rfl (lv_at hl 2 rfl) ?_
      refine lv_iload_n hx hb dX7_bind_36 rfl (lv_at hl 1 rfl) ?_
      refine lv_iload_n hx hb dX7_bind_37 rfl (lv_at hl 4 rfl) ?_
      refine lv_bipush (v := (nI 10)) hx hb dX7_bind_38 (by decide) ?_
      refine ln_isubN hx hb dX7_bind_40 (by omega) ?_
      refine ln_imulN hx hb dX7_bind_41 ?_
      refine ln_iaddN hx hb dX7_bind_42 (by first | exact k_un10 (c := 0) (by omega) (by assumption) | exact k_un10 (c := 1) (by omega) (by assumption) | exact k_un10 (c := 2) (by omega) (by assumption)) ?_
      refine lv_goto (tgt := 57) hx hb dX7_bind_43 (by decide) ?_
      exact ro_iret hx hb hr hlk dX7_bind_57 (show oI (some (x - (121 * (10 - dd)))) = _ from congrArg oI (by unfold k_bt; (repeat' split) <;> first | rfl | (exfalso; omega)))
  · refine lv_iload_n hx hb dX7_bind_0 rfl (lv_at hl 1 rfl) ?_
    refine lv_if_ne (tgt := 9) hx hb dX7_bind_1 (by decide) (fun _ => ?_) (fun h9 => False.elim (by revert h9; decide))
    refine lv_iload_n hx hb dX7_bind_9 rfl (lv_at hl 1 rfl) ?_
    refine lv_iconst (v := (nI 1)) hx hb dX7_bind_10 (by decide) ?_
    refine lv_icmp_ne (tgt := 19) hx hb dX7_bind_11 (by decide) (fun h9 => False.elim (by revert h9; decide)) (fun _ => ?_)
    refine lv_bipush (v := (nI 11)) hx hb dX7_bind_14 (by decide) ?_
    refine lv_goto (tgt := 20) hx hb dX7_bind_16 (by decide) ?_
    refine lv_istore_n (lv' := [(3, .int (nI 11)), (0, .int (nI x)), (1, .int (nI 1)), (2, .int (nI dd))]) hx hb dX7_bind_20 rfl hl (by decide) rfl (fun ls hl => ?_)
    refine lv_iload_n hx hb dX7_bind_21 rfl (lv_at hl 1 rfl) ?_
    refine lv_iload_n hx hb dX7_bind_22 rfl (lv_at hl 2 rfl) ?_
    refine ro_S (n := 2) ⟨hx, hb, hml, hown, hts⟩ hM hS hP (c7_digitOf l D tc zb x 1 (by first | omega | exact ok5 _ (by omega)) (by first | omega | exact byf_lt _)) gX7_bind_X7_digitOf rfl (by decide +kernel) ⟨Nat.le_of_ble_eq_true rfl, Nat.le_of_ble_eq_true rfl⟩ [] rfl rfl hl.1 rfl (Nat.le_of_ble_eq_true rfl) dX7_bind_23 ⟨Nat.le_refl _, Nat.le_refl _⟩ ?_
    have hf4 := show k_dg x 1 ≤ 10 from k_dg_le (by first | omega | exact ok5 _ (by omega))
    refine lv_istore (lv' := [(4, .int (nI (k_dg x 1))), (3, .int (nI 11)), (0, .int (nI x)), (1, .int (nI 1)), (2, .int (nI dd))]) hx hb dX7_bind_26 hl (by decide) rfl (fun ls hl => ?_)
    refine lv_iload hx hb dX7_bind_28 (lv_at hl 0 rfl) ?_
    refine lv_bipush (v := (nI 10)) hx hb dX7_bind_30 (by decide) ?_
    refine ln_icmp_ne (tgt := 46) hx hb dX7_bind_32 (by decide) (by omega) (by decide) (fun h5 => ?_) (fun h5 => ?_)
    · refine lv_iload hx hb dX7_bind_46 (lv_at hl 0 rfl) ?_
      refine lv_iload_n hx hb dX7_bind_48 rfl (lv_at hl 4 rfl) ?_
      refine ln_icmp_ne (tgt := 56) hx hb dX7_bind_49 (by decide) (by omega) (by omega) (fun h6 => ?_) (fun h6 => ?_)
      · refine lv_iconst (v := (-1)) hx hb dX7_bind_56 (by decide) ?_
        exact ro_iret hx hb hr hlk dX7_bind_57 (show oI none = _ from congrArg oI (by unfold k_bt; (repeat' split) <;> first | rfl | (exfalso; omega)))
      · refine lv_iload_n hx hb dX7_bind_52 rfl (lv_at hl 2 rfl) ?_
        refine lv_goto (tgt := 57) hx hb dX7_bind_53 (by decide) ?_
        exact ro_iret hx hb hr hlk dX7_bind_57 (show oI (some x) = _ from congrArg oI (by unfold k_bt; (repeat' split) <;> first | rfl | (exfalso; omega)))
    · refine lv_iload_n hx hb dX7_bind_35 rfl (lv_at hl 2 rfl) ?_
      refine lv_iload_n hx hb dX7_bind_36 rfl (lv_at hl 1 rfl) ?_
      refine lv_iload_n hx hb dX7_bind_37 rfl (lv_at hl 4 rfl) ?_
      refine lv_bipush (v := (nI 10)) hx hb dX7_bind_38 (by decide) ?_
      refine ln_isubN hx hb dX7_bind_40 (by omega) ?_
      refine ln_imulN hx hb dX7_bind_41 ?_
      refine ln_iaddN hx hb dX7_bind_42 (by first | exact k_un10 (c := 0) (by omega) (by assumption) | exact k_un10 (c := 1) (by omega) (by assumption) | exact k_un10 (c := 2) (by omega) (by assumption)) ?_
      refine lv_goto (tgt := 57) hx hb dX7_bind_43 (by decide) ?_
      exact ro_iret hx hb hr hlk dX7_bind_57 (show oI (some (x - (11 * (10 - dd)))) = _ from congrArg oI (by unfold k_bt; (repeat' split) <;> first | rfl | (exfalso; omega)))
  · refine lv_iload_n hx hb dX7_bind_0 rfl (lv_at hl 1 rfl) ?_
    refine lv_if_ne (tgt := 9) hx hb dX7_bind_1 (by decide) (fun _ => ?_) (fun h9 => False.elim (by revert h9; decide))
    refine lv_iload_n hx hb dX7_bind_9 rfl (lv_at hl 1 rfl) ?_
    refine lv_iconst (v := (nI 1)) hx hb dX7_bind_10 (by decide) ?_
    refine lv_icmp_ne (tgt := 19) hx hb dX7_bind_11 (by decide) (fun _ => ?_) (fun h9 => False.elim (by revert h9; decide))
    refine lv_iconst (v := (nI 1)) hx hb dX7_bind_19 (by decide) ?_
    refine lv_istore_n (lv' := [(3, .int (nI 1)), (0, .int (nI x)), (1, .int (nI 2)), (2, .int (nI dd))]) hx hb dX7_bind_20 rfl hl (by decide) rfl (fun ls hl => ?_)
    refine lv_iload_n hx hb dX7_bind_21 rfl (lv_at hl 1 rfl) ?_
    refine lv_iload_n hx hb dX7_bind_22 rfl (lv_at hl 2 rfl) ?_
    refine ro_S (n := 2) ⟨hx, hb, hml, hown, hts⟩ hM hS hP (c7_digitOf l D tc zb x 2 (by first | omega | exact ok5 _ (by omega)) (by first | omega | exact byf_lt _)) gX7_bind_X7_digitOf rfl (by decide +kernel) ⟨Nat.le_of_ble_eq_true rfl, Nat.le_of_ble_eq_true rfl⟩ [] rfl rfl hl.1 rfl (Nat.le_of_ble_eq_true rfl) dX7_bind_23 ⟨Nat.le_refl _, Nat.le_refl _⟩ ?_
    have hf7 := show k_dg x 2 ≤ 10 from k_dg_le (by first | omega | exact ok5 _ (by omega))
    refine lv_istore (lv' := [(4, .int (nI (k_dg x 2))), (3, .int (nI 1)), (0, .int (nI x)), (1, .int (nI 2)), (2, .int (nI dd))]) hx hb dX7_bind_26 hl (by decide) rfl (fun ls hl => ?_)
    refine lv_iload hx hb dX7_bind_28 (lv_at hl 0 rfl) ?_
    refine lv_bipush (v := (nI 10)) hx hb dX7_bind_30 (by decide) ?_
    refine ln_icmp_ne (tgt := 46) hx hb dX7_bind_32 (by decide) (by omega) (by decide) (fun h8 => ?_) (fun h8 => ?_)
    · refine lv_iload hx hb dX7_bind_46 (lv_at hl 0 rfl) ?_
      refine lv_iload_n hx hb dX7_bind_48 rfl (lv_at hl 4 rfl) ?_
      refine ln_icmp_ne (tgt := 56) hx hb dX7_bind_49 (by decide) (by omega) (by omega) (fun h9 => ?_) (fun h9 => ?_)
      · refine lv_iconst (v := (-1)) hx hb dX7_bind_56 (by decide) ?_
        exact ro_iret hx hb hr hlk dX7_bind_57 (show oI none = _ from congrArg oI (by unfold k_bt; (repeat' split) <;> first | rfl | (exfalso; omega)))
      · refine lv_iload_n hx hb dX7_bind_52 rfl (lv_at hl 2 rfl) ?_
        refine lv_goto (tgt := 57) hx hb dX7_bind_53 (by decide) ?_
        exact ro_iret hx hb hr hlk dX7_bind_57 (show oI (some x) = _ from congrArg oI (by unfold k_bt; (repeat' split) <;> first | rfl | (exfalso; omega)))
    · refine lv_iload_n hx hb dX7_bind_35 rfl (lv_at hl 2 rfl) ?_
      refine lv_iload_n hx hb dX7_bind_36 rfl (lv_at hl 1 rfl) ?_
      refine lv_iload_n hx hb dX7_bind_37 rfl (lv_at hl 4 rfl) ?_
      refine lv_bipush (v := (nI 10)) hx hb dX7_bind_38 (by decide) ?_
      refine ln_isubN hx hb dX7_bind_40 (by omega) ?_
      refine ln_imulN hx hb dX7_bind_41 ?_
      refine ln_iaddN hx hb dX7_bind_42 (by first | exact k_un10 (c := 0) (by omega) (by assumption) | exact k_un10 (c := 1) (by omega) (by assumption) | exact k_un10 (c := 2) (by omega) (by assumption)) ?_
      refine lv_goto (tgt := 57) hx hb dX7_bind_43 (by decide) ?_
      exact ro_iret hx hb hr hlk dX7_bind_57 (show oI (some (x - (1 * (10 - dd)))) = _ from congrArg oI (by unfold k_bt; (repeat' split) <;> first | rfl | (exfalso; omega)))
set_option maxHeartbeats 4000000 in
set_option maxRecDepth 100000 in
theorem c7_mergedBy (l : Launch) (D : va_G) (tc : Nat → ClassId) (zb : Nat) (b b1 : Nat) (o : Nat → Value) (g : Nat → Nat) (x cc9 : Nat) (hk : k_ok g) (hx9 : x < 1331) (hc : cc9 < 3) : RO l yX7_mergedBy wsX7_mergedBy 5 111 D tc zb (w_ms tc b b1 o g) [.ref b, .int (nI x), .int (nI cc9)] (.int (oI (k_ms g x cc9 6))) := by
  refine RO.of (cc := cX7_mergedBy) (maxL := 8) (ret := (some .int)) (by decide) rfl (Nat.le_of_ble_eq_true rfl) ?_
  intro p e s m args below meth c hx hb hr hml hlk hts hown hM hS hP ls hl
  have hl : lv_has ls 8 [(0, .ref b), (1, .int (nI x)), (2, .int (nI cc9))] := hl
  have hinX7 : ∀ w ∈ u_ws RX7 TX7 9, w ∈ wsX7_mergedBy := by decide +kernel
  obtain ⟨ok0, ok1, ok2, ok3, ok4, ok5, ok6⟩ := id hk
  refine lv_iconst (v := (-1)) hx hb dX7_mergedBy_0 (by decide) ?_
  refine lv_istore_n (lv' := [(3, .int (-1)), (0, .ref b), (1, .int (nI x)), (2, .int (nI cc9))]) hx hb dX7_mergedBy_1 rfl hl (by decide) rfl (fun ls hl => ?_)
  refine lv_iconst (v := (nI 0)) hx hb dX7_mergedBy_2 (by decide) ?_
  refine lv_istore (lv' := [(4, .int (nI 0)), (3, .int (-1)), (0, .ref b), (1, .int (nI x)), (2, .int (nI cc9))]) hx hb dX7_mergedBy_3 hl (by decide) rfl (fun ls hl => ?_)
  have lp5 : ∀ (n9 : Nat) (lo9 : Option Nat) (i : Nat), (6 - i) < n9 → (i ≤ 6) → (lo9 = k_ms g x cc9 i) → ∀ ls : Array Slot, lv_has ls 8 [(4, .int (nI i)), (3, .int (oI (lo9))), (0, .ref b), (1, .int (nI x)), (2, .int (nI cc9))] → W p l e ({ frames := 5, cells := 0, slots := 0, locals := 111 } : Room) s m args below meth c s.heap [] 0 0 (MQ below (roQ (.int (oI (k_ms g x cc9 6)))) args s 0 0 (fun _ => False)) (F0 m 5 ls []) := by
    intro n9
    induction n9 with
    | zero => intro lo9 i hmu; exact absurd hmu (Nat.not_lt_zero _)
    | succ n9 ih5 =>
      intro lo9 i hmu hi hv ls hl
      refine lv_iload hx hb dX7_mergedBy_5 (lv_at hl 0 rfl) ?_
      refine lv_bipush (v := (nI 6)) hx hb dX7_mergedBy_7 (by decide) ?_
      refine ln_icmp_ge (tgt := 115) hx hb dX7_mergedBy_9 (by decide) (by omega) (by decide) (fun h1 => ?_) (fun h1 => ?_)
      · refine lv_iload_n hx hb dX7_mergedBy_115 rfl (lv_at hl 1 rfl) ?_
        exact ro_iret hx hb hr hlk dX7_mergedBy_116 (congrArg oI (by have e9 : i = 6 := (by omega); subst e9; exact hv))
      · refine lv_iload_n hx hb dX7_mergedBy_12 rfl (lv_at hl 3 rfl) ?_
        refine lv_iload hx hb dX7_mergedBy_13 (lv_at hl 0 rfl) ?_
        refine ro_S (n := 2) ⟨hx, hb, hml, hown, hts⟩ hM hS hP (c7_reachOf l D tc zb x i (by first | omega | exact ok5 _ (by omega)) (by omega)) gX7_mergedBy_X7_reachOf rfl (by decide +kernel) ⟨Nat.le_of_ble_eq_true rfl, Nat.le_of_ble_eq_true rfl⟩ [] rfl rfl hl.1 rfl (Nat.le_of_ble_eq_true rfl) dX7_mergedBy_15 ⟨Nat.le_refl _, Nat.le_refl _⟩ ?_
        have hf2 := k_rch_le x i
        refine lv_istore (lv' := [(5, .int (nI (k_rch x i))), (4, .int (nI i)), (3, .int (oI (lo9))), (0, .ref b), (1, .int (nI x)), (2, .int (nI cc9))]) hx hb dX7_mergedBy_18 hl (by decide) rfl (fun ls hl => ?_)
        refine lv_aload_n hx hb dX7_mergedBy_20 rfl (lv_at hl 3 rfl) ?_
        refine va_get (D := D) (ci := 6) (v := .ref b1) (C := RX7) (T := TX7) (N := 9) hx hb hts hinX7 hown hM.1 hP 0 rfl rfl 1 (by decide) (hts (.fieldLink RX7 7 "TripleWaysModel" "s" "[I") (by decide +kernel)) (fun _ h9 => h9) rfl dX7_mergedBy_21 ?_
        refine lv_bipush (v := (nI 41)) hx hb dX7_mergedBy_24 (by decide) ?_
        refine ln_iald hx hb hM.1 hP 1 0 rfl rfl dX7_mergedBy_26 (by decide) (by omega) (rfl) ?_
        refine lv_iload hx hb dX7_mergedBy_27 (lv_at hl 1 rfl) ?_
        refine ro_S (n := 2) ⟨hx, hb, hml, hown, hts⟩ hM hS hP (c7_isIn l D tc zb (g 41) i (by omega) (by omega)) gX7_mergedBy_X7_isIn rfl (by decide +kernel) ⟨Nat.le_of_ble_eq_true rfl, Nat.le_of_ble_eq_true rfl⟩ [] rfl rfl hl.1 rfl (Nat.le_of_ble_eq_true rfl) dX7_mergedBy_29 ⟨Nat.le_refl _, Nat.le_refl _⟩ ?_
        refine ln_if_eqB (tgt := 65) hx hb dX7_mergedBy_32 (by decide) (fun h3 => ?_) (fun h3 => ?_)
        · refine lv_iconst (v := (nI 0)) hx hb dX7_mergedBy_65 (by decide) ?_
          refine lv_istore (lv' := [(6, .int (nI 0)), (5, .int (nI (k_rch x i))), (4, .int (nI i)), (3, .int (oI (lo9))), (0, .ref b), (1, .int (nI x)), (2, .int (nI cc9))]) hx hb dX7_mergedBy_66 hl (by decide) rfl (fun ls hl => ?_)
          refine lv_iload hx hb dX7_mergedBy_68 (lv_at hl 0 rfl) ?_
          refine lv_if_eq (tgt := 83) hx hb dX7_mergedBy_70 (by decide) (fun _ => ?_) (fun h9 => False.elim (by revert h9; decide))
          refine lv_iconst (v := (nI 0)) hx hb dX7_mergedBy_83 (by decide) ?_
          refine lv_istore (lv' := [(7, .int (nI 0)), (6, .int (nI 0)), (5, .int (nI (k_rch x i))), (4, .int (nI i)), (3, .int (oI (lo9))), (0, .ref b), (1, .int (nI x)), (2, .int (nI cc9))]) hx hb dX7_mergedBy_84 hl (by decide) rfl (fun ls hl => ?_)
          refine lv_iload hx hb dX7_mergedBy_86 (lv_at hl 1 rfl) ?_
          refine lv_if_eq (tgt := 107) hx hb dX7_mergedBy_88 (by decide) (fun _ => ?_) (fun h9 => False.elim (by revert h9; decide))
          refine lv_iload_n hx hb dX7_mergedBy_107 rfl (lv_at hl 4 rfl) ?_
          refine lv_istore_n (lv' := [(3, .int (oI (lo9))), (7, .int (nI 0)), (6, .int (nI 0)), (5, .int (nI (k_rch x i))), (4, .int (nI i)), (0, .ref b), (1, .int (nI x)), (2, .int (nI cc9))]) hx hb dX7_mergedBy_108 rfl hl (by decide) rfl (fun ls hl => ?_)
          refine lv_iinc (v := (nI (i + 1))) (lv' := [(4, .int (nI (i + 1))), (3, .int (oI (lo9))), (7, .int (nI 0)), (6, .int (nI 0)), (5, .int (nI (k_rch x i))), (0, .ref b), (1, .int (nI x)), (2, .int (nI cc9))]) hx hb dX7_mergedBy_109 hl (k := 4) rfl (nI_add i 1) (by decide) rfl (fun ls hl => ?_)
          refine lv_goto (tgt := 5) hx hb dX7_mergedBy_112 (by decide) ?_
          exact ih5 lo9 (i + 1) (by omega) (by omega) (by first | ((have hsb : k_sb x i cc9 = true := decide_eq_true ⟨by omega, by omega, by omega⟩); rw [k_ms, if_pos ⟨by assumption, hsb⟩, ← hv]; done) | ((have hsb : k_sb x i cc9 = true := decide_eq_true ⟨by omega, by omega, by omega⟩); rw [k_ms, if_pos ⟨by assumption, hsb⟩, ← hv]; exact congrArg some (by omega)) | (rw [k_ms, if_neg (fun h9 => by have h8 := h9.1; have h7 : _ ∧ _ ∧ _ := of_decide_eq_true h9.2; first | omega | (simp_all; done))]; exact hv)) _ (lv_sub hl [0, 1, 5, 6, 7] rfl)
        · refine lv_iload hx hb dX7_mergedBy_35 (lv_at hl 0 rfl) ?_
          refine lv_iload_n hx hb dX7_mergedBy_37 rfl (lv_at hl 4 rfl) ?_
          refine ro_S (n := 1) ⟨hx, hb, hml, hown, hts⟩ hM hS hP (c7_boundOf l D tc zb x (by first | omega | exact ok5 _ (by omega))) gX7_mergedBy_X7_boundOf rfl (by decide +kernel) ⟨Nat.le_of_ble_eq_true rfl, Nat.le_of_ble_eq_true rfl⟩ [] rfl rfl hl.1 rfl (Nat.le_of_ble_eq_true rfl) dX7_mergedBy_38 ⟨Nat.le_refl _, Nat.le_refl _⟩ ?_
          have hf4 := k_bnd_le x
          refine ln_icmp_ne (tgt := 65) hx hb dX7_mergedBy_41 (by decide) (by omega) (by omega) (fun h5 => ?_) (fun h5 => ?_)
          · refine lv_iconst (v := (nI 0)) hx hb dX7_mergedBy_65 (by decide) ?_
            refine lv_istore (lv' := [(6, .int (nI 0)), (5, .int (nI (k_rch x i))), (4, .int (nI i)), (3, .int (oI (lo9))), (0, .ref b), (1, .int (nI x)), (2, .int (nI cc9))]) hx hb dX7_mergedBy_66 hl (by decide) rfl (fun ls hl => ?_)
            refine lv_iload hx hb dX7_mergedBy_68 (lv_at hl 0 rfl) ?_
            refine lv_if_eq (tgt := 83) hx hb dX7_mergedBy_70 (by decide) (fun _ => ?_) (fun h9 => False.elim (by revert h9; decide))
            refine lv_iconst (v := (nI 0)) hx hb dX7_mergedBy_83 (by decide) ?_
            refine lv_istore (lv' := [(7, .int (nI 0)), (6, .int (nI 0)), (5, .int (nI (k_rch x i))), (4, .int (nI i)), (3, .int (oI (lo9))), (0, .ref b), (1, .int (nI x)), (2, .int (nI cc9))]) hx hb dX7_mergedBy_84 hl (by decide) rfl (fun ls hl => ?_)
            refine lv_iload hx hb dX7_mergedBy_86 (lv_at hl 1 rfl) ?_
            refine lv_if_eq (tgt := 107) hx hb dX7_mergedBy_88 (by decide) (fun _ => ?_) (fun h9 => False.elim (by revert h9; decide))
            refine lv_iload_n hx hb dX7_mergedBy_107 rfl (lv_at hl 4 rfl) ?_
            refine lv_istore_n (lv' := [(3, .int (oI (lo9))), (7, .int (nI 0)), (6, .int (nI 0)), (5, .int (nI (k_rch x i))), (4, .int (nI i)), (0, .ref b), (1, .int (nI x)), (2, .int (nI cc9))]) hx hb dX7_mergedBy_108 rfl hl (by decide) rfl (fun ls hl => ?_)
            refine lv_iinc (v := (nI (i + 1))) (lv' := [(4, .int (nI (i + 1))), (3, .int (oI (lo9))), (7, .int (nI 0)), (6, .int (nI 0)), (5, .int (nI (k_rch x i))), (0, .ref b), (1, .int (nI x)), (2, .int (nI cc9))]) hx hb dX7_mergedBy_109 hl (k := 4) rfl (nI_add i 1) (by decide) rfl (fun ls hl => ?_)
            refine lv_goto (tgt := 5) hx hb dX7_mergedBy_112 (by decide) ?_
            exact ih5 lo9 (i + 1) (by omega) (by omega) (by first | ((have hsb : k_sb x i cc9 = true := decide_eq_true ⟨by omega, by omega, by omega⟩); rw [k_ms, if_pos ⟨by assumption, hsb⟩, ← hv]; done) | ((have hsb : k_sb x i cc9 = true := decide_eq_true ⟨by omega, by omega, by omega⟩); rw [k_ms, if_pos ⟨by assumption, hsb⟩, ← hv]; exact congrArg some (by omega)) | (rw [k_ms, if_neg (fun h9 => by have h8 := h9.1; have h7 : _ ∧ _ ∧ _ := of_decide_eq_true h9.2; first | omega | (simp_all; done))]; exact hv)) _ (lv_sub hl [0, 1, 5, 6, 7] rfl)
          · refine lv_iload hx hb dX7_mergedBy_44 (lv_at hl 0 rfl) ?_
            refine lv_iconst (v := (nI 3)) hx hb dX7_mergedBy_46 (by decide) ?_
            refine ln_icmp_ge (tgt := 65) hx hb dX7_mergedBy_47 (by decide) (by omega) (by decide) (fun h6 => ?_) (fun h6 => ?_)
            · refine lv_iconst (v := (nI 0)) hx hb dX7_mergedBy_65 (by decide) ?_
              refine lv_istore (lv' := [(6, .int (nI 0)), (5, .int (nI (k_rch x i))), (4, .int (nI i)), (3, .int (oI (lo9))), (0, .ref b), (1, .int (nI x)), (2, .int (nI cc9))]) hx hb dX7_mergedBy_66 hl (by decide) rfl (fun ls hl => ?_)
              refine lv_iload hx hb dX7_mergedBy_68 (lv_at hl 0 rfl) ?_
              refine lv_if_eq (tgt := 83) hx hb dX7_mergedBy_70 (by decide) (fun _ => ?_) (fun h9 => False.elim (by revert h9; decide))
              refine lv_iconst (v := (nI 0)) hx hb dX7_mergedBy_83 (by decide) ?_
              refine lv_istore (lv' := [(7, .int (nI 0)), (6, .int (nI 0)), (5, .int (nI (k_rch x i))), (4, .int (nI i)), (3, .int (oI (lo9))), (0, .ref b), (1, .int (nI x)), (2, .int (nI cc9))]) hx hb dX7_mergedBy_84 hl (by decide) rfl (fun ls hl => ?_)
              refine lv_iload hx hb dX7_mergedBy_86 (lv_at hl 1 rfl) ?_
              refine lv_if_eq (tgt := 107) hx hb dX7_mergedBy_88 (by decide) (fun _ => ?_) (fun h9 => False.elim (by revert h9; decide))
              refine lv_iload_n hx hb dX7_mergedBy_107 rfl (lv_at hl 4 rfl) ?_
              refine lv_istore_n (lv' := [(3, .int (oI (lo9))), (7, .int (nI 0)), (6, .int (nI 0)), (5, .int (nI (k_rch x i))), (4, .int (nI i)), (0, .ref b), (1, .int (nI x)), (2, .int (nI cc9))]) hx hb dX7_mergedBy_108 rfl hl (by decide) rfl (fun ls hl => ?_)
              refine lv_iinc (v := (nI (i + 1))) (lv' := [(4, .int (nI (i + 1))), (3, .int (oI (lo9))), (7, .int (nI 0)), (6, .int (nI 0)), (5, .int (nI (k_rch x i))), (0, .ref b), (1, .int (nI x)), (2, .int (nI cc9))]) hx hb dX7_mergedBy_109 hl (k := 4) rfl (nI_add i 1) (by decide) rfl (fun ls hl => ?_)
              refine lv_goto (tgt := 5) hx hb dX7_mergedBy_112 (by decide) ?_
              exact ih5 lo9 (i + 1) (by omega) (by omega) (by first | ((have hsb : k_sb x i cc9 = true := decide_eq_true ⟨by omega, by omega, by omega⟩); rw [k_ms, if_pos ⟨by assumption, hsb⟩, ← hv]; done) | ((have hsb : k_sb x i cc9 = true := decide_eq_true ⟨by omega, by omega, by omega⟩); rw [k_ms, if_pos ⟨by assumption, hsb⟩, ← hv]; exact congrArg some (by omega)) | (rw [k_ms, if_neg (fun h9 => by have h8 := h9.1; have h7 : _ ∧ _ ∧ _ := of_decide_eq_true h9.2; first | omega | (simp_all; done))]; exact hv)) _ (lv_sub hl [0, 1, 5, 6, 7] rfl)
            · refine lv_iload hx hb dX7_mergedBy_50 (lv_at hl 1 rfl) ?_
              refine lv_iload hx hb dX7_mergedBy_52 (lv_at hl 0 rfl) ?_
              refine ro_S (n := 2) ⟨hx, hb, hml, hown, hts⟩ hM hS hP (c7_compared l D tc zb i (k_rch x i) (by omega) (by omega)) gX7_mergedBy_X7_compared rfl (by decide +kernel) ⟨Nat.le_of_ble_eq_true rfl, Nat.le_of_ble_eq_true rfl⟩ [] rfl rfl hl.1 rfl (Nat.le_of_ble_eq_true rfl) dX7_mergedBy_54 ⟨Nat.le_refl _, Nat.le_refl _⟩ ?_
              have hf7 := byf_lt (3 * i + (k_rch x i))
              refine lv_iload_n hx hb dX7_mergedBy_57 rfl (lv_at hl 5 rfl) ?_
              refine ln_icmp_ne (tgt := 65) hx hb dX7_mergedBy_58 (by decide) (by omega) (by omega) (fun h8 => ?_) (fun h8 => ?_)
              · refine lv_iconst (v := (nI 0)) hx hb dX7_mergedBy_65 (by decide) ?_
                refine lv_istore (lv' := [(6, .int (nI 0)), (5, .int (nI (k_rch x i))), (4, .int (nI i)), (3, .int (oI (lo9))), (0, .ref b), (1, .int (nI x)), (2, .int (nI cc9))]) hx hb dX7_mergedBy_66 hl (by decide) rfl (fun ls hl => ?_)
                refine lv_iload hx hb dX7_mergedBy_68 (lv_at hl 0 rfl) ?_
                refine lv_if_eq (tgt := 83) hx hb dX7_mergedBy_70 (by decide) (fun _ => ?_) (fun h9 => False.elim (by revert h9; decide))
                refine lv_iconst (v := (nI 0)) hx hb dX7_mergedBy_83 (by decide) ?_
                refine lv_istore (lv' := [(7, .int (nI 0)), (6, .int (nI 0)), (5, .int (nI (k_rch x i))), (4, .int (nI i)), (3, .int (oI (lo9))), (0, .ref b), (1, .int (nI x)), (2, .int (nI cc9))]) hx hb dX7_mergedBy_84 hl (by decide) rfl (fun ls hl => ?_)
                refine lv_iload hx hb dX7_mergedBy_86 (lv_at hl 1 rfl) ?_
                refine lv_if_eq (tgt := 107) hx hb dX7_mergedBy_88 (by decide) (fun _ => ?_) (fun h9 => False.elim (by revert h9; decide))
                refine lv_iload_n hx hb dX7_mergedBy_107 rfl (lv_at hl 4 rfl) ?_
                refine lv_istore_n (lv' := [(3, .int (oI (lo9))), (7, .int (nI 0)), (6, .int (nI 0)), (5, .int (nI (k_rch x i))), (4, .int (nI i)), (0, .ref b), (1, .int (nI x)), (2, .int (nI cc9))]) hx hb dX7_mergedBy_108 rfl hl (by decide) rfl (fun ls hl => ?_)
                refine lv_iinc (v := (nI (i + 1))) (lv' := [(4, .int (nI (i + 1))), (3, .int (oI (lo9))), (7, .int (nI 0)), (6, .int (nI 0)), (5, .int (nI (k_rch x i))), (0, .ref b), (1, .int (nI x)), (2, .int (nI cc9))]) hx hb dX7_mergedBy_109 hl (k := 4) rfl (nI_add i 1) (by decide) rfl (fun ls hl => ?_)
                refine lv_goto (tgt := 5) hx hb dX7_mergedBy_112 (by decide) ?_
                exact ih5 lo9 (i + 1) (by omega) (by omega) (by first | ((have hsb : k_sb x i cc9 = true := decide_eq_true ⟨by omega, by omega, by omega⟩); rw [k_ms, if_pos ⟨by assumption, hsb⟩, ← hv]; done) | ((have hsb : k_sb x i cc9 = true := decide_eq_true ⟨by omega, by omega, by omega⟩); rw [k_ms, if_pos ⟨by assumption, hsb⟩, ← hv]; exact congrArg some (by omega)) | (rw [k_ms, if_neg (fun h9 => by have h8 := h9.1; have h7 : _ ∧ _ ∧ _ := of_decide_eq_true h9.2; first | omega | (simp_all; done))]; exact hv)) _ (lv_sub hl [0, 1, 5, 6, 7] rfl)
              · refine lv_iconst (v := (nI 1)) hx hb dX7_mergedBy_61 (by decide) ?_
                refine lv_goto (tgt := 66) hx hb dX7_mergedBy_62 (by decide) ?_
                refine lv_istore (lv' := [(6, .int (nI 1)), (5, .int (nI (k_rch x i))), (4, .int (nI i)), (3, .int (oI (lo9))), (0, .ref b), (1, .int (nI x)), (2, .int (nI cc9))]) hx hb dX7_mergedBy_66 hl (by decide) rfl (fun ls hl => ?_)
                refine lv_iload hx hb dX7_mergedBy_68 (lv_at hl 0 rfl) ?_
                refine lv_if_eq (tgt := 83) hx hb dX7_mergedBy_70 (by decide) (fun h9 => False.elim (by revert h9; decide)) (fun _ => ?_)
                refine lv_aload_n hx hb dX7_mergedBy_73 rfl (lv_at hl 4 rfl) ?_
                refine lv_iload_n hx hb dX7_mergedBy_74 rfl (lv_at hl 5 rfl) ?_
                refine lv_iload hx hb dX7_mergedBy_75 (lv_at hl 2 rfl) ?_
                refine ro_V (C := RX7) (n := 2) ⟨hx, hb, hml, hown, hts⟩ hM hS hP (c7_costBy l D tc zb b b1 o g x i hk (by first | omega | exact ok5 _ (by omega)) (by omega)) gX7_mergedBy_X7_costBy rfl (by decide +kernel) ⟨Nat.le_of_ble_eq_true rfl, Nat.le_of_ble_eq_true rfl⟩ [0, 1] rfl (va_recv hM.1 hP (ci := 6) (q0 := 0) rfl rfl) rfl hl.1 rfl (Nat.le_of_ble_eq_true rfl) dX7_mergedBy_77 ⟨Nat.le_refl _, Nat.le_refl _⟩ ?_
                have hf9 := k_cb_le g x i
                refine lv_goto (tgt := 84) hx hb dX7_mergedBy_80 (by decide) ?_
                refine lv_istore (lv' := [(7, .int (nI (k_cb g x i))), (6, .int (nI 1)), (5, .int (nI (k_rch x i))), (4, .int (nI i)), (3, .int (oI (lo9))), (0, .ref b), (1, .int (nI x)), (2, .int (nI cc9))]) hx hb dX7_mergedBy_84 hl (by decide) rfl (fun ls hl => ?_)
                refine lv_iload hx hb dX7_mergedBy_86 (lv_at hl 1 rfl) ?_
                refine lv_if_eq (tgt := 107) hx hb dX7_mergedBy_88 (by decide) (fun h9 => False.elim (by revert h9; decide)) (fun _ => ?_)
                cases lo9 with
                | none =>
                  have hl : lv_has ls 8 [(7, .int (nI (k_cb g x i))), (6, .int (nI 1)), (5, .int (nI (k_rch x i))), (4, .int (nI i)), (3, .int (-1)), (0, .ref b), (1, .int (nI x)), (2, .int (nI cc9))] := hl
                  refine lv_iload_n hx hb dX7_mergedBy_91 rfl (lv_at hl 4 rfl) ?_
                  refine lv_iconst (v := (-1)) hx hb dX7_mergedBy_92 (by decide) ?_
                  refine lv_icmp_eq (tgt := 102) hx hb dX7_mergedBy_93 (by decide) (fun _ => ?_) (fun h9 => False.elim (by revert h9; decide))
                  refine lv_iload hx hb dX7_mergedBy_102 (lv_at hl 0 rfl) ?_
                  refine lv_goto (tgt := 108) hx hb dX7_mergedBy_104 (by decide) ?_
                  refine lv_istore_n (lv' := [(3, .int (nI (k_cb g x i))), (7, .int (nI (k_cb g x i))), (6, .int (nI 1)), (5, .int (nI (k_rch x i))), (4, .int (nI i)), (0, .ref b), (1, .int (nI x)), (2, .int (nI cc9))]) hx hb dX7_mergedBy_108 rfl hl (by decide) rfl (fun ls hl => ?_)
                  refine lv_iinc (v := (nI (i + 1))) (lv' := [(4, .int (nI (i + 1))), (3, .int (nI (k_cb g x i))), (7, .int (nI (k_cb g x i))), (6, .int (nI 1)), (5, .int (nI (k_rch x i))), (0, .ref b), (1, .int (nI x)), (2, .int (nI cc9))]) hx hb dX7_mergedBy_109 hl (k := 4) rfl (nI_add i 1) (by decide) rfl (fun ls hl => ?_)
                  refine lv_goto (tgt := 5) hx hb dX7_mergedBy_112 (by decide) ?_
                  exact ih5 (some (k_cb g x i)) (i + 1) (by omega) (by omega) (by first | ((have hsb : k_sb x i cc9 = true := decide_eq_true ⟨by omega, by omega, by omega⟩); rw [k_ms, if_pos ⟨by assumption, hsb⟩, ← hv]; done) | ((have hsb : k_sb x i cc9 = true := decide_eq_true ⟨by omega, by omega, by omega⟩); rw [k_ms, if_pos ⟨by assumption, hsb⟩, ← hv]; exact congrArg some (by omega)) | (rw [k_ms, if_neg (fun h9 => by have h8 := h9.1; have h7 : _ ∧ _ ∧ _ := of_decide_eq_true h9.2; first | omega | (simp_all; done))]; exact hv)) _ (lv_sub hl [0, 1, 5, 6, 7] rfl)
                | some v9 =>
                  have hl : lv_has ls 8 [(7, .int (nI (k_cb g x i))), (6, .int (nI 1)), (5, .int (nI (k_rch x i))), (4, .int (nI i)), (3, .int (nI v9)), (0, .ref b), (1, .int (nI x)), (2, .int (nI cc9))] := hl
                  have hvb9 := k_ms_le hv.symm
                  refine lv_iload_n hx hb dX7_mergedBy_91 rfl (lv_at hl 4 rfl) ?_
                  refine lv_iconst (v := (-1)) hx hb dX7_mergedBy_92 (by decide) ?_
                  refine ln_eq_m1 (tgt := 102) hx hb dX7_mergedBy_93 (by decide) (by omega) ?_
                  refine lv_iload hx hb dX7_mergedBy_96 (lv_at hl 0 rfl) ?_
                  refine lv_iload_n hx hb dX7_mergedBy_98 rfl (lv_at hl 4 rfl) ?_
                  refine ln_icmp_ge (tgt := 107) hx hb dX7_mergedBy_99 (by decide) (by omega) (by omega) (fun h10 => ?_) (fun h10 => ?_)
                  · refine lv_iload_n hx hb dX7_mergedBy_107 rfl (lv_at hl 4 rfl) ?_
                    refine lv_istore_n (lv' := [(3, .int (nI v9)), (7, .int (nI (k_cb g x i))), (6, .int (nI 1)), (5, .int (nI (k_rch x i))), (4, .int (nI i)), (0, .ref b), (1, .int (nI x)), (2, .int (nI cc9))]) hx hb dX7_mergedBy_108 rfl hl (by decide) rfl (fun ls hl => ?_)
                    refine lv_iinc (v := (nI (i + 1))) (lv' := [(4, .int (nI (i + 1))), (3, .int (nI v9)), (7, .int (nI (k_cb g x i))), (6, .int (nI 1)), (5, .int (nI (k_rch x i))), (0, .ref b), (1, .int (nI x)), (2, .int (nI cc9))]) hx hb dX7_mergedBy_109 hl (k := 4) rfl (nI_add i 1) (by decide) rfl (fun ls hl => ?_)
                    refine lv_goto (tgt := 5) hx hb dX7_mergedBy_112 (by decide) ?_
                    exact ih5 (some v9) (i + 1) (by omega) (by omega) (by first | ((have hsb : k_sb x i cc9 = true := decide_eq_true ⟨by omega, by omega, by omega⟩); rw [k_ms, if_pos ⟨by assumption, hsb⟩, ← hv]; done) | ((have hsb : k_sb x i cc9 = true := decide_eq_true ⟨by omega, by omega, by omega⟩); rw [k_ms, if_pos ⟨by assumption, hsb⟩, ← hv]; exact congrArg some (by omega)) | (rw [k_ms, if_neg (fun h9 => by have h8 := h9.1; have h7 : _ ∧ _ ∧ _ := of_decide_eq_true h9.2; first | omega | (simp_all; done))]; exact hv)) _ (lv_sub hl [0, 1, 5, 6, 7] rfl)
                  · refine lv_iload hx hb dX7_mergedBy_102 (lv_at hl 0 rfl) ?_
                    refine lv_goto (tgt := 108) hx hb dX7_mergedBy_104 (by decide) ?_
                    refine lv_istore_n (lv' := [(3, .int (nI (k_cb g x i))), (7, .int (nI (k_cb g x i))), (6, .int (nI 1)), (5, .int (nI (k_rch x i))), (4, .int (nI i)), (0, .ref b), (1, .int (nI x)), (2, .int (nI cc9))]) hx hb dX7_mergedBy_108 rfl hl (by decide) rfl (fun ls hl => ?_)
                    refine lv_iinc (v := (nI (i + 1))) (lv' := [(4, .int (nI (i + 1))), (3, .int (nI (k_cb g x i))), (7, .int (nI (k_cb g x i))), (6, .int (nI 1)), (5, .int (nI (k_rch x i))), (0, .ref b), (1, .int (nI x)), (2, .int (nI cc9))]) hx hb dX7_mergedBy_109 hl (k := 4) rfl (nI_add i 1) (by decide) rfl (fun ls hl => ?_)
                    refine lv_goto (tgt := 5) hx hb dX7_mergedBy_112 (by decide) ?_
                    exact ih5 (some (k_cb g x i)) (i + 1) (by omega) (by omega) (by first | ((have hsb : k_sb x i cc9 = true := decide_eq_true ⟨by omega, by omega, by omega⟩); rw [k_ms, if_pos ⟨by assumption, hsb⟩, ← hv]; done) | ((have hsb : k_sb x i cc9 = true := decide_eq_true ⟨by omega, by omega, by omega⟩); rw [k_ms, if_pos ⟨by assumption, hsb⟩, ← hv]; exact congrArg some (by omega)) | (rw [k_ms, if_neg (fun h9 => by have h8 := h9.1; have h7 : _ ∧ _ ∧ _ := of_decide_eq_true h9.2; first | omega | (simp_all; done))]; exact hv)) _ (lv_sub hl [0, 1, 5, 6, 7] rfl)
  exact lp5 _ none 0 (Nat.lt_succ_self _) (by omega) (by rfl) _ (lv_sub hl [0, 1, 2, 3, 4] rfl)
set_option maxHeartbeats 4000000 in
set_option maxRecDepth 100000 in
theorem c7_addFault (l : Launch) (D : va_G) (tc : Nat → ClassId) (zb : Nat) (b b1 : Nat) (o : Nat → Value) (g : Nat → Nat) (t : Nat) (hk : k_ok g) (ht : t < 1000) : RO l yX7_addFault wsX7_addFault 1 25 D tc zb (w_ms tc b b1 o g) [.ref b, .int (nI t)] (.int (nI (k_af g t))) := by
  refine RO.of (cc := cX7_addFault) (maxL := 2) (ret := (some .int)) (by decide) rfl (Nat.le_of_ble_eq_true rfl) ?_
  intro p e s m args below meth c hx hb hr hml hlk hts hown hM hS hP ls hl
  have hl : lv_has ls 2 [(0, .ref b), (1, .int (nI t))] := hl
  have hinX7 : ∀ w ∈ u_ws RX7 TX7 9, w ∈ wsX7_addFault := by decide +kernel
  obtain ⟨ok0, ok1, ok2, ok3, ok4, ok5, ok6⟩ := id hk
  refine lv_iload_n hx hb dX7_addFault_0 rfl (lv_at hl 1 rfl) ?_
  refine lv_i2l (v := ((nI t)).toInt64) hx hb dX7_addFault_1 rfl ?_
  refine lv_lconst (v := (0 : Int64)) hx hb dX7_addFault_2 rfl ?_
  refine lv_ldc2 (v := (999 : Int64)) hx hb hown (hts (.constantLong RX7 137 (999)) (by decide +kernel)) dX7_addFault_3 ?_
  refine ro_S (n := 3) ⟨hx, hb, hml, hown, hts⟩ hM hS hP (c7_in_ok l D tc zb t 0 999 (by omega) (by decide)) gX7_addFault_X7_in rfl (by decide +kernel) ⟨Nat.le_of_ble_eq_true rfl, Nat.le_of_ble_eq_true rfl⟩ [] rfl rfl hl.1 rfl (Nat.le_of_ble_eq_true rfl) dX7_addFault_6 ⟨Nat.le_refl _, Nat.le_refl _⟩ ?_
  refine lv_if_ne (tgt := 16) hx hb dX7_addFault_9 (by decide) (fun _ => ?_) (fun h9 => False.elim (by revert h9; decide))
  refine lv_aload_n hx hb dX7_addFault_16 rfl (lv_at hl 0 rfl) ?_
  refine lv_iload_n hx hb dX7_addFault_17 rfl (lv_at hl 1 rfl) ?_
  refine ro_V (C := RX7) (n := 1) ⟨hx, hb, hml, hown, hts⟩ hM hS hP (c7_placeOf l D tc zb b b1 o g t hk (by first | omega | exact ok4 _ (by omega))) gX7_addFault_X7_placeOf rfl (by decide +kernel) ⟨Nat.le_of_ble_eq_true rfl, Nat.le_of_ble_eq_true rfl⟩ [0, 1] rfl (va_recv hM.1 hP (ci := 6) (q0 := 0) rfl rfl) rfl hl.1 rfl (Nat.le_of_ble_eq_true rfl) dX7_addFault_18 ⟨Nat.le_refl _, Nat.le_refl _⟩ ?_
  cases ho18 : k_ix g t with
  | none =>
    refine ln_eq (x' := -1) rfl ?_
    refine lv_iconst (v := (-1)) hx hb dX7_addFault_21 (by decide) ?_
    refine lv_icmp_ne (tgt := 40) hx hb dX7_addFault_22 (by decide) (fun h9 => False.elim (by revert h9; decide)) (fun _ => ?_)
    refine lv_aload_n hx hb dX7_addFault_25 rfl (lv_at hl 0 rfl) ?_
    refine va_get (D := D) (ci := 6) (v := .ref b1) (C := RX7) (T := TX7) (N := 9) hx hb hts hinX7 hown hM.1 hP 0 rfl rfl 1 (by decide) (hts (.fieldLink RX7 7 "TripleWaysModel" "s" "[I") (by decide +kernel)) (fun _ h9 => h9) rfl dX7_addFault_26 ?_
    refine lv_iconst (v := (nI 0)) hx hb dX7_addFault_29 (by decide) ?_
    refine ln_iald hx hb hM.1 hP 1 0 rfl rfl dX7_addFault_30 (by decide) (by omega) (rfl) ?_
    refine lv_bipush (v := (nI 40)) hx hb dX7_addFault_31 (by decide) ?_
    refine ln_icmp_ne (tgt := 40) hx hb dX7_addFault_33 (by decide) (by omega) (by decide) (fun h1 => ?_) (fun h1 => ?_)
    · refine lv_iconst (v := (nI 0)) hx hb dX7_addFault_40 (by decide) ?_
      exact ro_iret hx hb hr hlk dX7_addFault_41 (congrArg nI (by simp [k_af, *]))
    · refine lv_iconst (v := (nI 2)) hx hb dX7_addFault_36 (by decide) ?_
      refine lv_goto (tgt := 41) hx hb dX7_addFault_37 (by decide) ?_
      exact ro_iret hx hb hr hlk dX7_addFault_41 (congrArg nI (by simp [k_af, *]))
  | some r18 =>
    refine ln_eq (x' := nI r18) rfl ?_
    have hr9 := k_ix_lt ho18
    refine lv_iconst (v := (-1)) hx hb dX7_addFault_21 (by decide) ?_
    refine ln_ne_m1 (tgt := 40) hx hb dX7_addFault_22 (by decide) (by omega) ?_
    refine lv_iconst (v := (nI 0)) hx hb dX7_addFault_40 (by decide) ?_
    exact ro_iret hx hb hr hlk dX7_addFault_41 (congrArg nI (by simp [k_af, *]))
set_option maxHeartbeats 4000000 in
set_option maxRecDepth 100000 in
theorem c7_addFault_b (l : Launch) (D : va_G) (tc : Nat → ClassId) (zb : Nat) (b : Nat) (pp : Int32) (o : Nat → Value) (hp : ¬ (nI 0 ≤ pp ∧ pp ≤ nI 999)) : RO l yX7_addFault wsX7_addFault 1 25 D tc zb [(b, .inr (6, [o 0, o 1, o 2, o 3, o 4, o 5, o 6, o 7, o 8]))] [.ref b, .int (pp)] (.int (nI 1)) := by
  refine RO.of (cc := cX7_addFault) (maxL := 2) (ret := (some .int)) (by decide) rfl (Nat.le_of_ble_eq_true rfl) ?_
  intro p e s m args below meth c hx hb hr hml hlk hts hown hM hS hP ls hl
  have hl : lv_has ls 2 [(0, .ref b), (1, .int (pp))] := hl
  refine lv_iload_n hx hb dX7_addFault_0 rfl (lv_at hl 1 rfl) ?_
  refine lv_i2l (v := ((pp)).toInt64) hx hb dX7_addFault_1 rfl ?_
  refine lv_lconst (v := (0 : Int64)) hx hb dX7_addFault_2 rfl ?_
  refine lv_ldc2 (v := (999 : Int64)) hx hb hown (hts (.constantLong RX7 137 (999)) (by decide +kernel)) dX7_addFault_3 ?_
  refine ro_S (n := 3) ⟨hx, hb, hml, hown, hts⟩ hM hS hP (c7_in_bad l D tc zb pp 0 999 (by assumption) (by decide) (by decide)) gX7_addFault_X7_in rfl (by decide +kernel) ⟨Nat.le_of_ble_eq_true rfl, Nat.le_of_ble_eq_true rfl⟩ [] rfl rfl hl.1 rfl (Nat.le_of_ble_eq_true rfl) dX7_addFault_6 ⟨Nat.le_refl _, Nat.le_refl _⟩ ?_
  refine lv_if_ne (tgt := 16) hx hb dX7_addFault_9 (by decide) (fun h9 => False.elim (by revert h9; decide)) (fun _ => ?_)
  refine lv_iconst (v := (nI 1)) hx hb dX7_addFault_12 (by decide) ?_
  refine lv_goto (tgt := 41) hx hb dX7_addFault_13 (by decide) ?_
  exact ro_iret hx hb hr hlk dX7_addFault_41 (rfl)
set_option maxHeartbeats 4000000 in
set_option maxRecDepth 100000 in
theorem c7_pairs_ok (l : Launch) (D : va_G) (tc : Nat → ClassId) (zb : Nat) (b b1 b2 b3 b4 b5 b6 : Nat) (th : Int32) (g ga sv : Nat → Nat) (n : Nat) (sl : Nat → Nat) (iz : Nat → Bool) (u : Nat → Nat) (ln : Nat) (f9 s9 a9 b9 : Nat) (hk : k_ok g) (hn : n ≤ 14) (hln : ln ≤ 100) (hu : ∀ k, u k < 256) (hf9 : f9 < 1331) (hs9 : s9 < 1331) (ha9 : a9 < 3) (hb9 : b9 < 3) : IP l yX7_pairs wsX7_pairs 4 88 D tc zb (w_md tc b b1 b2 b3 b4 b5 b6 th g ga sv n sl iz u ln) (w_md tc b b1 b2 b3 b4 b5 b6 (nI 0) g ga sv n sl iz u ln) [.ref b, .int (nI f9), .int (nI s9), .int (nI a9), .int (nI b9)] (some (.int (nI (k_prs g f9 s9 a9 b9 (g 0))))) := by
  refine IP.of (cc := cX7_pairs) (maxL := 8) (ret := (some .int)) (by decide) rfl (Nat.le_of_ble_eq_true rfl) ?_
  intro p e s m args below meth c A hx hb hr hml hlk hts hown hM hS hP hD ls hl
  have hl : lv_has ls 8 [(0, .ref b), (1, .int (nI f9)), (2, .int (nI s9)), (3, .int (nI a9)), (4, .int (nI b9))] := hl
  have hinX7 : ∀ w ∈ u_ws RX7 TX7 9, w ∈ wsX7_pairs := by decide +kernel
  obtain ⟨ok0, ok1, ok2, ok3, ok4, ok5, ok6⟩ := id hk
  refine lv_aload_n hx hb dX7_pairs_0 rfl (lv_at hl 0 rfl) ?_
  refine lv_iload_n hx hb dX7_pairs_1 rfl (lv_at hl 1 rfl) ?_
  refine lv_iload_n hx hb dX7_pairs_2 rfl (lv_at hl 2 rfl) ?_
  refine lv_iload_n hx hb dX7_pairs_3 rfl (lv_at hl 3 rfl) ?_
  refine lv_iload hx hb dX7_pairs_4 (lv_at hl 4 rfl) ?_
  refine ro_S (n := 4) ⟨hx, hb, hml, hown, hts⟩ hM hS hP (c7_isJoin_ok l D tc zb f9 s9 a9 b9 (by omega) (by omega) (by omega) (by omega)) gX7_pairs_X7_isJoin rfl (by decide +kernel) ⟨Nat.le_of_ble_eq_true rfl, Nat.le_of_ble_eq_true rfl⟩ [] rfl rfl hl.1 rfl (Nat.le_of_ble_eq_true rfl) dX7_pairs_6 ⟨Nat.le_refl _, Nat.le_refl _⟩ ?_
  refine lv_if_eq (tgt := 16) hx hb dX7_pairs_9 (by decide) (fun h9 => False.elim (by revert h9; decide)) (fun _ => ?_)
  refine lv_iconst (v := (nI 0)) hx hb dX7_pairs_12 (by decide) ?_
  refine lv_goto (tgt := 17) hx hb dX7_pairs_13 (by decide) ?_
  refine ip_V (C := RX7) (n := 1) (wl' := [(b, .inr (6, [.int (nI 0), .ref b1, .ref b2, .ref b3, .int (nI n), .ref b4, .ref b5, .ref b6, .int (nI ln)])), (b1, .inl (tc 0, 60, .inl ((fun k => nI (g k))))), (b2, .inl (tc 0, 60, .inl ((fun k => nI (ga k))))), (b3, .inl (tc 0, 840, .inl ((fun k => nI (sv k))))), (b4, .inl (tc 0, 120, .inl ((fun k => nI (sl k))))), (b5, .inl (tc 3, 2, .inl ((fun k => bI (iz k))))), (b6, .inl (tc 2, 100, .inl ((fun k => byI (u k)))))]) ⟨hx, hb, hml, hown, hts⟩ hM hS hP hD (c7_holds0 l D tc zb b th (fun k9 => match k9 with | 1 => .ref b1 | 2 => .ref b2 | 3 => .ref b3 | 4 => .int (nI n) | 5 => .ref b4 | 6 => .ref b5 | 7 => .ref b6 | 8 => .int (nI ln) | _ => .null)) gX7_pairs_X7_holds rfl (by decide +kernel) ⟨Nat.le_of_ble_eq_true rfl, Nat.le_of_ble_eq_true rfl⟩ [0] rfl rfl [(true, 0), (false, 1), (false, 2), (false, 3), (false, 4), (false, 5), (false, 6)] rfl rfl rfl (va_recv hM.1 hP (ci := 6) (q0 := 0) rfl rfl) rfl hl.1 rfl (Nat.le_of_ble_eq_true rfl) dX7_pairs_17 ⟨Nat.le_refl _, Nat.le_refl _⟩ (fun H locs hP hD hS => ?_)
  refine W.eq (g2 := F0 m 20 ls [.int (bI (true))]) rfl ?_
  refine lv_if_ne (tgt := 25) hx hb dX7_pairs_20 (by decide) (fun _ => ?_) (fun h9 => False.elim (by revert h9; decide))
  refine lv_iconst (v := (nI 0)) hx hb dX7_pairs_25 (by decide) ?_
  refine lv_istore (lv' := [(5, .int (nI 0)), (0, .ref b), (1, .int (nI f9)), (2, .int (nI s9)), (3, .int (nI a9)), (4, .int (nI b9))]) hx hb dX7_pairs_26 hl (by decide) rfl (fun ls hl => ?_)
  refine lv_iconst (v := (nI 0)) hx hb dX7_pairs_28 (by decide) ?_
  refine lv_istore (lv' := [(6, .int (nI 0)), (5, .int (nI 0)), (0, .ref b), (1, .int (nI f9)), (2, .int (nI s9)), (3, .int (nI a9)), (4, .int (nI b9))]) hx hb dX7_pairs_29 hl (by decide) rfl (fun ls hl => ?_)
  have lp31 : ∀ (n9 : Nat) (acc : Nat) (i : Nat), (g 0 - i) < n9 → (i ≤ g 0) → (acc = k_prs g f9 s9 a9 b9 i) → ∀ (H : Heap) (locs : List Loc), va_P D vwCl [(b, .inr (6, [.int (nI 0), .ref b1, .ref b2, .ref b3, .int (nI n), .ref b4, .ref b5, .ref b6, .int (nI ln)])), (b1, .inl (tc 0, 60, .inl ((fun k => nI (g k))))), (b2, .inl (tc 0, 60, .inl ((fun k => nI (ga k))))), (b3, .inl (tc 0, 840, .inl ((fun k => nI (sv k))))), (b4, .inl (tc 0, 120, .inl ((fun k => nI (sl k))))), (b5, .inl (tc 3, 2, .inl ((fun k => bI (iz k))))), (b6, .inl (tc 2, 100, .inl ((fun k => byI (u k)))))] H → va_D A [(b, .inr (6, [.int (nI 0), .ref b1, .ref b2, .ref b3, .int (nI n), .ref b4, .ref b5, .ref b6, .int (nI ln)])), (b1, .inl (tc 0, 60, .inl ((fun k => nI (g k))))), (b2, .inl (tc 0, 60, .inl ((fun k => nI (ga k))))), (b3, .inl (tc 0, 840, .inl ((fun k => nI (sv k))))), (b4, .inl (tc 0, 120, .inl ((fun k => nI (sl k))))), (b5, .inl (tc 3, 2, .inl ((fun k => bI (iz k))))), (b6, .inl (tc 2, 100, .inl ((fun k => byI (u k)))))] → va_S A s.heap H locs → ∀ ls : Array Slot, lv_has ls 8 [(6, .int (nI i)), (5, .int (nI acc)), (0, .ref b), (1, .int (nI f9)), (2, .int (nI s9)), (3, .int (nI a9)), (4, .int (nI b9))] → W p l e ({ frames := 4, cells := 0, slots := 0, locals := 88 } : Room) s m args below meth c H locs 0 0 (MQ below (ipQ D A (w_md tc b b1 b2 b3 b4 b5 b6 (nI 0) g ga sv n sl iz u ln) (some (.int (nI (k_prs g f9 s9 a9 b9 (g 0)))))) args s 0 0 A) (F0 m 31 ls []) := by
    intro n9
    induction n9 with
    | zero => intro acc i hmu; exact absurd hmu (Nat.not_lt_zero _)
    | succ n9 ih31 =>
      intro acc i hmu hi hv H locs hP hD hS ls hl
      refine lv_iload hx hb dX7_pairs_31 (lv_at hl 0 rfl) ?_
      refine lv_aload_n hx hb dX7_pairs_33 rfl (lv_at hl 2 rfl) ?_
      refine va_get (D := D) (ci := 6) (v := .ref b1) (C := RX7) (T := TX7) (N := 9) hx hb hts hinX7 hown hM.1 hP 0 rfl rfl 1 (by decide) (hts (.fieldLink RX7 7 "TripleWaysModel" "s" "[I") (by decide +kernel)) (fun _ h9 => h9) rfl dX7_pairs_34 ?_
      refine lv_iconst (v := (nI 0)) hx hb dX7_pairs_37 (by decide) ?_
      refine ln_iald hx hb hM.1 hP 1 0 rfl rfl dX7_pairs_38 (by decide) (by omega) (rfl) ?_
      refine ln_icmp_ge (tgt := 110) hx hb dX7_pairs_39 (by decide) (by omega) (by omega) (fun h1 => ?_) (fun h1 => ?_)
      · refine lv_iload hx hb dX7_pairs_110 (lv_at hl 1 rfl) ?_
        exact ip_iret hx hb hr hlk dX7_pairs_112 hS (congrArg nI (by have e9 : i = g 0 := (by omega); subst e9; exact hv)) hP
      · have hpt9 := k_pt_le (c := a9) (ok4 i (by omega))
        have hti9 := ok4 i (by omega)
        refine lv_iload_n hx hb dX7_pairs_42 rfl (lv_at hl 3 rfl) ?_
        refine lv_aload_n hx hb dX7_pairs_43 rfl (lv_at hl 2 rfl) ?_
        refine va_get (D := D) (ci := 6) (v := .ref b1) (C := RX7) (T := TX7) (N := 9) hx hb hts hinX7 hown hM.1 hP 0 rfl rfl 1 (by decide) (hts (.fieldLink RX7 7 "TripleWaysModel" "s" "[I") (by decide +kernel)) (fun _ h9 => h9) rfl dX7_pairs_44 ?_
        refine lv_iconst (v := (nI 1)) hx hb dX7_pairs_47 (by decide) ?_
        refine lv_iload hx hb dX7_pairs_48 (lv_at hl 0 rfl) ?_
        refine ln_iadd hx hb dX7_pairs_50 ?_
        refine ln_iald hx hb hM.1 hP 1 0 rfl rfl dX7_pairs_51 (by decide) (by omega) (rfl) ?_
        refine ro_S (n := 2) ⟨hx, hb, hml, hown, hts⟩ hM hS hP (c7_isAnswer l D tc zb f9 (g (1 + i)) (by first | omega | exact ok5 _ (by omega)) (by first | omega | exact ok4 _ (by omega))) gX7_pairs_X7_isAnswer rfl (by decide +kernel) ⟨Nat.le_of_ble_eq_true rfl, Nat.le_of_ble_eq_true rfl⟩ [] rfl rfl hl.1 rfl (Nat.le_of_ble_eq_true rfl) dX7_pairs_52 ⟨Nat.le_refl _, Nat.le_refl _⟩ ?_
        refine ln_if_eqB (tgt := 80) hx hb dX7_pairs_55 (by decide) (fun h2 => ?_) (fun h2 => ?_)
        · refine lv_iconst (v := (-1)) hx hb dX7_pairs_80 (by decide) ?_
          refine lv_istore (lv' := [(7, .int (-1)), (6, .int (nI i)), (5, .int (nI acc)), (0, .ref b), (1, .int (nI f9)), (2, .int (nI s9)), (3, .int (nI a9)), (4, .int (nI b9))]) hx hb dX7_pairs_81 hl (by decide) rfl (fun ls hl => ?_)
          refine lv_iload hx hb dX7_pairs_83 (lv_at hl 2 rfl) ?_
          refine lv_iload hx hb dX7_pairs_85 (lv_at hl 0 rfl) ?_
          refine lv_iconst (v := (-1)) hx hb dX7_pairs_87 (by decide) ?_
          refine lv_icmp_ne (tgt := 95) hx hb dX7_pairs_88 (by decide) (fun h9 => False.elim (by revert h9; decide)) (fun _ => ?_)
          refine lv_iconst (v := (nI 0)) hx hb dX7_pairs_91 (by decide) ?_
          refine lv_goto (tgt := 101) hx hb dX7_pairs_92 (by decide) ?_
          refine ln_iadd hx hb dX7_pairs_101 ?_
          refine lv_istore (lv' := [(5, .int (nI (acc + 0))), (7, .int (-1)), (6, .int (nI i)), (0, .ref b), (1, .int (nI f9)), (2, .int (nI s9)), (3, .int (nI a9)), (4, .int (nI b9))]) hx hb dX7_pairs_102 hl (by decide) rfl (fun ls hl => ?_)
          refine lv_iinc (v := (nI (i + 1))) (lv' := [(6, .int (nI (i + 1))), (5, .int (nI (acc + 0))), (7, .int (-1)), (0, .ref b), (1, .int (nI f9)), (2, .int (nI s9)), (3, .int (nI a9)), (4, .int (nI b9))]) hx hb dX7_pairs_104 hl (k := 2) rfl (nI_add i 1) (by decide) rfl (fun ls hl => ?_)
          refine lv_goto (tgt := 31) hx hb dX7_pairs_107 (by decide) ?_
          exact ih31 (acc + 0) (i + 1) (by omega) (by omega) (by first | (rw [k_prs, show k_bo g f9 s9 a9 b9 i = _ from (if_pos (by assumption)).trans ho74, ← hv]; rfl) | (rw [k_prs, show k_bo g f9 s9 a9 b9 i = none from if_neg (by rw [Bool.not_eq_true]; assumption), ← hv]; rfl)) _ _ hP hD hS _ (lv_sub hl [0, 1, 3, 4, 5, 6, 7] rfl)
        · refine lv_iload_n hx hb dX7_pairs_58 rfl (lv_at hl 4 rfl) ?_
          refine lv_iload hx hb dX7_pairs_59 (lv_at hl 6 rfl) ?_
          refine lv_aload_n hx hb dX7_pairs_61 rfl (lv_at hl 2 rfl) ?_
          refine va_get (D := D) (ci := 6) (v := .ref b1) (C := RX7) (T := TX7) (N := 9) hx hb hts hinX7 hown hM.1 hP 0 rfl rfl 1 (by decide) (hts (.fieldLink RX7 7 "TripleWaysModel" "s" "[I") (by decide +kernel)) (fun _ h9 => h9) rfl dX7_pairs_62 ?_
          refine lv_iconst (v := (nI 1)) hx hb dX7_pairs_65 (by decide) ?_
          refine lv_iload hx hb dX7_pairs_66 (lv_at hl 0 rfl) ?_
          refine ln_iadd hx hb dX7_pairs_68 ?_
          refine ln_iald hx hb hM.1 hP 1 0 rfl rfl dX7_pairs_69 (by decide) (by omega) (rfl) ?_
          refine lv_iload_n hx hb dX7_pairs_70 rfl (lv_at hl 5 rfl) ?_
          refine ro_S (n := 2) ⟨hx, hb, hml, hown, hts⟩ hM hS hP (c7_partOf l D tc zb (g (1 + i)) a9 (by first | omega | exact ok4 _ (by omega)) (by first | omega | exact byf_lt _)) gX7_pairs_X7_partOf rfl (by decide +kernel) ⟨Nat.le_of_ble_eq_true rfl, Nat.le_of_ble_eq_true rfl⟩ [] rfl rfl hl.1 rfl (Nat.le_of_ble_eq_true rfl) dX7_pairs_71 ⟨Nat.le_refl _, Nat.le_refl _⟩ ?_
          have hf3 := show k_pt (g (1 + i)) a9 ≤ 9 from k_pt_le (by first | omega | exact ok4 _ (by omega))
          refine ro_S (n := 3) ⟨hx, hb, hml, hown, hts⟩ hM hS hP (c7_bind l D tc zb s9 b9 (k_pt (g (1 + i)) a9) (by omega) (by omega) (by omega)) gX7_pairs_X7_bind rfl (by decide +kernel) ⟨Nat.le_of_ble_eq_true rfl, Nat.le_of_ble_eq_true rfl⟩ [] rfl rfl hl.1 rfl (Nat.le_of_ble_eq_true rfl) dX7_pairs_74 ⟨Nat.le_refl _, Nat.le_refl _⟩ ?_
          cases ho74 : k_bt s9 b9 (k_pt (g (1 + i)) a9) with
          | none =>
            refine ln_eq (x' := -1) rfl ?_
            refine lv_goto (tgt := 81) hx hb dX7_pairs_77 (by decide) ?_
            refine lv_istore (lv' := [(7, .int (-1)), (6, .int (nI i)), (5, .int (nI acc)), (0, .ref b), (1, .int (nI f9)), (2, .int (nI s9)), (3, .int (nI a9)), (4, .int (nI b9))]) hx hb dX7_pairs_81 hl (by decide) rfl (fun ls hl => ?_)
            refine lv_iload hx hb dX7_pairs_83 (lv_at hl 2 rfl) ?_
            refine lv_iload hx hb dX7_pairs_85 (lv_at hl 0 rfl) ?_
            refine lv_iconst (v := (-1)) hx hb dX7_pairs_87 (by decide) ?_
            refine lv_icmp_ne (tgt := 95) hx hb dX7_pairs_88 (by decide) (fun h9 => False.elim (by revert h9; decide)) (fun _ => ?_)
            refine lv_iconst (v := (nI 0)) hx hb dX7_pairs_91 (by decide) ?_
            refine lv_goto (tgt := 101) hx hb dX7_pairs_92 (by decide) ?_
            refine ln_iadd hx hb dX7_pairs_101 ?_
            refine lv_istore (lv' := [(5, .int (nI (acc + 0))), (7, .int (-1)), (6, .int (nI i)), (0, .ref b), (1, .int (nI f9)), (2, .int (nI s9)), (3, .int (nI a9)), (4, .int (nI b9))]) hx hb dX7_pairs_102 hl (by decide) rfl (fun ls hl => ?_)
            refine lv_iinc (v := (nI (i + 1))) (lv' := [(6, .int (nI (i + 1))), (5, .int (nI (acc + 0))), (7, .int (-1)), (0, .ref b), (1, .int (nI f9)), (2, .int (nI s9)), (3, .int (nI a9)), (4, .int (nI b9))]) hx hb dX7_pairs_104 hl (k := 2) rfl (nI_add i 1) (by decide) rfl (fun ls hl => ?_)
            refine lv_goto (tgt := 31) hx hb dX7_pairs_107 (by decide) ?_
            exact ih31 (acc + 0) (i + 1) (by omega) (by omega) (by first | (rw [k_prs, show k_bo g f9 s9 a9 b9 i = _ from (if_pos (by assumption)).trans ho74, ← hv]; rfl) | (rw [k_prs, show k_bo g f9 s9 a9 b9 i = none from if_neg (by rw [Bool.not_eq_true]; assumption), ← hv]; rfl)) _ _ hP hD hS _ (lv_sub hl [0, 1, 3, 4, 5, 6, 7] rfl)
          | some r74 =>
            refine ln_eq (x' := nI r74) rfl ?_
            have hr9 := k_bt_lt (by omega) ho74
            refine lv_goto (tgt := 81) hx hb dX7_pairs_77 (by decide) ?_
            refine lv_istore (lv' := [(7, .int (nI r74)), (6, .int (nI i)), (5, .int (nI acc)), (0, .ref b), (1, .int (nI f9)), (2, .int (nI s9)), (3, .int (nI a9)), (4, .int (nI b9))]) hx hb dX7_pairs_81 hl (by decide) rfl (fun ls hl => ?_)
            refine lv_iload hx hb dX7_pairs_83 (lv_at hl 2 rfl) ?_
            refine lv_iload hx hb dX7_pairs_85 (lv_at hl 0 rfl) ?_
            refine lv_iconst (v := (-1)) hx hb dX7_pairs_87 (by decide) ?_
            refine ln_ne_m1 (tgt := 95) hx hb dX7_pairs_88 (by decide) (by omega) ?_
            refine lv_aload_n hx hb dX7_pairs_95 rfl (lv_at hl 3 rfl) ?_
            refine lv_iload hx hb dX7_pairs_96 (lv_at hl 0 rfl) ?_
            refine ro_V (C := RX7) (n := 1) ⟨hx, hb, hml, hown, hts⟩ hM hS hP (c7_answersOf l D tc zb b b1 (fun k9 => match k9 with | 0 => .int (nI 0) | 2 => .ref b2 | 3 => .ref b3 | 4 => .int (nI n) | 5 => .ref b4 | 6 => .ref b5 | 7 => .ref b6 | 8 => .int (nI ln) | _ => .null) g r74 hk (by first | omega | exact ok5 _ (by omega))) gX7_pairs_X7_answersOf rfl (by decide +kernel) ⟨Nat.le_of_ble_eq_true rfl, Nat.le_of_ble_eq_true rfl⟩ [0, 1] rfl (va_recv hM.1 hP (ci := 6) (q0 := 0) rfl rfl) rfl hl.1 rfl (Nat.le_of_ble_eq_true rfl) dX7_pairs_98 ⟨Nat.le_refl _, Nat.le_refl _⟩ ?_
            have hf4 := k_cnt_le g r74
            refine ln_iadd hx hb dX7_pairs_101 ?_
            refine lv_istore (lv' := [(5, .int (nI (acc + (k_cnt g r74)))), (7, .int (nI r74)), (6, .int (nI i)), (0, .ref b), (1, .int (nI f9)), (2, .int (nI s9)), (3, .int (nI a9)), (4, .int (nI b9))]) hx hb dX7_pairs_102 hl (by decide) rfl (fun ls hl => ?_)
            refine lv_iinc (v := (nI (i + 1))) (lv' := [(6, .int (nI (i + 1))), (5, .int (nI (acc + (k_cnt g r74)))), (7, .int (nI r74)), (0, .ref b), (1, .int (nI f9)), (2, .int (nI s9)), (3, .int (nI a9)), (4, .int (nI b9))]) hx hb dX7_pairs_104 hl (k := 2) rfl (nI_add i 1) (by decide) rfl (fun ls hl => ?_)
            refine lv_goto (tgt := 31) hx hb dX7_pairs_107 (by decide) ?_
            exact ih31 (acc + (k_cnt g r74)) (i + 1) (by omega) (by omega) (by first | (rw [k_prs, show k_bo g f9 s9 a9 b9 i = _ from (if_pos (by assumption)).trans ho74, ← hv]; rfl) | (rw [k_prs, show k_bo g f9 s9 a9 b9 i = none from if_neg (by rw [Bool.not_eq_true]; assumption), ← hv]; rfl)) _ _ hP hD hS _ (lv_sub hl [0, 1, 3, 4, 5, 6, 7] rfl)
  exact lp31 _ 0 0 (Nat.lt_succ_self _) (by omega) (by rfl) _ _ hP hD hS _ (lv_sub hl [0, 1, 2, 3, 4, 5, 6] rfl)
set_option maxHeartbeats 4000000 in
set_option maxRecDepth 100000 in
theorem c7_pairs_b1 (l : Launch) (D : va_G) (tc : Nat → ClassId) (zb : Nat) (b b1 b2 b3 b4 b5 b6 : Nat) (th : Int32) (g ga sv : Nat → Nat) (n : Nat) (sl : Nat → Nat) (iz : Nat → Bool) (u : Nat → Nat) (ln : Nat) (pp p2 p3 p4 : Int32) (hk : k_ok g) (hn : n ≤ 14) (hln : ln ≤ 100) (hu : ∀ k, u k < 256) (hj : ¬ ((nI 0 ≤ pp ∧ pp ≤ nI 1330) ∧ (nI 0 ≤ p2 ∧ p2 ≤ nI 1330) ∧ (nI 0 ≤ p3 ∧ p3 ≤ nI 2) ∧ (nI 0 ≤ p4 ∧ p4 ≤ nI 2))) : IP l yX7_pairs wsX7_pairs 3 68 D tc zb (w_md tc b b1 b2 b3 b4 b5 b6 th g ga sv n sl iz u ln) (w_md tc b b1 b2 b3 b4 b5 b6 (nI 1) g ga sv n sl iz u ln) [.ref b, .int (pp), .int (p2), .int (p3), .int (p4)] (some (.int (nI 0))) := by
  refine IP.of (cc := cX7_pairs) (maxL := 8) (ret := (some .int)) (by decide) rfl (Nat.le_of_ble_eq_true rfl) ?_
  intro p e s m args below meth c A hx hb hr hml hlk hts hown hM hS hP hD ls hl
  have hl : lv_has ls 8 [(0, .ref b), (1, .int (pp)), (2, .int (p2)), (3, .int (p3)), (4, .int (p4))] := hl
  obtain ⟨ok0, ok1, ok2, ok3, ok4, ok5, ok6⟩ := id hk
  refine lv_aload_n hx hb dX7_pairs_0 rfl (lv_at hl 0 rfl) ?_
  refine lv_iload_n hx hb dX7_pairs_1 rfl (lv_at hl 1 rfl) ?_
  refine lv_iload_n hx hb dX7_pairs_2 rfl (lv_at hl 2 rfl) ?_
  refine lv_iload_n hx hb dX7_pairs_3 rfl (lv_at hl 3 rfl) ?_
  refine lv_iload hx hb dX7_pairs_4 (lv_at hl 4 rfl) ?_
  refine ro_S (n := 4) ⟨hx, hb, hml, hown, hts⟩ hM hS hP (c7_isJoin_raw l D tc zb ((pp)) ((p2)) ((p3)) ((p4))) gX7_pairs_X7_isJoin rfl (by decide +kernel) ⟨Nat.le_of_ble_eq_true rfl, Nat.le_of_ble_eq_true rfl⟩ [] rfl rfl hl.1 rfl (Nat.le_of_ble_eq_true rfl) dX7_pairs_6 ⟨Nat.le_refl _, Nat.le_refl _⟩ ?_
  refine ln_if_eqB (tgt := 16) hx hb dX7_pairs_9 (by decide) (fun h1 => ?_) (fun h1 => ?_)
  · have h1 := of_decide_eq_false h1
    refine lv_iconst (v := (nI 1)) hx hb dX7_pairs_16 (by decide) ?_
    refine ip_V (C := RX7) (n := 1) (wl' := [(b, .inr (6, [.int (nI 1), .ref b1, .ref b2, .ref b3, .int (nI n), .ref b4, .ref b5, .ref b6, .int (nI ln)])), (b1, .inl (tc 0, 60, .inl ((fun k => nI (g k))))), (b2, .inl (tc 0, 60, .inl ((fun k => nI (ga k))))), (b3, .inl (tc 0, 840, .inl ((fun k => nI (sv k))))), (b4, .inl (tc 0, 120, .inl ((fun k => nI (sl k))))), (b5, .inl (tc 3, 2, .inl ((fun k => bI (iz k))))), (b6, .inl (tc 2, 100, .inl ((fun k => byI (u k)))))]) ⟨hx, hb, hml, hown, hts⟩ hM hS hP hD (c7_holdsP l D tc zb b th (fun k9 => match k9 with | 1 => .ref b1 | 2 => .ref b2 | 3 => .ref b3 | 4 => .int (nI n) | 5 => .ref b4 | 6 => .ref b5 | 7 => .ref b6 | 8 => .int (nI ln) | _ => .null) 1 (by omega)) gX7_pairs_X7_holds rfl (by decide +kernel) ⟨Nat.le_of_ble_eq_true rfl, Nat.le_of_ble_eq_true rfl⟩ [0] rfl rfl [(true, 0), (false, 1), (false, 2), (false, 3), (false, 4), (false, 5), (false, 6)] rfl rfl rfl (va_recv hM.1 hP (ci := 6) (q0 := 0) rfl rfl) rfl hl.1 rfl (Nat.le_of_ble_eq_true rfl) dX7_pairs_17 ⟨Nat.le_refl _, Nat.le_refl _⟩ (fun H locs hP hD hS => ?_)
    refine W.eq (g2 := F0 m 20 ls [.int (bI (false))]) rfl ?_
    refine lv_if_ne (tgt := 25) hx hb dX7_pairs_20 (by decide) (fun h9 => False.elim (by revert h9; decide)) (fun _ => ?_)
    refine lv_iconst (v := (nI 0)) hx hb dX7_pairs_23 (by decide) ?_
    exact ip_iret hx hb hr hlk dX7_pairs_24 hS (rfl) hP
  · have h1 := of_decide_eq_true h1
    exact absurd (by assumption) hj
set_option maxHeartbeats 4000000 in
set_option maxRecDepth 100000 in
theorem c7_joinCost_m (l : Launch) (D : va_G) (tc : Nat → ClassId) (zb : Nat) (b b1 b2 b3 b4 b5 b6 : Nat) (th : Int32) (g ga sv : Nat → Nat) (n : Nat) (sl : Nat → Nat) (iz : Nat → Bool) (u : Nat → Nat) (ln : Nat) (f9 s9 a9 b9 : Nat) (hk : k_ok g) (hn : n ≤ 14) (hln : ln ≤ 100) (hu : ∀ k, u k < 256) (hf9 : f9 < 1331) (hs9 : s9 < 1331) (ha9 : a9 < 3) (hb9 : b9 < 3) : IP l yX7_joinCost wsX7_joinCost 6 138 D tc zb (w_md tc b b1 b2 b3 b4 b5 b6 th g ga sv n sl iz u ln) (w_md tc b b1 b2 b3 b4 b5 b6 (nI 0) g ga sv n sl iz u ln) [.ref b, .int (nI f9), .int (nI s9), .int (nI a9), .int (nI b9), .int (nI 1)] (some (.int (oI (k_jm g f9 s9 a9 b9)))) := by
  refine IP.of (cc := cX7_joinCost) (maxL := 9) (ret := (some .int)) (by decide) rfl (Nat.le_of_ble_eq_true rfl) ?_
  intro p e s m args below meth c A hx hb hr hml hlk hts hown hM hS hP hD ls hl
  have hl : lv_has ls 9 [(0, .ref b), (1, .int (nI f9)), (2, .int (nI s9)), (3, .int (nI a9)), (4, .int (nI b9)), (5, .int (nI 1))] := hl
  obtain ⟨ok0, ok1, ok2, ok3, ok4, ok5, ok6⟩ := id hk
  refine lv_aload_n hx hb dX7_joinCost_0 rfl (lv_at hl 0 rfl) ?_
  refine lv_iload_n hx hb dX7_joinCost_1 rfl (lv_at hl 1 rfl) ?_
  refine lv_iload_n hx hb dX7_joinCost_2 rfl (lv_at hl 2 rfl) ?_
  refine lv_iload_n hx hb dX7_joinCost_3 rfl (lv_at hl 3 rfl) ?_
  refine lv_iload hx hb dX7_joinCost_4 (lv_at hl 4 rfl) ?_
  refine ro_S (n := 4) ⟨hx, hb, hml, hown, hts⟩ hM hS hP (c7_isJoin_ok l D tc zb f9 s9 a9 b9 (by omega) (by omega) (by omega) (by omega)) gX7_joinCost_X7_isJoin rfl (by decide +kernel) ⟨Nat.le_of_ble_eq_true rfl, Nat.le_of_ble_eq_true rfl⟩ [] rfl rfl hl.1 rfl (Nat.le_of_ble_eq_true rfl) dX7_joinCost_6 ⟨Nat.le_refl _, Nat.le_refl _⟩ ?_
  refine lv_if_eq (tgt := 16) hx hb dX7_joinCost_9 (by decide) (fun h9 => False.elim (by revert h9; decide)) (fun _ => ?_)
  refine lv_iconst (v := (nI 0)) hx hb dX7_joinCost_12 (by decide) ?_
  refine lv_goto (tgt := 17) hx hb dX7_joinCost_13 (by decide) ?_
  refine ip_V (C := RX7) (n := 1) (wl' := [(b, .inr (6, [.int (nI 0), .ref b1, .ref b2, .ref b3, .int (nI n), .ref b4, .ref b5, .ref b6, .int (nI ln)])), (b1, .inl (tc 0, 60, .inl ((fun k => nI (g k))))), (b2, .inl (tc 0, 60, .inl ((fun k => nI (ga k))))), (b3, .inl (tc 0, 840, .inl ((fun k => nI (sv k))))), (b4, .inl (tc 0, 120, .inl ((fun k => nI (sl k))))), (b5, .inl (tc 3, 2, .inl ((fun k => bI (iz k))))), (b6, .inl (tc 2, 100, .inl ((fun k => byI (u k)))))]) ⟨hx, hb, hml, hown, hts⟩ hM hS hP hD (c7_holds0 l D tc zb b th (fun k9 => match k9 with | 1 => .ref b1 | 2 => .ref b2 | 3 => .ref b3 | 4 => .int (nI n) | 5 => .ref b4 | 6 => .ref b5 | 7 => .ref b6 | 8 => .int (nI ln) | _ => .null)) gX7_joinCost_X7_holds rfl (by decide +kernel) ⟨Nat.le_of_ble_eq_true rfl, Nat.le_of_ble_eq_true rfl⟩ [0] rfl rfl [(true, 0), (false, 1), (false, 2), (false, 3), (false, 4), (false, 5), (false, 6)] rfl rfl rfl (va_recv hM.1 hP (ci := 6) (q0 := 0) rfl rfl) rfl hl.1 rfl (Nat.le_of_ble_eq_true rfl) dX7_joinCost_17 ⟨Nat.le_refl _, Nat.le_refl _⟩ (fun H locs hP hD hS => ?_)
  refine W.eq (g2 := F0 m 20 ls [.int (bI (true))]) rfl ?_
  refine lv_if_ne (tgt := 25) hx hb dX7_joinCost_20 (by decide) (fun _ => ?_) (fun h9 => False.elim (by revert h9; decide))
  refine lv_iload hx hb dX7_joinCost_25 (lv_at hl 5 rfl) ?_
  refine lv_if_eq (tgt := 69) hx hb dX7_joinCost_27 (by decide) (fun h9 => False.elim (by revert h9; decide)) (fun _ => ?_)
  refine lv_aload_n hx hb dX7_joinCost_30 rfl (lv_at hl 0 rfl) ?_
  refine lv_iload_n hx hb dX7_joinCost_31 rfl (lv_at hl 1 rfl) ?_
  refine lv_iload_n hx hb dX7_joinCost_32 rfl (lv_at hl 3 rfl) ?_
  refine ro_V (C := RX7) (n := 2) ⟨hx, hb, hml, hown, hts⟩ hM hS hP (c7_mergedBy l D tc zb b b1 (fun k9 => match k9 with | 0 => .int (nI 0) | 2 => .ref b2 | 3 => .ref b3 | 4 => .int (nI n) | 5 => .ref b4 | 6 => .ref b5 | 7 => .ref b6 | 8 => .int (nI ln) | _ => .null) g f9 a9 hk (by first | omega | exact ok5 _ (by omega)) (by first | omega | exact byf_lt _)) gX7_joinCost_X7_mergedBy rfl (by decide +kernel) ⟨Nat.le_of_ble_eq_true rfl, Nat.le_of_ble_eq_true rfl⟩ [0, 1] rfl (va_recv hM.1 hP (ci := 6) (q0 := 0) rfl rfl) rfl hl.1 rfl (Nat.le_of_ble_eq_true rfl) dX7_joinCost_33 ⟨Nat.le_refl _, Nat.le_refl _⟩ ?_
  cases ho33 : k_ms g f9 a9 6 with
  | none =>
    refine ln_eq (x' := -1) rfl ?_
    refine lv_istore (lv' := [(6, .int (-1)), (0, .ref b), (1, .int (nI f9)), (2, .int (nI s9)), (3, .int (nI a9)), (4, .int (nI b9)), (5, .int (nI 1))]) hx hb dX7_joinCost_36 hl (by decide) rfl (fun ls hl => ?_)
    refine lv_aload_n hx hb dX7_joinCost_38 rfl (lv_at hl 1 rfl) ?_
    refine lv_iload_n hx hb dX7_joinCost_39 rfl (lv_at hl 3 rfl) ?_
    refine lv_iload hx hb dX7_joinCost_40 (lv_at hl 5 rfl) ?_
    refine ro_V (C := RX7) (n := 2) ⟨hx, hb, hml, hown, hts⟩ hM hS hP (c7_mergedBy l D tc zb b b1 (fun k9 => match k9 with | 0 => .int (nI 0) | 2 => .ref b2 | 3 => .ref b3 | 4 => .int (nI n) | 5 => .ref b4 | 6 => .ref b5 | 7 => .ref b6 | 8 => .int (nI ln) | _ => .null) g s9 b9 hk (by first | omega | exact ok5 _ (by omega)) (by first | omega | exact byf_lt _)) gX7_joinCost_X7_mergedBy rfl (by decide +kernel) ⟨Nat.le_of_ble_eq_true rfl, Nat.le_of_ble_eq_true rfl⟩ [0, 1] rfl (va_recv hM.1 hP (ci := 6) (q0 := 0) rfl rfl) rfl hl.1 rfl (Nat.le_of_ble_eq_true rfl) dX7_joinCost_42 ⟨Nat.le_refl _, Nat.le_refl _⟩ ?_
    cases ho42 : k_ms g s9 b9 6 with
    | none =>
      refine ln_eq (x' := -1) rfl ?_
      refine lv_istore (lv' := [(7, .int (-1)), (6, .int (-1)), (0, .ref b), (1, .int (nI f9)), (2, .int (nI s9)), (3, .int (nI a9)), (4, .int (nI b9)), (5, .int (nI 1))]) hx hb dX7_joinCost_45 hl (by decide) rfl (fun ls hl => ?_)
      refine lv_iload hx hb dX7_joinCost_47 (lv_at hl 1 rfl) ?_
      refine lv_iconst (v := (-1)) hx hb dX7_joinCost_49 (by decide) ?_
      refine lv_icmp_eq (tgt := 59) hx hb dX7_joinCost_50 (by decide) (fun _ => ?_) (fun h9 => False.elim (by revert h9; decide))
      refine lv_iconst (v := (-1)) hx hb dX7_joinCost_59 (by decide) ?_
      refine lv_goto (tgt := 68) hx hb dX7_joinCost_60 (by decide) ?_
      exact ip_iret hx hb hr hlk dX7_joinCost_68 hS (show oI none = _ from congrArg oI (by simp only [k_jm, ho33, ho42])) hP
    | some r42 =>
      refine ln_eq (x' := nI r42) rfl ?_
      have hr8 := k_ms_le ho42
      refine lv_istore (lv' := [(7, .int (nI r42)), (6, .int (-1)), (0, .ref b), (1, .int (nI f9)), (2, .int (nI s9)), (3, .int (nI a9)), (4, .int (nI b9)), (5, .int (nI 1))]) hx hb dX7_joinCost_45 hl (by decide) rfl (fun ls hl => ?_)
      refine lv_iload hx hb dX7_joinCost_47 (lv_at hl 1 rfl) ?_
      refine lv_iconst (v := (-1)) hx hb dX7_joinCost_49 (by decide) ?_
      refine lv_icmp_eq (tgt := 59) hx hb dX7_joinCost_50 (by decide) (fun _ => ?_) (fun h9 => False.elim (by revert h9; decide))
      refine lv_iconst (v := (-1)) hx hb dX7_joinCost_59 (by decide) ?_
      refine lv_goto (tgt := 68) hx hb dX7_joinCost_60 (by decide) ?_
      exact ip_iret hx hb hr hlk dX7_joinCost_68 hS (show oI none = _ from congrArg oI (by simp only [k_jm, ho33, ho42])) hP
  | some r33 =>
    refine ln_eq (x' := nI r33) rfl ?_
    have hr9 := k_ms_le ho33
    refine lv_istore (lv' := [(6, .int (nI r33)), (0, .ref b), (1, .int (nI f9)), (2, .int (nI s9)), (3, .int (nI a9)), (4, .int (nI b9)), (5, .int (nI 1))]) hx hb dX7_joinCost_36 hl (by decide) rfl (fun ls hl => ?_)
    refine lv_aload_n hx hb dX7_joinCost_38 rfl (lv_at hl 1 rfl) ?_
    refine lv_iload_n hx hb dX7_joinCost_39 rfl (lv_at hl 3 rfl) ?_
    refine lv_iload hx hb dX7_joinCost_40 (lv_at hl 5 rfl) ?_
    refine ro_V (C := RX7) (n := 2) ⟨hx, hb, hml, hown, hts⟩ hM hS hP (c7_mergedBy l D tc zb b b1 (fun k9 => match k9 with | 0 => .int (nI 0) | 2 => .ref b2 | 3 => .ref b3 | 4 => .int (nI n) | 5 => .ref b4 | 6 => .ref b5 | 7 => .ref b6 | 8 => .int (nI ln) | _ => .null) g s9 b9 hk (by first | omega | exact ok5 _ (by omega)) (by first | omega | exact byf_lt _)) gX7_joinCost_X7_mergedBy rfl (by decide +kernel) ⟨Nat.le_of_ble_eq_true rfl, Nat.le_of_ble_eq_true rfl⟩ [0, 1] rfl (va_recv hM.1 hP (ci := 6) (q0 := 0) rfl rfl) rfl hl.1 rfl (Nat.le_of_ble_eq_true rfl) dX7_joinCost_42 ⟨Nat.le_refl _, Nat.le_refl _⟩ ?_
    cases ho42 : k_ms g s9 b9 6 with
    | none =>
      refine ln_eq (x' := -1) rfl ?_
      refine lv_istore (lv' := [(7, .int (-1)), (6, .int (nI r33)), (0, .ref b), (1, .int (nI f9)), (2, .int (nI s9)), (3, .int (nI a9)), (4, .int (nI b9)), (5, .int (nI 1))]) hx hb dX7_joinCost_45 hl (by decide) rfl (fun ls hl => ?_)
      refine lv_iload hx hb dX7_joinCost_47 (lv_at hl 1 rfl) ?_
      refine lv_iconst (v := (-1)) hx hb dX7_joinCost_49 (by decide) ?_
      refine ln_eq_m1 (tgt := 59) hx hb dX7_joinCost_50 (by decide) (by omega) ?_
      refine lv_iload hx hb dX7_joinCost_53 (lv_at hl 0 rfl) ?_
      refine lv_iconst (v := (-1)) hx hb dX7_joinCost_55 (by decide) ?_
      refine lv_icmp_ne (tgt := 63) hx hb dX7_joinCost_56 (by decide) (fun h9 => False.elim (by revert h9; decide)) (fun _ => ?_)
      refine lv_iconst (v := (-1)) hx hb dX7_joinCost_59 (by decide) ?_
      refine lv_goto (tgt := 68) hx hb dX7_joinCost_60 (by decide) ?_
      exact ip_iret hx hb hr hlk dX7_joinCost_68 hS (show oI none = _ from congrArg oI (by simp only [k_jm, ho33, ho42])) hP
    | some r42 =>
      refine ln_eq (x' := nI r42) rfl ?_
      have hr8 := k_ms_le ho42
      refine lv_istore (lv' := [(7, .int (nI r42)), (6, .int (nI r33)), (0, .ref b), (1, .int (nI f9)), (2, .int (nI s9)), (3, .int (nI a9)), (4, .int (nI b9)), (5, .int (nI 1))]) hx hb dX7_joinCost_45 hl (by decide) rfl (fun ls hl => ?_)
      refine lv_iload hx hb dX7_joinCost_47 (lv_at hl 1 rfl) ?_
      refine lv_iconst (v := (-1)) hx hb dX7_joinCost_49 (by decide) ?_
      refine ln_eq_m1 (tgt := 59) hx hb dX7_joinCost_50 (by decide) (by omega) ?_
      refine lv_iload hx hb dX7_joinCost_53 (lv_at hl 0 rfl) ?_
      refine lv_iconst (v := (-1)) hx hb dX7_joinCost_55 (by decide) ?_
      refine ln_ne_m1 (tgt := 63) hx hb dX7_joinCost_56 (by decide) (by omega) ?_
      refine lv_iload hx hb dX7_joinCost_63 (lv_at hl 1 rfl) ?_
      refine lv_iload hx hb dX7_joinCost_65 (lv_at hl 0 rfl) ?_
      refine ln_iadd hx hb dX7_joinCost_67 ?_
      exact ip_iret hx hb hr hlk dX7_joinCost_68 hS (show oI (some (r33 + r42)) = _ from congrArg oI (by simp only [k_jm, ho33, ho42])) hP
set_option maxHeartbeats 4000000 in
set_option maxRecDepth 100000 in
theorem c7_joinCost_l (l : Launch) (D : va_G) (tc : Nat → ClassId) (zb : Nat) (b b1 b2 b3 b4 b5 b6 : Nat) (th : Int32) (g ga sv : Nat → Nat) (n : Nat) (sl : Nat → Nat) (iz : Nat → Bool) (u : Nat → Nat) (ln : Nat) (f9 s9 a9 b9 : Nat) (hk : k_ok g) (hn : n ≤ 14) (hln : ln ≤ 100) (hu : ∀ k, u k < 256) (hf9 : f9 < 1331) (hs9 : s9 < 1331) (ha9 : a9 < 3) (hb9 : b9 < 3) : IP l yX7_joinCost wsX7_joinCost 7 160 D tc zb (w_md tc b b1 b2 b3 b4 b5 b6 th g ga sv n sl iz u ln) (w_md tc b b1 b2 b3 b4 b5 b6 (nI 0) g ga sv n sl iz u ln) [.ref b, .int (nI f9), .int (nI s9), .int (nI a9), .int (nI b9), .int (nI 0)] (some (.int (nI (k_jcs g f9 s9 a9 b9 (g 0))))) := by
  refine IP.of (cc := cX7_joinCost) (maxL := 9) (ret := (some .int)) (by decide) rfl (Nat.le_of_ble_eq_true rfl) ?_
  intro p e s m args below meth c A hx hb hr hml hlk hts hown hM hS hP hD ls hl
  have hl : lv_has ls 9 [(0, .ref b), (1, .int (nI f9)), (2, .int (nI s9)), (3, .int (nI a9)), (4, .int (nI b9)), (5, .int (nI 0))] := hl
  have hinX7 : ∀ w ∈ u_ws RX7 TX7 9, w ∈ wsX7_joinCost := by decide +kernel
  obtain ⟨ok0, ok1, ok2, ok3, ok4, ok5, ok6⟩ := id hk
  have hk41 : g 41 < 64 := ok1
  refine lv_aload_n hx hb dX7_joinCost_0 rfl (lv_at hl 0 rfl) ?_
  refine lv_iload_n hx hb dX7_joinCost_1 rfl (lv_at hl 1 rfl) ?_
  refine lv_iload_n hx hb dX7_joinCost_2 rfl (lv_at hl 2 rfl) ?_
  refine lv_iload_n hx hb dX7_joinCost_3 rfl (lv_at hl 3 rfl) ?_
  refine lv_iload hx hb dX7_joinCost_4 (lv_at hl 4 rfl) ?_
  refine ro_S (n := 4) ⟨hx, hb, hml, hown, hts⟩ hM hS hP (c7_isJoin_ok l D tc zb f9 s9 a9 b9 (by omega) (by omega) (by omega) (by omega)) gX7_joinCost_X7_isJoin rfl (by decide +kernel) ⟨Nat.le_of_ble_eq_true rfl, Nat.le_of_ble_eq_true rfl⟩ [] rfl rfl hl.1 rfl (Nat.le_of_ble_eq_true rfl) dX7_joinCost_6 ⟨Nat.le_refl _, Nat.le_refl _⟩ ?_
  refine lv_if_eq (tgt := 16) hx hb dX7_joinCost_9 (by decide) (fun h9 => False.elim (by revert h9; decide)) (fun _ => ?_)
  refine lv_iconst (v := (nI 0)) hx hb dX7_joinCost_12 (by decide) ?_
  refine lv_goto (tgt := 17) hx hb dX7_joinCost_13 (by decide) ?_
  refine ip_V (C := RX7) (n := 1) (wl' := [(b, .inr (6, [.int (nI 0), .ref b1, .ref b2, .ref b3, .int (nI n), .ref b4, .ref b5, .ref b6, .int (nI ln)])), (b1, .inl (tc 0, 60, .inl ((fun k => nI (g k))))), (b2, .inl (tc 0, 60, .inl ((fun k => nI (ga k))))), (b3, .inl (tc 0, 840, .inl ((fun k => nI (sv k))))), (b4, .inl (tc 0, 120, .inl ((fun k => nI (sl k))))), (b5, .inl (tc 3, 2, .inl ((fun k => bI (iz k))))), (b6, .inl (tc 2, 100, .inl ((fun k => byI (u k)))))]) ⟨hx, hb, hml, hown, hts⟩ hM hS hP hD (c7_holds0 l D tc zb b th (fun k9 => match k9 with | 1 => .ref b1 | 2 => .ref b2 | 3 => .ref b3 | 4 => .int (nI n) | 5 => .ref b4 | 6 => .ref b5 | 7 => .ref b6 | 8 => .int (nI ln) | _ => .null)) gX7_joinCost_X7_holds rfl (by decide +kernel) ⟨Nat.le_of_ble_eq_true rfl, Nat.le_of_ble_eq_true rfl⟩ [0] rfl rfl [(true, 0), (false, 1), (false, 2), (false, 3), (false, 4), (false, 5), (false, 6)] rfl rfl rfl (va_recv hM.1 hP (ci := 6) (q0 := 0) rfl rfl) rfl hl.1 rfl (Nat.le_of_ble_eq_true rfl) dX7_joinCost_17 ⟨Nat.le_refl _, Nat.le_refl _⟩ (fun H locs hP hD hS => ?_)
  refine W.eq (g2 := F0 m 20 ls [.int (bI (true))]) rfl ?_
  refine lv_if_ne (tgt := 25) hx hb dX7_joinCost_20 (by decide) (fun _ => ?_) (fun h9 => False.elim (by revert h9; decide))
  refine lv_iload hx hb dX7_joinCost_25 (lv_at hl 5 rfl) ?_
  refine lv_if_eq (tgt := 69) hx hb dX7_joinCost_27 (by decide) (fun _ => ?_) (fun h9 => False.elim (by revert h9; decide))
  refine lv_aload_n hx hb dX7_joinCost_69 rfl (lv_at hl 0 rfl) ?_
  refine lv_iload_n hx hb dX7_joinCost_70 rfl (lv_at hl 1 rfl) ?_
  refine lv_aload_n hx hb dX7_joinCost_71 rfl (lv_at hl 0 rfl) ?_
  refine va_get (D := D) (ci := 6) (v := .ref b1) (C := RX7) (T := TX7) (N := 9) hx hb hts hinX7 hown hM.1 hP 0 rfl rfl 1 (by decide) (hts (.fieldLink RX7 7 "TripleWaysModel" "s" "[I") (by decide +kernel)) (fun _ h9 => h9) rfl dX7_joinCost_72 ?_
  refine lv_bipush (v := (nI 41)) hx hb dX7_joinCost_75 (by decide) ?_
  refine ln_iald hx hb hM.1 hP 1 0 rfl rfl dX7_joinCost_77 (by decide) (by omega) (rfl) ?_
  refine ro_V (C := RX7) (n := 2) ⟨hx, hb, hml, hown, hts⟩ hM hS hP (c7_costOf l D tc zb b b1 (fun k9 => match k9 with | 0 => .int (nI 0) | 2 => .ref b2 | 3 => .ref b3 | 4 => .int (nI n) | 5 => .ref b4 | 6 => .ref b5 | 7 => .ref b6 | 8 => .int (nI ln) | _ => .null) g f9 (g 41) hk (by first | omega | exact ok5 _ (by omega)) (by omega)) gX7_joinCost_X7_costOf rfl (by decide +kernel) ⟨Nat.le_of_ble_eq_true rfl, Nat.le_of_ble_eq_true rfl⟩ [0, 1] rfl (va_recv hM.1 hP (ci := 6) (q0 := 0) rfl rfl) rfl hl.1 rfl (Nat.le_of_ble_eq_true rfl) dX7_joinCost_78 ⟨Nat.le_refl _, Nat.le_refl _⟩ ?_
  have hf1 := k_mn_le g f9 (g 41) 6
  refine lv_istore (lv' := [(6, .int (nI (k_mn g f9 (g 41) 6))), (0, .ref b), (1, .int (nI f9)), (2, .int (nI s9)), (3, .int (nI a9)), (4, .int (nI b9)), (5, .int (nI 0))]) hx hb dX7_joinCost_81 hl (by decide) rfl (fun ls hl => ?_)
  refine lv_iconst (v := (nI 0)) hx hb dX7_joinCost_83 (by decide) ?_
  refine lv_istore (lv' := [(7, .int (nI 0)), (6, .int (nI (k_mn g f9 (g 41) 6))), (0, .ref b), (1, .int (nI f9)), (2, .int (nI s9)), (3, .int (nI a9)), (4, .int (nI b9)), (5, .int (nI 0))]) hx hb dX7_joinCost_84 hl (by decide) rfl (fun ls hl => ?_)
  have lp86 : ∀ (n9 : Nat) (acc : Nat) (i : Nat), (g 0 - i) < n9 → (i ≤ g 0) → (acc = k_jcs g f9 s9 a9 b9 i) → ∀ (H : Heap) (locs : List Loc), va_P D vwCl [(b, .inr (6, [.int (nI 0), .ref b1, .ref b2, .ref b3, .int (nI n), .ref b4, .ref b5, .ref b6, .int (nI ln)])), (b1, .inl (tc 0, 60, .inl ((fun k => nI (g k))))), (b2, .inl (tc 0, 60, .inl ((fun k => nI (ga k))))), (b3, .inl (tc 0, 840, .inl ((fun k => nI (sv k))))), (b4, .inl (tc 0, 120, .inl ((fun k => nI (sl k))))), (b5, .inl (tc 3, 2, .inl ((fun k => bI (iz k))))), (b6, .inl (tc 2, 100, .inl ((fun k => byI (u k)))))] H → va_D A [(b, .inr (6, [.int (nI 0), .ref b1, .ref b2, .ref b3, .int (nI n), .ref b4, .ref b5, .ref b6, .int (nI ln)])), (b1, .inl (tc 0, 60, .inl ((fun k => nI (g k))))), (b2, .inl (tc 0, 60, .inl ((fun k => nI (ga k))))), (b3, .inl (tc 0, 840, .inl ((fun k => nI (sv k))))), (b4, .inl (tc 0, 120, .inl ((fun k => nI (sl k))))), (b5, .inl (tc 3, 2, .inl ((fun k => bI (iz k))))), (b6, .inl (tc 2, 100, .inl ((fun k => byI (u k)))))] → va_S A s.heap H locs → ∀ ls : Array Slot, lv_has ls 9 [(7, .int (nI i)), (6, .int (nI acc)), (0, .ref b), (1, .int (nI f9)), (2, .int (nI s9)), (3, .int (nI a9)), (4, .int (nI b9))] → W p l e ({ frames := 7, cells := 0, slots := 0, locals := 160 } : Room) s m args below meth c H locs 0 0 (MQ below (ipQ D A (w_md tc b b1 b2 b3 b4 b5 b6 (nI 0) g ga sv n sl iz u ln) (some (.int (nI (k_jcs g f9 s9 a9 b9 (g 0)))))) args s 0 0 A) (F0 m 86 ls []) := by
    intro n9
    induction n9 with
    | zero => intro acc i hmu; exact absurd hmu (Nat.not_lt_zero _)
    | succ n9 ih86 =>
      intro acc i hmu hi hv H locs hP hD hS ls hl
      refine lv_iload hx hb dX7_joinCost_86 (lv_at hl 0 rfl) ?_
      refine lv_aload_n hx hb dX7_joinCost_88 rfl (lv_at hl 2 rfl) ?_
      refine va_get (D := D) (ci := 6) (v := .ref b1) (C := RX7) (T := TX7) (N := 9) hx hb hts hinX7 hown hM.1 hP 0 rfl rfl 1 (by decide) (hts (.fieldLink RX7 7 "TripleWaysModel" "s" "[I") (by decide +kernel)) (fun _ h9 => h9) rfl dX7_joinCost_89 ?_
      refine lv_iconst (v := (nI 0)) hx hb dX7_joinCost_92 (by decide) ?_
      refine ln_iald hx hb hM.1 hP 1 0 rfl rfl dX7_joinCost_93 (by decide) (by omega) (rfl) ?_
      refine ln_icmp_ge (tgt := 172) hx hb dX7_joinCost_94 (by decide) (by omega) (by omega) (fun h2 => ?_) (fun h2 => ?_)
      · refine lv_iload hx hb dX7_joinCost_172 (lv_at hl 1 rfl) ?_
        exact ip_iret hx hb hr hlk dX7_joinCost_174 hS (congrArg nI (by have e9 : i = g 0 := (by omega); subst e9; exact hv)) hP
      · have hpt9 := k_pt_le (c := a9) (ok4 i (by omega))
        have hti9 := ok4 i (by omega)
        refine lv_iload_n hx hb dX7_joinCost_97 rfl (lv_at hl 3 rfl) ?_
        refine lv_aload_n hx hb dX7_joinCost_98 rfl (lv_at hl 2 rfl) ?_
        refine va_get (D := D) (ci := 6) (v := .ref b1) (C := RX7) (T := TX7) (N := 9) hx hb hts hinX7 hown hM.1 hP 0 rfl rfl 1 (by decide) (hts (.fieldLink RX7 7 "TripleWaysModel" "s" "[I") (by decide +kernel)) (fun _ h9 => h9) rfl dX7_joinCost_99 ?_
        refine lv_iconst (v := (nI 1)) hx hb dX7_joinCost_102 (by decide) ?_
        refine lv_iload hx hb dX7_joinCost_103 (lv_at hl 0 rfl) ?_
        refine ln_iadd hx hb dX7_joinCost_105 ?_
        refine ln_iald hx hb hM.1 hP 1 0 rfl rfl dX7_joinCost_106 (by decide) (by omega) (rfl) ?_
        refine ro_S (n := 2) ⟨hx, hb, hml, hown, hts⟩ hM hS hP (c7_isAnswer l D tc zb f9 (g (1 + i)) (by first | omega | exact ok5 _ (by omega)) (by first | omega | exact ok4 _ (by omega))) gX7_joinCost_X7_isAnswer rfl (by decide +kernel) ⟨Nat.le_of_ble_eq_true rfl, Nat.le_of_ble_eq_true rfl⟩ [] rfl rfl hl.1 rfl (Nat.le_of_ble_eq_true rfl) dX7_joinCost_107 ⟨Nat.le_refl _, Nat.le_refl _⟩ ?_
        refine ln_if_eqB (tgt := 135) hx hb dX7_joinCost_110 (by decide) (fun h3 => ?_) (fun h3 => ?_)
        · refine lv_iconst (v := (-1)) hx hb dX7_joinCost_135 (by decide) ?_
          refine lv_istore (lv' := [(8, .int (-1)), (7, .int (nI i)), (6, .int (nI acc)), (0, .ref b), (1, .int (nI f9)), (2, .int (nI s9)), (3, .int (nI a9)), (4, .int (nI b9))]) hx hb dX7_joinCost_136 hl (by decide) rfl (fun ls hl => ?_)
          refine lv_iload hx hb dX7_joinCost_138 (lv_at hl 2 rfl) ?_
          refine lv_iload hx hb dX7_joinCost_140 (lv_at hl 0 rfl) ?_
          refine lv_iconst (v := (-1)) hx hb dX7_joinCost_142 (by decide) ?_
          refine lv_icmp_ne (tgt := 150) hx hb dX7_joinCost_143 (by decide) (fun h9 => False.elim (by revert h9; decide)) (fun _ => ?_)
          refine lv_iconst (v := (nI 0)) hx hb dX7_joinCost_146 (by decide) ?_
          refine lv_goto (tgt := 163) hx hb dX7_joinCost_147 (by decide) ?_
          refine ln_iadd hx hb dX7_joinCost_163 ?_
          refine lv_istore (lv' := [(6, .int (nI (acc + 0))), (8, .int (-1)), (7, .int (nI i)), (0, .ref b), (1, .int (nI f9)), (2, .int (nI s9)), (3, .int (nI a9)), (4, .int (nI b9))]) hx hb dX7_joinCost_164 hl (by decide) rfl (fun ls hl => ?_)
          refine lv_iinc (v := (nI (i + 1))) (lv' := [(7, .int (nI (i + 1))), (6, .int (nI (acc + 0))), (8, .int (-1)), (0, .ref b), (1, .int (nI f9)), (2, .int (nI s9)), (3, .int (nI a9)), (4, .int (nI b9))]) hx hb dX7_joinCost_166 hl (k := 2) rfl (nI_add i 1) (by decide) rfl (fun ls hl => ?_)
          refine lv_goto (tgt := 86) hx hb dX7_joinCost_169 (by decide) ?_
          exact ih86 (acc + 0) (i + 1) (by omega) (by omega) (by first | (rw [k_jcs, show k_bo g f9 s9 a9 b9 i = _ from (if_pos (by assumption)).trans ho129, ← hv]; rfl) | (rw [k_jcs, show k_bo g f9 s9 a9 b9 i = none from if_neg (by rw [Bool.not_eq_true]; assumption), ← hv]; rfl)) _ _ hP hD hS _ (lv_sub hl [0, 1, 3, 4, 5, 6, 7] rfl)
        · refine lv_iload_n hx hb dX7_joinCost_113 rfl (lv_at hl 4 rfl) ?_
          refine lv_iload hx hb dX7_joinCost_114 (lv_at hl 6 rfl) ?_
          refine lv_aload_n hx hb dX7_joinCost_116 rfl (lv_at hl 2 rfl) ?_
          refine va_get (D := D) (ci := 6) (v := .ref b1) (C := RX7) (T := TX7) (N := 9) hx hb hts hinX7 hown hM.1 hP 0 rfl rfl 1 (by decide) (hts (.fieldLink RX7 7 "TripleWaysModel" "s" "[I") (by decide +kernel)) (fun _ h9 => h9) rfl dX7_joinCost_117 ?_
          refine lv_iconst (v := (nI 1)) hx hb dX7_joinCost_120 (by decide) ?_
          refine lv_iload hx hb dX7_joinCost_121 (lv_at hl 0 rfl) ?_
          refine ln_iadd hx hb dX7_joinCost_123 ?_
          refine ln_iald hx hb hM.1 hP 1 0 rfl rfl dX7_joinCost_124 (by decide) (by omega) (rfl) ?_
          refine lv_iload_n hx hb dX7_joinCost_125 rfl (lv_at hl 5 rfl) ?_
          refine ro_S (n := 2) ⟨hx, hb, hml, hown, hts⟩ hM hS hP (c7_partOf l D tc zb (g (1 + i)) a9 (by first | omega | exact ok4 _ (by omega)) (by first | omega | exact byf_lt _)) gX7_joinCost_X7_partOf rfl (by decide +kernel) ⟨Nat.le_of_ble_eq_true rfl, Nat.le_of_ble_eq_true rfl⟩ [] rfl rfl hl.1 rfl (Nat.le_of_ble_eq_true rfl) dX7_joinCost_126 ⟨Nat.le_refl _, Nat.le_refl _⟩ ?_
          have hf4 := show k_pt (g (1 + i)) a9 ≤ 9 from k_pt_le (by first | omega | exact ok4 _ (by omega))
          refine ro_S (n := 3) ⟨hx, hb, hml, hown, hts⟩ hM hS hP (c7_bind l D tc zb s9 b9 (k_pt (g (1 + i)) a9) (by omega) (by omega) (by omega)) gX7_joinCost_X7_bind rfl (by decide +kernel) ⟨Nat.le_of_ble_eq_true rfl, Nat.le_of_ble_eq_true rfl⟩ [] rfl rfl hl.1 rfl (Nat.le_of_ble_eq_true rfl) dX7_joinCost_129 ⟨Nat.le_refl _, Nat.le_refl _⟩ ?_
          cases ho129 : k_bt s9 b9 (k_pt (g (1 + i)) a9) with
          | none =>
            refine ln_eq (x' := -1) rfl ?_
            refine lv_goto (tgt := 136) hx hb dX7_joinCost_132 (by decide) ?_
            refine lv_istore (lv' := [(8, .int (-1)), (7, .int (nI i)), (6, .int (nI acc)), (0, .ref b), (1, .int (nI f9)), (2, .int (nI s9)), (3, .int (nI a9)), (4, .int (nI b9))]) hx hb dX7_joinCost_136 hl (by decide) rfl (fun ls hl => ?_)
            refine lv_iload hx hb dX7_joinCost_138 (lv_at hl 2 rfl) ?_
            refine lv_iload hx hb dX7_joinCost_140 (lv_at hl 0 rfl) ?_
            refine lv_iconst (v := (-1)) hx hb dX7_joinCost_142 (by decide) ?_
            refine lv_icmp_ne (tgt := 150) hx hb dX7_joinCost_143 (by decide) (fun h9 => False.elim (by revert h9; decide)) (fun _ => ?_)
            refine lv_iconst (v := (nI 0)) hx hb dX7_joinCost_146 (by decide) ?_
            refine lv_goto (tgt := 163) hx hb dX7_joinCost_147 (by decide) ?_
            refine ln_iadd hx hb dX7_joinCost_163 ?_
            refine lv_istore (lv' := [(6, .int (nI (acc + 0))), (8, .int (-1)), (7, .int (nI i)), (0, .ref b), (1, .int (nI f9)), (2, .int (nI s9)), (3, .int (nI a9)), (4, .int (nI b9))]) hx hb dX7_joinCost_164 hl (by decide) rfl (fun ls hl => ?_)
            refine lv_iinc (v := (nI (i + 1))) (lv' := [(7, .int (nI (i + 1))), (6, .int (nI (acc + 0))), (8, .int (-1)), (0, .ref b), (1, .int (nI f9)), (2, .int (nI s9)), (3, .int (nI a9)), (4, .int (nI b9))]) hx hb dX7_joinCost_166 hl (k := 2) rfl (nI_add i 1) (by decide) rfl (fun ls hl => ?_)
            refine lv_goto (tgt := 86) hx hb dX7_joinCost_169 (by decide) ?_
            exact ih86 (acc + 0) (i + 1) (by omega) (by omega) (by first | (rw [k_jcs, show k_bo g f9 s9 a9 b9 i = _ from (if_pos (by assumption)).trans ho129, ← hv]; rfl) | (rw [k_jcs, show k_bo g f9 s9 a9 b9 i = none from if_neg (by rw [Bool.not_eq_true]; assumption), ← hv]; rfl)) _ _ hP hD hS _ (lv_sub hl [0, 1, 3, 4, 5, 6, 7] rfl)
          | some r129 =>
            refine ln_eq (x' := nI r129) rfl ?_
            have hr9 := k_bt_lt (by omega) ho129
            refine lv_goto (tgt := 136) hx hb dX7_joinCost_132 (by decide) ?_
            refine lv_istore (lv' := [(8, .int (nI r129)), (7, .int (nI i)), (6, .int (nI acc)), (0, .ref b), (1, .int (nI f9)), (2, .int (nI s9)), (3, .int (nI a9)), (4, .int (nI b9))]) hx hb dX7_joinCost_136 hl (by decide) rfl (fun ls hl => ?_)
            refine lv_iload hx hb dX7_joinCost_138 (lv_at hl 2 rfl) ?_
            refine lv_iload hx hb dX7_joinCost_140 (lv_at hl 0 rfl) ?_
            refine lv_iconst (v := (-1)) hx hb dX7_joinCost_142 (by decide) ?_
            refine ln_ne_m1 (tgt := 150) hx hb dX7_joinCost_143 (by decide) (by omega) ?_
            refine lv_aload_n hx hb dX7_joinCost_150 rfl (lv_at hl 3 rfl) ?_
            refine lv_iload hx hb dX7_joinCost_151 (lv_at hl 0 rfl) ?_
            refine lv_aload_n hx hb dX7_joinCost_153 rfl (lv_at hl 3 rfl) ?_
            refine va_get (D := D) (ci := 6) (v := .ref b1) (C := RX7) (T := TX7) (N := 9) hx hb hts hinX7 hown hM.1 hP 0 rfl rfl 1 (by decide) (hts (.fieldLink RX7 7 "TripleWaysModel" "s" "[I") (by decide +kernel)) (fun _ h9 => h9) rfl dX7_joinCost_154 ?_
            refine lv_bipush (v := (nI 41)) hx hb dX7_joinCost_157 (by decide) ?_
            refine ln_iald hx hb hM.1 hP 1 0 rfl rfl dX7_joinCost_159 (by decide) (by omega) (rfl) ?_
            refine ro_V (C := RX7) (n := 2) ⟨hx, hb, hml, hown, hts⟩ hM hS hP (c7_costOf l D tc zb b b1 (fun k9 => match k9 with | 0 => .int (nI 0) | 2 => .ref b2 | 3 => .ref b3 | 4 => .int (nI n) | 5 => .ref b4 | 6 => .ref b5 | 7 => .ref b6 | 8 => .int (nI ln) | _ => .null) g r129 (g 41) hk (by first | omega | exact ok5 _ (by omega)) (by omega)) gX7_joinCost_X7_costOf rfl (by decide +kernel) ⟨Nat.le_of_ble_eq_true rfl, Nat.le_of_ble_eq_true rfl⟩ [0, 1] rfl (va_recv hM.1 hP (ci := 6) (q0 := 0) rfl rfl) rfl hl.1 rfl (Nat.le_of_ble_eq_true rfl) dX7_joinCost_160 ⟨Nat.le_refl _, Nat.le_refl _⟩ ?_
            have hf5 := k_mn_le g r129 (g 41) 6
            refine ln_iadd hx hb dX7_joinCost_163 ?_
            refine lv_istore (lv' := [(6, .int (nI (acc + (k_mn g r129 (g 41) 6)))), (8, .int (nI r129)), (7, .int (nI i)), (0, .ref b), (1, .int (nI f9)), (2, .int (nI s9)), (3, .int (nI a9)), (4, .int (nI b9))]) hx hb dX7_joinCost_164 hl (by decide) rfl (fun ls hl => ?_)
            refine lv_iinc (v := (nI (i + 1))) (lv' := [(7, .int (nI (i + 1))), (6, .int (nI (acc + (k_mn g r129 (g 41) 6)))), (8, .int (nI r129)), (0, .ref b), (1, .int (nI f9)), (2, .int (nI s9)), (3, .int (nI a9)), (4, .int (nI b9))]) hx hb dX7_joinCost_166 hl (k := 2) rfl (nI_add i 1) (by decide) rfl (fun ls hl => ?_)
            refine lv_goto (tgt := 86) hx hb dX7_joinCost_169 (by decide) ?_
            exact ih86 (acc + (k_mn g r129 (g 41) 6)) (i + 1) (by omega) (by omega) (by first | (rw [k_jcs, show k_bo g f9 s9 a9 b9 i = _ from (if_pos (by assumption)).trans ho129, ← hv]; rfl) | (rw [k_jcs, show k_bo g f9 s9 a9 b9 i = none from if_neg (by rw [Bool.not_eq_true]; assumption), ← hv]; rfl)) _ _ hP hD hS _ (lv_sub hl [0, 1, 3, 4, 5, 6, 7] rfl)
  exact lp86 _ (k_mn g f9 (g 41) 6) 0 (Nat.lt_succ_self _) (by omega) (by rfl) _ _ hP hD hS _ (lv_sub hl [0, 1, 2, 3, 4, 5, 6] rfl)
set_option maxHeartbeats 4000000 in
set_option maxRecDepth 100000 in
theorem c7_joinCost_b1_0 (l : Launch) (D : va_G) (tc : Nat → ClassId) (zb : Nat) (b b1 b2 b3 b4 b5 b6 : Nat) (th : Int32) (g ga sv : Nat → Nat) (n : Nat) (sl : Nat → Nat) (iz : Nat → Bool) (u : Nat → Nat) (ln : Nat) (pp p2 p3 p4 : Int32) (hk : k_ok g) (hn : n ≤ 14) (hln : ln ≤ 100) (hu : ∀ k, u k < 256) (hj : ¬ ((nI 0 ≤ pp ∧ pp ≤ nI 1330) ∧ (nI 0 ≤ p2 ∧ p2 ≤ nI 1330) ∧ (nI 0 ≤ p3 ∧ p3 ≤ nI 2) ∧ (nI 0 ≤ p4 ∧ p4 ≤ nI 2))) : IP l yX7_joinCost wsX7_joinCost 3 68 D tc zb (w_md tc b b1 b2 b3 b4 b5 b6 th g ga sv n sl iz u ln) (w_md tc b b1 b2 b3 b4 b5 b6 (nI 1) g ga sv n sl iz u ln) [.ref b, .int (pp), .int (p2), .int (p3), .int (p4), .int (nI 0)] (some (.int (nI 0))) := by
  refine IP.of (cc := cX7_joinCost) (maxL := 9) (ret := (some .int)) (by decide) rfl (Nat.le_of_ble_eq_true rfl) ?_
  intro p e s m args below meth c A hx hb hr hml hlk hts hown hM hS hP hD ls hl
  have hl : lv_has ls 9 [(0, .ref b), (1, .int (pp)), (2, .int (p2)), (3, .int (p3)), (4, .int (p4)), (5, .int (nI 0))] := hl
  obtain ⟨ok0, ok1, ok2, ok3, ok4, ok5, ok6⟩ := id hk
  refine lv_aload_n hx hb dX7_joinCost_0 rfl (lv_at hl 0 rfl) ?_
  refine lv_iload_n hx hb dX7_joinCost_1 rfl (lv_at hl 1 rfl) ?_
  refine lv_iload_n hx hb dX7_joinCost_2 rfl (lv_at hl 2 rfl) ?_
  refine lv_iload_n hx hb dX7_joinCost_3 rfl (lv_at hl 3 rfl) ?_
  refine lv_iload hx hb dX7_joinCost_4 (lv_at hl 4 rfl) ?_
  refine ro_S (n := 4) ⟨hx, hb, hml, hown, hts⟩ hM hS hP (c7_isJoin_raw l D tc zb ((pp)) ((p2)) ((p3)) ((p4))) gX7_joinCost_X7_isJoin rfl (by decide +kernel) ⟨Nat.le_of_ble_eq_true rfl, Nat.le_of_ble_eq_true rfl⟩ [] rfl rfl hl.1 rfl (Nat.le_of_ble_eq_true rfl) dX7_joinCost_6 ⟨Nat.le_refl _, Nat.le_refl _⟩ ?_
  refine ln_if_eqB (tgt := 16) hx hb dX7_joinCost_9 (by decide) (fun h1 => ?_) (fun h1 => ?_)
  · have h1 := of_decide_eq_false h1
    refine lv_iconst (v := (nI 1)) hx hb dX7_joinCost_16 (by decide) ?_
    refine ip_V (C := RX7) (n := 1) (wl' := [(b, .inr (6, [.int (nI 1), .ref b1, .ref b2, .ref b3, .int (nI n), .ref b4, .ref b5, .ref b6, .int (nI ln)])), (b1, .inl (tc 0, 60, .inl ((fun k => nI (g k))))), (b2, .inl (tc 0, 60, .inl ((fun k => nI (ga k))))), (b3, .inl (tc 0, 840, .inl ((fun k => nI (sv k))))), (b4, .inl (tc 0, 120, .inl ((fun k => nI (sl k))))), (b5, .inl (tc 3, 2, .inl ((fun k => bI (iz k))))), (b6, .inl (tc 2, 100, .inl ((fun k => byI (u k)))))]) ⟨hx, hb, hml, hown, hts⟩ hM hS hP hD (c7_holdsP l D tc zb b th (fun k9 => match k9 with | 1 => .ref b1 | 2 => .ref b2 | 3 => .ref b3 | 4 => .int (nI n) | 5 => .ref b4 | 6 => .ref b5 | 7 => .ref b6 | 8 => .int (nI ln) | _ => .null) 1 (by omega)) gX7_joinCost_X7_holds rfl (by decide +kernel) ⟨Nat.le_of_ble_eq_true rfl, Nat.le_of_ble_eq_true rfl⟩ [0] rfl rfl [(true, 0), (false, 1), (false, 2), (false, 3), (false, 4), (false, 5), (false, 6)] rfl rfl rfl (va_recv hM.1 hP (ci := 6) (q0 := 0) rfl rfl) rfl hl.1 rfl (Nat.le_of_ble_eq_true rfl) dX7_joinCost_17 ⟨Nat.le_refl _, Nat.le_refl _⟩ (fun H locs hP hD hS => ?_)
    refine W.eq (g2 := F0 m 20 ls [.int (bI (false))]) rfl ?_
    refine lv_if_ne (tgt := 25) hx hb dX7_joinCost_20 (by decide) (fun h9 => False.elim (by revert h9; decide)) (fun _ => ?_)
    refine lv_iconst (v := (nI 0)) hx hb dX7_joinCost_23 (by decide) ?_
    exact ip_iret hx hb hr hlk dX7_joinCost_24 hS (rfl) hP
  · have h1 := of_decide_eq_true h1
    exact absurd (by assumption) hj
set_option maxHeartbeats 4000000 in
set_option maxRecDepth 100000 in
theorem c7_joinCost_b1_1 (l : Launch) (D : va_G) (tc : Nat → ClassId) (zb : Nat) (b b1 b2 b3 b4 b5 b6 : Nat) (th : Int32) (g ga sv : Nat → Nat) (n : Nat) (sl : Nat → Nat) (iz : Nat → Bool) (u : Nat → Nat) (ln : Nat) (pp p2 p3 p4 : Int32) (hk : k_ok g) (hn : n ≤ 14) (hln : ln ≤ 100) (hu : ∀ k, u k < 256) (hj : ¬ ((nI 0 ≤ pp ∧ pp ≤ nI 1330) ∧ (nI 0 ≤ p2 ∧ p2 ≤ nI 1330) ∧ (nI 0 ≤ p3 ∧ p3 ≤ nI 2) ∧ (nI 0 ≤ p4 ∧ p4 ≤ nI 2))) : IP l yX7_joinCost wsX7_joinCost 3 68 D tc zb (w_md tc b b1 b2 b3 b4 b5 b6 th g ga sv n sl iz u ln) (w_md tc b b1 b2 b3 b4 b5 b6 (nI 1) g ga sv n sl iz u ln) [.ref b, .int (pp), .int (p2), .int (p3), .int (p4), .int (nI 1)] (some (.int (nI 0))) := by
  refine IP.of (cc := cX7_joinCost) (maxL := 9) (ret := (some .int)) (by decide) rfl (Nat.le_of_ble_eq_true rfl) ?_
  intro p e s m args below meth c A hx hb hr hml hlk hts hown hM hS hP hD ls hl
  have hl : lv_has ls 9 [(0, .ref b), (1, .int (pp)), (2, .int (p2)), (3, .int (p3)), (4, .int (p4)), (5, .int (nI 1))] := hl
  obtain ⟨ok0, ok1, ok2, ok3, ok4, ok5, ok6⟩ := id hk
  refine lv_aload_n hx hb dX7_joinCost_0 rfl (lv_at hl 0 rfl) ?_
  refine lv_iload_n hx hb dX7_joinCost_1 rfl (lv_at hl 1 rfl) ?_
  refine lv_iload_n hx hb dX7_joinCost_2 rfl (lv_at hl 2 rfl) ?_
  refine lv_iload_n hx hb dX7_joinCost_3 rfl (lv_at hl 3 rfl) ?_
  refine lv_iload hx hb dX7_joinCost_4 (lv_at hl 4 rfl) ?_
  refine ro_S (n := 4) ⟨hx, hb, hml, hown, hts⟩ hM hS hP (c7_isJoin_raw l D tc zb ((pp)) ((p2)) ((p3)) ((p4))) gX7_joinCost_X7_isJoin rfl (by decide +kernel) ⟨Nat.le_of_ble_eq_true rfl, Nat.le_of_ble_eq_true rfl⟩ [] rfl rfl hl.1 rfl (Nat.le_of_ble_eq_true rfl) dX7_joinCost_6 ⟨Nat.le_refl _, Nat.le_refl _⟩ ?_
  refine ln_if_eqB (tgt := 16) hx hb dX7_joinCost_9 (by decide) (fun h1 => ?_) (fun h1 => ?_)
  · have h1 := of_decide_eq_false h1
    refine lv_iconst (v := (nI 1)) hx hb dX7_joinCost_16 (by decide) ?_
    refine ip_V (C := RX7) (n := 1) (wl' := [(b, .inr (6, [.int (nI 1), .ref b1, .ref b2, .ref b3, .int (nI n), .ref b4, .ref b5, .ref b6, .int (nI ln)])), (b1, .inl (tc 0, 60, .inl ((fun k => nI (g k))))), (b2, .inl (tc 0, 60, .inl ((fun k => nI (ga k))))), (b3, .inl (tc 0, 840, .inl ((fun k => nI (sv k))))), (b4, .inl (tc 0, 120, .inl ((fun k => nI (sl k))))), (b5, .inl (tc 3, 2, .inl ((fun k => bI (iz k))))), (b6, .inl (tc 2, 100, .inl ((fun k => byI (u k)))))]) ⟨hx, hb, hml, hown, hts⟩ hM hS hP hD (c7_holdsP l D tc zb b th (fun k9 => match k9 with | 1 => .ref b1 | 2 => .ref b2 | 3 => .ref b3 | 4 => .int (nI n) | 5 => .ref b4 | 6 => .ref b5 | 7 => .ref b6 | 8 => .int (nI ln) | _ => .null) 1 (by omega)) gX7_joinCost_X7_holds rfl (by decide +kernel) ⟨Nat.le_of_ble_eq_true rfl, Nat.le_of_ble_eq_true rfl⟩ [0] rfl rfl [(true, 0), (false, 1), (false, 2), (false, 3), (false, 4), (false, 5), (false, 6)] rfl rfl rfl (va_recv hM.1 hP (ci := 6) (q0 := 0) rfl rfl) rfl hl.1 rfl (Nat.le_of_ble_eq_true rfl) dX7_joinCost_17 ⟨Nat.le_refl _, Nat.le_refl _⟩ (fun H locs hP hD hS => ?_)
    refine W.eq (g2 := F0 m 20 ls [.int (bI (false))]) rfl ?_
    refine lv_if_ne (tgt := 25) hx hb dX7_joinCost_20 (by decide) (fun h9 => False.elim (by revert h9; decide)) (fun _ => ?_)
    refine lv_iconst (v := (nI 0)) hx hb dX7_joinCost_23 (by decide) ?_
    exact ip_iret hx hb hr hlk dX7_joinCost_24 hS (rfl) hP
  · have h1 := of_decide_eq_true h1
    exact absurd (by assumption) hj
set_option maxHeartbeats 4000000 in
set_option maxRecDepth 100000 in
theorem c7_add_ok (l : Launch) (D : va_G) (tc : Nat → ClassId) (zb : Nat) (b b1 b2 b3 b4 b5 b6 : Nat) (th : Int32) (g ga sv : Nat → Nat) (n : Nat) (sl : Nat → Nat) (iz : Nat → Bool) (u : Nat → Nat) (ln : Nat) (t : Nat) (hk : k_ok g) (hn : n ≤ 14) (hln : ln ≤ 100) (hu : ∀ k, u k < 256) (ht : t < 1000) (hroom : g 0 < 40 ∨ k_ix g t ≠ none) : IP l yX7_add wsX7_add 3 63 D tc zb (w_md tc b b1 b2 b3 b4 b5 b6 th g ga sv n sl iz u ln) (w_md tc b b1 b2 b3 b4 b5 b6 (nI 0) ((m_put g t)) ga ((k_rem sv n g)) (k_n1 n + 1) sl iz u ln) [.ref b, .int (nI t)] (some (.int (nI (k_pv g t)))) := by
  refine IP.of (cc := cX7_add) (maxL := 2) (ret := (some .int)) (by decide) rfl (Nat.le_of_ble_eq_true rfl) ?_
  intro p e s m args below meth c A hx hb hr hml hlk hts hown hM hS hP hD ls hl
  have hl : lv_has ls 2 [(0, .ref b), (1, .int (nI t))] := hl
  obtain ⟨ok0, ok1, ok2, ok3, ok4, ok5, ok6⟩ := id hk
  refine lv_aload_n hx hb dX7_add_0 rfl (lv_at hl 0 rfl) ?_
  refine lv_aload_n hx hb dX7_add_1 rfl (lv_at hl 0 rfl) ?_
  refine lv_iload_n hx hb dX7_add_2 rfl (lv_at hl 1 rfl) ?_
  refine ro_V (C := RX7) (n := 1) ⟨hx, hb, hml, hown, hts⟩ hM hS hP (c7_addFault l D tc zb b b1 (fun k9 => match k9 with | 0 => .int (th) | 2 => .ref b2 | 3 => .ref b3 | 4 => .int (nI n) | 5 => .ref b4 | 6 => .ref b5 | 7 => .ref b6 | 8 => .int (nI ln) | _ => .null) g t hk (by first | omega | exact ok4 _ (by omega))) gX7_add_X7_addFault rfl (by decide +kernel) ⟨Nat.le_of_ble_eq_true rfl, Nat.le_of_ble_eq_true rfl⟩ [0, 1] rfl (va_recv hM.1 hP (ci := 6) (q0 := 0) rfl rfl) rfl hl.1 rfl (Nat.le_of_ble_eq_true rfl) dX7_add_3 ⟨Nat.le_refl _, Nat.le_refl _⟩ ?_
  have hf1 := k_af_le g t
  refine ln_eq (x' := (nI 0)) (congrArg nI (k_af_of hroom)) ?_
  refine ip_V (C := RX7) (n := 1) (wl' := [(b, .inr (6, [.int (nI 0), .ref b1, .ref b2, .ref b3, .int (nI n), .ref b4, .ref b5, .ref b6, .int (nI ln)])), (b1, .inl (tc 0, 60, .inl ((fun k => nI (g k))))), (b2, .inl (tc 0, 60, .inl ((fun k => nI (ga k))))), (b3, .inl (tc 0, 840, .inl ((fun k => nI (sv k))))), (b4, .inl (tc 0, 120, .inl ((fun k => nI (sl k))))), (b5, .inl (tc 3, 2, .inl ((fun k => bI (iz k))))), (b6, .inl (tc 2, 100, .inl ((fun k => byI (u k)))))]) ⟨hx, hb, hml, hown, hts⟩ hM hS hP hD (c7_holds0 l D tc zb b th (fun k9 => match k9 with | 1 => .ref b1 | 2 => .ref b2 | 3 => .ref b3 | 4 => .int (nI n) | 5 => .ref b4 | 6 => .ref b5 | 7 => .ref b6 | 8 => .int (nI ln) | _ => .null)) gX7_add_X7_holds rfl (by decide +kernel) ⟨Nat.le_of_ble_eq_true rfl, Nat.le_of_ble_eq_true rfl⟩ [0] rfl rfl [(true, 0), (false, 1), (false, 2), (false, 3), (false, 4), (false, 5), (false, 6)] rfl rfl rfl (va_recv hM.1 hP (ci := 6) (q0 := 0) rfl rfl) rfl hl.1 rfl (Nat.le_of_ble_eq_true rfl) dX7_add_6 ⟨Nat.le_refl _, Nat.le_refl _⟩ (fun H locs hP hD hS => ?_)
  refine W.eq (g2 := F0 m 9 ls [.int (bI (true))]) rfl ?_
  refine lv_if_ne (tgt := 14) hx hb dX7_add_9 (by decide) (fun _ => ?_) (fun h9 => False.elim (by revert h9; decide))
  refine lv_aload_n hx hb dX7_add_14 rfl (lv_at hl 0 rfl) ?_
  refine ip_V (C := RX7) (n := 0) (wl' := [(b, .inr (6, [.int (nI 0), .ref b1, .ref b2, .ref b3, .int (nI (k_n1 n + 1)), .ref b4, .ref b5, .ref b6, .int (nI ln)])), (b1, .inl (tc 0, 60, .inl ((fun k => nI (g k))))), (b2, .inl (tc 0, 60, .inl ((fun k => nI (ga k))))), (b3, .inl (tc 0, 840, .inl ((fun k => nI ((k_rem sv n g) k))))), (b4, .inl (tc 0, 120, .inl ((fun k => nI (sl k))))), (b5, .inl (tc 3, 2, .inl ((fun k => bI (iz k))))), (b6, .inl (tc 2, 100, .inl ((fun k => byI (u k)))))]) ⟨hx, hb, hml, hown, hts⟩ hM hS hP hD (c7_remember l D tc zb b b1 b3 (fun k9 => match k9 with | 0 => .int (nI 0) | 2 => .ref b2 | 5 => .ref b4 | 6 => .ref b5 | 7 => .ref b6 | 8 => .int (nI ln) | _ => .null) g sv n (by omega)) gX7_add_X7_remember rfl (by decide +kernel) ⟨Nat.le_of_ble_eq_true rfl, Nat.le_of_ble_eq_true rfl⟩ [0, 1, 3] rfl rfl [(true, 0), (true, 1), (false, 2), (true, 2), (false, 4), (false, 5), (false, 6)] rfl rfl rfl (va_recv hM.1 hP (ci := 6) (q0 := 0) rfl rfl) rfl hl.1 rfl (Nat.le_of_ble_eq_true rfl) dX7_add_15 ⟨Nat.le_refl _, Nat.le_refl _⟩ (fun H locs hP hD hS => ?_)
  refine W.eq (g2 := F0 m 18 ls []) rfl ?_
  refine lv_aload_n hx hb dX7_add_18 rfl (lv_at hl 0 rfl) ?_
  refine lv_iload_n hx hb dX7_add_19 rfl (lv_at hl 1 rfl) ?_
  refine ip_V (C := RX7) (n := 1) (wl' := [(b, .inr (6, [.int (nI 0), .ref b1, .ref b2, .ref b3, .int (nI (k_n1 n + 1)), .ref b4, .ref b5, .ref b6, .int (nI ln)])), (b1, .inl (tc 0, 60, .inl ((fun k => nI ((m_put g t) k))))), (b2, .inl (tc 0, 60, .inl ((fun k => nI (ga k))))), (b3, .inl (tc 0, 840, .inl ((fun k => nI ((k_rem sv n g) k))))), (b4, .inl (tc 0, 120, .inl ((fun k => nI (sl k))))), (b5, .inl (tc 3, 2, .inl ((fun k => bI (iz k))))), (b6, .inl (tc 2, 100, .inl ((fun k => byI (u k)))))]) ⟨hx, hb, hml, hown, hts⟩ hM hS hP hD (c7_adds l D tc zb b b1 (fun k9 => match k9 with | 0 => .int (nI 0) | 2 => .ref b2 | 3 => .ref b3 | 4 => .int (nI (k_n1 n + 1)) | 5 => .ref b4 | 6 => .ref b5 | 7 => .ref b6 | 8 => .int (nI ln) | _ => .null) g t hk (by first | omega | exact ok4 _ (by omega)) (by assumption)) gX7_add_X7_adds rfl (by decide +kernel) ⟨Nat.le_of_ble_eq_true rfl, Nat.le_of_ble_eq_true rfl⟩ [0, 1] rfl rfl [(true, 0), (true, 1), (false, 2), (false, 3), (false, 4), (false, 5), (false, 6)] rfl rfl rfl (va_recv hM.1 hP (ci := 6) (q0 := 0) rfl rfl) rfl hl.1 rfl (Nat.le_of_ble_eq_true rfl) dX7_add_20 ⟨Nat.le_refl _, Nat.le_refl _⟩ (fun H locs hP hD hS => ?_)
  refine W.eq (g2 := F0 m 23 ls [.int (nI (k_pv g t))]) rfl ?_
  exact ip_iret hx hb hr hlk dX7_add_23 hS (rfl) hP
set_option maxHeartbeats 4000000 in
set_option maxRecDepth 100000 in
theorem c7_add_b1 (l : Launch) (D : va_G) (tc : Nat → ClassId) (zb : Nat) (b b1 b2 b3 b4 b5 b6 : Nat) (th : Int32) (g ga sv : Nat → Nat) (n : Nat) (sl : Nat → Nat) (iz : Nat → Bool) (u : Nat → Nat) (ln : Nat) (pp : Int32) (hk : k_ok g) (hn : n ≤ 14) (hln : ln ≤ 100) (hu : ∀ k, u k < 256) (hp : ¬ (nI 0 ≤ pp ∧ pp ≤ nI 999)) : IP l yX7_add wsX7_add 2 46 D tc zb (w_md tc b b1 b2 b3 b4 b5 b6 th g ga sv n sl iz u ln) (w_md tc b b1 b2 b3 b4 b5 b6 (nI 1) g ga sv n sl iz u ln) [.ref b, .int (pp)] (some (.int (nI 0))) := by
  refine IP.of (cc := cX7_add) (maxL := 2) (ret := (some .int)) (by decide) rfl (Nat.le_of_ble_eq_true rfl) ?_
  intro p e s m args below meth c A hx hb hr hml hlk hts hown hM hS hP hD ls hl
  have hl : lv_has ls 2 [(0, .ref b), (1, .int (pp))] := hl
  obtain ⟨ok0, ok1, ok2, ok3, ok4, ok5, ok6⟩ := id hk
  refine lv_aload_n hx hb dX7_add_0 rfl (lv_at hl 0 rfl) ?_
  refine lv_aload_n hx hb dX7_add_1 rfl (lv_at hl 0 rfl) ?_
  refine lv_iload_n hx hb dX7_add_2 rfl (lv_at hl 1 rfl) ?_
  refine ro_V (C := RX7) (n := 1) ⟨hx, hb, hml, hown, hts⟩ hM hS hP (c7_addFault_b l D tc zb b ((pp)) (fun k9 => match k9 with | 0 => .int (th) | 1 => .ref b1 | 2 => .ref b2 | 3 => .ref b3 | 4 => .int (nI n) | 5 => .ref b4 | 6 => .ref b5 | 7 => .ref b6 | 8 => .int (nI ln) | _ => .null) (by assumption)) gX7_add_X7_addFault rfl (by decide +kernel) ⟨Nat.le_of_ble_eq_true rfl, Nat.le_of_ble_eq_true rfl⟩ [0] rfl (va_recv hM.1 hP (ci := 6) (q0 := 0) rfl rfl) rfl hl.1 rfl (Nat.le_of_ble_eq_true rfl) dX7_add_3 ⟨Nat.le_refl _, Nat.le_refl _⟩ ?_
  refine ip_V (C := RX7) (n := 1) (wl' := [(b, .inr (6, [.int (nI 1), .ref b1, .ref b2, .ref b3, .int (nI n), .ref b4, .ref b5, .ref b6, .int (nI ln)])), (b1, .inl (tc 0, 60, .inl ((fun k => nI (g k))))), (b2, .inl (tc 0, 60, .inl ((fun k => nI (ga k))))), (b3, .inl (tc 0, 840, .inl ((fun k => nI (sv k))))), (b4, .inl (tc 0, 120, .inl ((fun k => nI (sl k))))), (b5, .inl (tc 3, 2, .inl ((fun k => bI (iz k))))), (b6, .inl (tc 2, 100, .inl ((fun k => byI (u k)))))]) ⟨hx, hb, hml, hown, hts⟩ hM hS hP hD (c7_holdsP l D tc zb b th (fun k9 => match k9 with | 1 => .ref b1 | 2 => .ref b2 | 3 => .ref b3 | 4 => .int (nI n) | 5 => .ref b4 | 6 => .ref b5 | 7 => .ref b6 | 8 => .int (nI ln) | _ => .null) 1 (by omega)) gX7_add_X7_holds rfl (by decide +kernel) ⟨Nat.le_of_ble_eq_true rfl, Nat.le_of_ble_eq_true rfl⟩ [0] rfl rfl [(true, 0), (false, 1), (false, 2), (false, 3), (false, 4), (false, 5), (false, 6)] rfl rfl rfl (va_recv hM.1 hP (ci := 6) (q0 := 0) rfl rfl) rfl hl.1 rfl (Nat.le_of_ble_eq_true rfl) dX7_add_6 ⟨Nat.le_refl _, Nat.le_refl _⟩ (fun H locs hP hD hS => ?_)
  refine W.eq (g2 := F0 m 9 ls [.int (bI (false))]) rfl ?_
  refine lv_if_ne (tgt := 14) hx hb dX7_add_9 (by decide) (fun h9 => False.elim (by revert h9; decide)) (fun _ => ?_)
  refine lv_iconst (v := (nI 0)) hx hb dX7_add_12 (by decide) ?_
  exact ip_iret hx hb hr hlk dX7_add_13 hS (rfl) hP
set_option maxHeartbeats 4000000 in
set_option maxRecDepth 100000 in
theorem c7_add_b2 (l : Launch) (D : va_G) (tc : Nat → ClassId) (zb : Nat) (b b1 b2 b3 b4 b5 b6 : Nat) (th : Int32) (g ga sv : Nat → Nat) (n : Nat) (sl : Nat → Nat) (iz : Nat → Bool) (u : Nat → Nat) (ln : Nat) (t : Nat) (hk : k_ok g) (hn : n ≤ 14) (hln : ln ≤ 100) (hu : ∀ k, u k < 256) (ht : t < 1000) (hfull : g 0 = 40 ∧ k_ix g t = none) : IP l yX7_add wsX7_add 2 46 D tc zb (w_md tc b b1 b2 b3 b4 b5 b6 th g ga sv n sl iz u ln) (w_md tc b b1 b2 b3 b4 b5 b6 (nI 2) g ga sv n sl iz u ln) [.ref b, .int (nI t)] (some (.int (nI 0))) := by
  refine IP.of (cc := cX7_add) (maxL := 2) (ret := (some .int)) (by decide) rfl (Nat.le_of_ble_eq_true rfl) ?_
  intro p e s m args below meth c A hx hb hr hml hlk hts hown hM hS hP hD ls hl
  have hl : lv_has ls 2 [(0, .ref b), (1, .int (nI t))] := hl
  obtain ⟨ok0, ok1, ok2, ok3, ok4, ok5, ok6⟩ := id hk
  refine lv_aload_n hx hb dX7_add_0 rfl (lv_at hl 0 rfl) ?_
  refine lv_aload_n hx hb dX7_add_1 rfl (lv_at hl 0 rfl) ?_
  refine lv_iload_n hx hb dX7_add_2 rfl (lv_at hl 1 rfl) ?_
  refine ro_V (C := RX7) (n := 1) ⟨hx, hb, hml, hown, hts⟩ hM hS hP (c7_addFault l D tc zb b b1 (fun k9 => match k9 with | 0 => .int (th) | 2 => .ref b2 | 3 => .ref b3 | 4 => .int (nI n) | 5 => .ref b4 | 6 => .ref b5 | 7 => .ref b6 | 8 => .int (nI ln) | _ => .null) g t hk (by first | omega | exact ok4 _ (by omega))) gX7_add_X7_addFault rfl (by decide +kernel) ⟨Nat.le_of_ble_eq_true rfl, Nat.le_of_ble_eq_true rfl⟩ [0, 1] rfl (va_recv hM.1 hP (ci := 6) (q0 := 0) rfl rfl) rfl hl.1 rfl (Nat.le_of_ble_eq_true rfl) dX7_add_3 ⟨Nat.le_refl _, Nat.le_refl _⟩ ?_
  have hf1 := k_af_le g t
  refine ln_eq (x' := (nI 2)) (congrArg nI (if_pos hfull)) ?_
  refine ip_V (C := RX7) (n := 1) (wl' := [(b, .inr (6, [.int (nI 2), .ref b1, .ref b2, .ref b3, .int (nI n), .ref b4, .ref b5, .ref b6, .int (nI ln)])), (b1, .inl (tc 0, 60, .inl ((fun k => nI (g k))))), (b2, .inl (tc 0, 60, .inl ((fun k => nI (ga k))))), (b3, .inl (tc 0, 840, .inl ((fun k => nI (sv k))))), (b4, .inl (tc 0, 120, .inl ((fun k => nI (sl k))))), (b5, .inl (tc 3, 2, .inl ((fun k => bI (iz k))))), (b6, .inl (tc 2, 100, .inl ((fun k => byI (u k)))))]) ⟨hx, hb, hml, hown, hts⟩ hM hS hP hD (c7_holdsP l D tc zb b th (fun k9 => match k9 with | 1 => .ref b1 | 2 => .ref b2 | 3 => .ref b3 | 4 => .int (nI n) | 5 => .ref b4 | 6 => .ref b5 | 7 => .ref b6 | 8 => .int (nI ln) | _ => .null) 2 (by omega)) gX7_add_X7_holds rfl (by decide +kernel) ⟨Nat.le_of_ble_eq_true rfl, Nat.le_of_ble_eq_true rfl⟩ [0] rfl rfl [(true, 0), (false, 1), (false, 2), (false, 3), (false, 4), (false, 5), (false, 6)] rfl rfl rfl (va_recv hM.1 hP (ci := 6) (q0 := 0) rfl rfl) rfl hl.1 rfl (Nat.le_of_ble_eq_true rfl) dX7_add_6 ⟨Nat.le_refl _, Nat.le_refl _⟩ (fun H locs hP hD hS => ?_)
  refine W.eq (g2 := F0 m 9 ls [.int (bI (false))]) rfl ?_
  refine lv_if_ne (tgt := 14) hx hb dX7_add_9 (by decide) (fun h9 => False.elim (by revert h9; decide)) (fun _ => ?_)
  refine lv_iconst (v := (nI 0)) hx hb dX7_add_12 (by decide) ?_
  exact ip_iret hx hb hr hlk dX7_add_13 hS (rfl) hP
set_option maxHeartbeats 4000000 in
set_option maxRecDepth 100000 in
theorem c7_remove_ok (l : Launch) (D : va_G) (tc : Nat → ClassId) (zb : Nat) (b b1 b2 b3 b4 b5 b6 : Nat) (th : Int32) (g ga sv : Nat → Nat) (n : Nat) (sl : Nat → Nat) (iz : Nat → Bool) (u : Nat → Nat) (ln : Nat) (t : Nat) (hk : k_ok g) (hn : n ≤ 14) (hln : ln ≤ 100) (hu : ∀ k, u k < 256) (ht : t < 1000) : IP l yX7_remove wsX7_remove 3 65 D tc zb (w_md tc b b1 b2 b3 b4 b5 b6 th g ga sv n sl iz u ln) (w_md tc b b1 b2 b3 b4 b5 b6 (nI 0) ((m_rem g t)) ga ((k_rem sv n g)) (k_n1 n + 1) sl iz u ln) [.ref b, .int (nI t)] (some (.int (nI (k_rv g t)))) := by
  refine IP.of (cc := cX7_remove) (maxL := 2) (ret := (some .int)) (by decide) rfl (Nat.le_of_ble_eq_true rfl) ?_
  intro p e s m args below meth c A hx hb hr hml hlk hts hown hM hS hP hD ls hl
  have hl : lv_has ls 2 [(0, .ref b), (1, .int (nI t))] := hl
  obtain ⟨ok0, ok1, ok2, ok3, ok4, ok5, ok6⟩ := id hk
  refine lv_aload_n hx hb dX7_remove_0 rfl (lv_at hl 0 rfl) ?_
  refine lv_iload_n hx hb dX7_remove_1 rfl (lv_at hl 1 rfl) ?_
  refine lv_i2l (v := ((nI t)).toInt64) hx hb dX7_remove_2 rfl ?_
  refine lv_lconst (v := (0 : Int64)) hx hb dX7_remove_3 rfl ?_
  refine lv_ldc2 (v := (999 : Int64)) hx hb hown (hts (.constantLong RX7 137 (999)) (by decide +kernel)) dX7_remove_4 ?_
  refine ro_S (n := 3) ⟨hx, hb, hml, hown, hts⟩ hM hS hP (c7_in_ok l D tc zb t 0 999 (by omega) (by decide)) gX7_remove_X7_in rfl (by decide +kernel) ⟨Nat.le_of_ble_eq_true rfl, Nat.le_of_ble_eq_true rfl⟩ [] rfl rfl hl.1 rfl (Nat.le_of_ble_eq_true rfl) dX7_remove_7 ⟨Nat.le_refl _, Nat.le_refl _⟩ ?_
  refine lv_if_eq (tgt := 17) hx hb dX7_remove_10 (by decide) (fun h9 => False.elim (by revert h9; decide)) (fun _ => ?_)
  refine lv_iconst (v := (nI 0)) hx hb dX7_remove_13 (by decide) ?_
  refine lv_goto (tgt := 18) hx hb dX7_remove_14 (by decide) ?_
  refine ip_V (C := RX7) (n := 1) (wl' := [(b, .inr (6, [.int (nI 0), .ref b1, .ref b2, .ref b3, .int (nI n), .ref b4, .ref b5, .ref b6, .int (nI ln)])), (b1, .inl (tc 0, 60, .inl ((fun k => nI (g k))))), (b2, .inl (tc 0, 60, .inl ((fun k => nI (ga k))))), (b3, .inl (tc 0, 840, .inl ((fun k => nI (sv k))))), (b4, .inl (tc 0, 120, .inl ((fun k => nI (sl k))))), (b5, .inl (tc 3, 2, .inl ((fun k => bI (iz k))))), (b6, .inl (tc 2, 100, .inl ((fun k => byI (u k)))))]) ⟨hx, hb, hml, hown, hts⟩ hM hS hP hD (c7_holds0 l D tc zb b th (fun k9 => match k9 with | 1 => .ref b1 | 2 => .ref b2 | 3 => .ref b3 | 4 => .int (nI n) | 5 => .ref b4 | 6 => .ref b5 | 7 => .ref b6 | 8 => .int (nI ln) | _ => .null)) gX7_remove_X7_holds rfl (by decide +kernel) ⟨Nat.le_of_ble_eq_true rfl, Nat.le_of_ble_eq_true rfl⟩ [0] rfl rfl [(true, 0), (false, 1), (false, 2), (false, 3), (false, 4), (false, 5), (false, 6)] rfl rfl rfl (va_recv hM.1 hP (ci := 6) (q0 := 0) rfl rfl) rfl hl.1 rfl (Nat.le_of_ble_eq_true rfl) dX7_remove_18 ⟨Nat.le_refl _, Nat.le_refl _⟩ (fun H locs hP hD hS => ?_)
  refine W.eq (g2 := F0 m 21 ls [.int (bI (true))]) rfl ?_
  refine lv_if_ne (tgt := 26) hx hb dX7_remove_21 (by decide) (fun _ => ?_) (fun h9 => False.elim (by revert h9; decide))
  refine lv_aload_n hx hb dX7_remove_26 rfl (lv_at hl 0 rfl) ?_
  refine ip_V (C := RX7) (n := 0) (wl' := [(b, .inr (6, [.int (nI 0), .ref b1, .ref b2, .ref b3, .int (nI (k_n1 n + 1)), .ref b4, .ref b5, .ref b6, .int (nI ln)])), (b1, .inl (tc 0, 60, .inl ((fun k => nI (g k))))), (b2, .inl (tc 0, 60, .inl ((fun k => nI (ga k))))), (b3, .inl (tc 0, 840, .inl ((fun k => nI ((k_rem sv n g) k))))), (b4, .inl (tc 0, 120, .inl ((fun k => nI (sl k))))), (b5, .inl (tc 3, 2, .inl ((fun k => bI (iz k))))), (b6, .inl (tc 2, 100, .inl ((fun k => byI (u k)))))]) ⟨hx, hb, hml, hown, hts⟩ hM hS hP hD (c7_remember l D tc zb b b1 b3 (fun k9 => match k9 with | 0 => .int (nI 0) | 2 => .ref b2 | 5 => .ref b4 | 6 => .ref b5 | 7 => .ref b6 | 8 => .int (nI ln) | _ => .null) g sv n (by omega)) gX7_remove_X7_remember rfl (by decide +kernel) ⟨Nat.le_of_ble_eq_true rfl, Nat.le_of_ble_eq_true rfl⟩ [0, 1, 3] rfl rfl [(true, 0), (true, 1), (false, 2), (true, 2), (false, 4), (false, 5), (false, 6)] rfl rfl rfl (va_recv hM.1 hP (ci := 6) (q0 := 0) rfl rfl) rfl hl.1 rfl (Nat.le_of_ble_eq_true rfl) dX7_remove_27 ⟨Nat.le_refl _, Nat.le_refl _⟩ (fun H locs hP hD hS => ?_)
  refine W.eq (g2 := F0 m 30 ls []) rfl ?_
  refine lv_aload_n hx hb dX7_remove_30 rfl (lv_at hl 0 rfl) ?_
  refine lv_iload_n hx hb dX7_remove_31 rfl (lv_at hl 1 rfl) ?_
  refine ip_V (C := RX7) (n := 1) (wl' := [(b, .inr (6, [.int (nI 0), .ref b1, .ref b2, .ref b3, .int (nI (k_n1 n + 1)), .ref b4, .ref b5, .ref b6, .int (nI ln)])), (b1, .inl (tc 0, 60, .inl ((fun k => nI ((m_rem g t) k))))), (b2, .inl (tc 0, 60, .inl ((fun k => nI (ga k))))), (b3, .inl (tc 0, 840, .inl ((fun k => nI ((k_rem sv n g) k))))), (b4, .inl (tc 0, 120, .inl ((fun k => nI (sl k))))), (b5, .inl (tc 3, 2, .inl ((fun k => bI (iz k))))), (b6, .inl (tc 2, 100, .inl ((fun k => byI (u k)))))]) ⟨hx, hb, hml, hown, hts⟩ hM hS hP hD (c7_removes l D tc zb b b1 (fun k9 => match k9 with | 0 => .int (nI 0) | 2 => .ref b2 | 3 => .ref b3 | 4 => .int (nI (k_n1 n + 1)) | 5 => .ref b4 | 6 => .ref b5 | 7 => .ref b6 | 8 => .int (nI ln) | _ => .null) g t hk (by first | omega | exact ok4 _ (by omega))) gX7_remove_X7_removes rfl (by decide +kernel) ⟨Nat.le_of_ble_eq_true rfl, Nat.le_of_ble_eq_true rfl⟩ [0, 1] rfl rfl [(true, 0), (true, 1), (false, 2), (false, 3), (false, 4), (false, 5), (false, 6)] rfl rfl rfl (va_recv hM.1 hP (ci := 6) (q0 := 0) rfl rfl) rfl hl.1 rfl (Nat.le_of_ble_eq_true rfl) dX7_remove_32 ⟨Nat.le_refl _, Nat.le_refl _⟩ (fun H locs hP hD hS => ?_)
  refine W.eq (g2 := F0 m 35 ls [.int (nI (k_rv g t))]) rfl ?_
  exact ip_iret hx hb hr hlk dX7_remove_35 hS (rfl) hP
set_option maxHeartbeats 4000000 in
set_option maxRecDepth 100000 in
theorem c7_remove_b1 (l : Launch) (D : va_G) (tc : Nat → ClassId) (zb : Nat) (b b1 b2 b3 b4 b5 b6 : Nat) (th : Int32) (g ga sv : Nat → Nat) (n : Nat) (sl : Nat → Nat) (iz : Nat → Bool) (u : Nat → Nat) (ln : Nat) (pp : Int32) (hk : k_ok g) (hn : n ≤ 14) (hln : ln ≤ 100) (hu : ∀ k, u k < 256) (hp : ¬ (nI 0 ≤ pp ∧ pp ≤ nI 999)) : IP l yX7_remove wsX7_remove 1 25 D tc zb (w_md tc b b1 b2 b3 b4 b5 b6 th g ga sv n sl iz u ln) (w_md tc b b1 b2 b3 b4 b5 b6 (nI 1) g ga sv n sl iz u ln) [.ref b, .int (pp)] (some (.int (nI 0))) := by
  refine IP.of (cc := cX7_remove) (maxL := 2) (ret := (some .int)) (by decide) rfl (Nat.le_of_ble_eq_true rfl) ?_
  intro p e s m args below meth c A hx hb hr hml hlk hts hown hM hS hP hD ls hl
  have hl : lv_has ls 2 [(0, .ref b), (1, .int (pp))] := hl
  obtain ⟨ok0, ok1, ok2, ok3, ok4, ok5, ok6⟩ := id hk
  refine lv_aload_n hx hb dX7_remove_0 rfl (lv_at hl 0 rfl) ?_
  refine lv_iload_n hx hb dX7_remove_1 rfl (lv_at hl 1 rfl) ?_
  refine lv_i2l (v := ((pp)).toInt64) hx hb dX7_remove_2 rfl ?_
  refine lv_lconst (v := (0 : Int64)) hx hb dX7_remove_3 rfl ?_
  refine lv_ldc2 (v := (999 : Int64)) hx hb hown (hts (.constantLong RX7 137 (999)) (by decide +kernel)) dX7_remove_4 ?_
  refine ro_S (n := 3) ⟨hx, hb, hml, hown, hts⟩ hM hS hP (c7_in_bad l D tc zb pp 0 999 (by assumption) (by decide) (by decide)) gX7_remove_X7_in rfl (by decide +kernel) ⟨Nat.le_of_ble_eq_true rfl, Nat.le_of_ble_eq_true rfl⟩ [] rfl rfl hl.1 rfl (Nat.le_of_ble_eq_true rfl) dX7_remove_7 ⟨Nat.le_refl _, Nat.le_refl _⟩ ?_
  refine lv_if_eq (tgt := 17) hx hb dX7_remove_10 (by decide) (fun _ => ?_) (fun h9 => False.elim (by revert h9; decide))
  refine lv_iconst (v := (nI 1)) hx hb dX7_remove_17 (by decide) ?_
  refine ip_V (C := RX7) (n := 1) (wl' := [(b, .inr (6, [.int (nI 1), .ref b1, .ref b2, .ref b3, .int (nI n), .ref b4, .ref b5, .ref b6, .int (nI ln)])), (b1, .inl (tc 0, 60, .inl ((fun k => nI (g k))))), (b2, .inl (tc 0, 60, .inl ((fun k => nI (ga k))))), (b3, .inl (tc 0, 840, .inl ((fun k => nI (sv k))))), (b4, .inl (tc 0, 120, .inl ((fun k => nI (sl k))))), (b5, .inl (tc 3, 2, .inl ((fun k => bI (iz k))))), (b6, .inl (tc 2, 100, .inl ((fun k => byI (u k)))))]) ⟨hx, hb, hml, hown, hts⟩ hM hS hP hD (c7_holdsP l D tc zb b th (fun k9 => match k9 with | 1 => .ref b1 | 2 => .ref b2 | 3 => .ref b3 | 4 => .int (nI n) | 5 => .ref b4 | 6 => .ref b5 | 7 => .ref b6 | 8 => .int (nI ln) | _ => .null) 1 (by omega)) gX7_remove_X7_holds rfl (by decide +kernel) ⟨Nat.le_of_ble_eq_true rfl, Nat.le_of_ble_eq_true rfl⟩ [0] rfl rfl [(true, 0), (false, 1), (false, 2), (false, 3), (false, 4), (false, 5), (false, 6)] rfl rfl rfl (va_recv hM.1 hP (ci := 6) (q0 := 0) rfl rfl) rfl hl.1 rfl (Nat.le_of_ble_eq_true rfl) dX7_remove_18 ⟨Nat.le_refl _, Nat.le_refl _⟩ (fun H locs hP hD hS => ?_)
  refine W.eq (g2 := F0 m 21 ls [.int (bI (false))]) rfl ?_
  refine lv_if_ne (tgt := 26) hx hb dX7_remove_21 (by decide) (fun h9 => False.elim (by revert h9; decide)) (fun _ => ?_)
  refine lv_iconst (v := (nI 0)) hx hb dX7_remove_24 (by decide) ?_
  exact ip_iret hx hb hr hlk dX7_remove_25 hS (rfl) hP
set_option maxHeartbeats 4000000 in
set_option maxRecDepth 100000 in
theorem c7_ask_ok (l : Launch) (D : va_G) (tc : Nat → ClassId) (zb : Nat) (b b1 b2 b3 b4 b5 b6 : Nat) (th : Int32) (g ga sv : Nat → Nat) (n : Nat) (sl : Nat → Nat) (iz : Nat → Bool) (u : Nat → Nat) (ln : Nat) (x : Nat) (hk : k_ok g) (hn : n ≤ 14) (hln : ln ≤ 100) (hu : ∀ k, u k < 256) (hx9 : x < 1331) : IP l yX7_ask wsX7_ask 8 182 D tc zb (w_md tc b b1 b2 b3 b4 b5 b6 th g ga sv n sl iz u ln) (w_md tc b b1 b2 b3 b4 b5 b6 (nI 0) ((m_ask g x)) ga ((k_rem sv n g)) (k_n1 n + 1) sl iz u ln) [.ref b, .int (nI x)] (some (.int (nI (k_cnt g x)))) := by
  refine IP.of (cc := cX7_ask) (maxL := 2) (ret := (some .int)) (by decide) rfl (Nat.le_of_ble_eq_true rfl) ?_
  intro p e s m args below meth c A hx hb hr hml hlk hts hown hM hS hP hD ls hl
  have hl : lv_has ls 2 [(0, .ref b), (1, .int (nI x))] := hl
  obtain ⟨ok0, ok1, ok2, ok3, ok4, ok5, ok6⟩ := id hk
  refine lv_aload_n hx hb dX7_ask_0 rfl (lv_at hl 0 rfl) ?_
  refine lv_iload_n hx hb dX7_ask_1 rfl (lv_at hl 1 rfl) ?_
  refine ro_S (n := 1) ⟨hx, hb, hml, hown, hts⟩ hM hS hP (c7_isQuestion_ok l D tc zb x (by omega)) gX7_ask_X7_isQuestion rfl (by decide +kernel) ⟨Nat.le_of_ble_eq_true rfl, Nat.le_of_ble_eq_true rfl⟩ [] rfl rfl hl.1 rfl (Nat.le_of_ble_eq_true rfl) dX7_ask_2 ⟨Nat.le_refl _, Nat.le_refl _⟩ ?_
  refine lv_if_eq (tgt := 12) hx hb dX7_ask_5 (by decide) (fun h9 => False.elim (by revert h9; decide)) (fun _ => ?_)
  refine lv_iconst (v := (nI 0)) hx hb dX7_ask_8 (by decide) ?_
  refine lv_goto (tgt := 13) hx hb dX7_ask_9 (by decide) ?_
  refine ip_V (C := RX7) (n := 1) (wl' := [(b, .inr (6, [.int (nI 0), .ref b1, .ref b2, .ref b3, .int (nI n), .ref b4, .ref b5, .ref b6, .int (nI ln)])), (b1, .inl (tc 0, 60, .inl ((fun k => nI (g k))))), (b2, .inl (tc 0, 60, .inl ((fun k => nI (ga k))))), (b3, .inl (tc 0, 840, .inl ((fun k => nI (sv k))))), (b4, .inl (tc 0, 120, .inl ((fun k => nI (sl k))))), (b5, .inl (tc 3, 2, .inl ((fun k => bI (iz k))))), (b6, .inl (tc 2, 100, .inl ((fun k => byI (u k)))))]) ⟨hx, hb, hml, hown, hts⟩ hM hS hP hD (c7_holds0 l D tc zb b th (fun k9 => match k9 with | 1 => .ref b1 | 2 => .ref b2 | 3 => .ref b3 | 4 => .int (nI n) | 5 => .ref b4 | 6 => .ref b5 | 7 => .ref b6 | 8 => .int (nI ln) | _ => .null)) gX7_ask_X7_holds rfl (by decide +kernel) ⟨Nat.le_of_ble_eq_true rfl, Nat.le_of_ble_eq_true rfl⟩ [0] rfl rfl [(true, 0), (false, 1), (false, 2), (false, 3), (false, 4), (false, 5), (false, 6)] rfl rfl rfl (va_recv hM.1 hP (ci := 6) (q0 := 0) rfl rfl) rfl hl.1 rfl (Nat.le_of_ble_eq_true rfl) dX7_ask_13 ⟨Nat.le_refl _, Nat.le_refl _⟩ (fun H locs hP hD hS => ?_)
  refine W.eq (g2 := F0 m 16 ls [.int (bI (true))]) rfl ?_
  refine lv_if_ne (tgt := 21) hx hb dX7_ask_16 (by decide) (fun _ => ?_) (fun h9 => False.elim (by revert h9; decide))
  refine lv_aload_n hx hb dX7_ask_21 rfl (lv_at hl 0 rfl) ?_
  refine ip_V (C := RX7) (n := 0) (wl' := [(b, .inr (6, [.int (nI 0), .ref b1, .ref b2, .ref b3, .int (nI (k_n1 n + 1)), .ref b4, .ref b5, .ref b6, .int (nI ln)])), (b1, .inl (tc 0, 60, .inl ((fun k => nI (g k))))), (b2, .inl (tc 0, 60, .inl ((fun k => nI (ga k))))), (b3, .inl (tc 0, 840, .inl ((fun k => nI ((k_rem sv n g) k))))), (b4, .inl (tc 0, 120, .inl ((fun k => nI (sl k))))), (b5, .inl (tc 3, 2, .inl ((fun k => bI (iz k))))), (b6, .inl (tc 2, 100, .inl ((fun k => byI (u k)))))]) ⟨hx, hb, hml, hown, hts⟩ hM hS hP hD (c7_remember l D tc zb b b1 b3 (fun k9 => match k9 with | 0 => .int (nI 0) | 2 => .ref b2 | 5 => .ref b4 | 6 => .ref b5 | 7 => .ref b6 | 8 => .int (nI ln) | _ => .null) g sv n (by omega)) gX7_ask_X7_remember rfl (by decide +kernel) ⟨Nat.le_of_ble_eq_true rfl, Nat.le_of_ble_eq_true rfl⟩ [0, 1, 3] rfl rfl [(true, 0), (true, 1), (false, 2), (true, 2), (false, 4), (false, 5), (false, 6)] rfl rfl rfl (va_recv hM.1 hP (ci := 6) (q0 := 0) rfl rfl) rfl hl.1 rfl (Nat.le_of_ble_eq_true rfl) dX7_ask_22 ⟨Nat.le_refl _, Nat.le_refl _⟩ (fun H locs hP hD hS => ?_)
  refine W.eq (g2 := F0 m 25 ls []) rfl ?_
  refine lv_aload_n hx hb dX7_ask_25 rfl (lv_at hl 0 rfl) ?_
  refine lv_iload_n hx hb dX7_ask_26 rfl (lv_at hl 1 rfl) ?_
  refine ip_V (C := RX7) (n := 1) (wl' := [(b, .inr (6, [.int (nI 0), .ref b1, .ref b2, .ref b3, .int (nI (k_n1 n + 1)), .ref b4, .ref b5, .ref b6, .int (nI ln)])), (b1, .inl (tc 0, 60, .inl ((fun k => nI ((m_ask g x) k))))), (b2, .inl (tc 0, 60, .inl ((fun k => nI (ga k))))), (b3, .inl (tc 0, 840, .inl ((fun k => nI ((k_rem sv n g) k))))), (b4, .inl (tc 0, 120, .inl ((fun k => nI (sl k))))), (b5, .inl (tc 3, 2, .inl ((fun k => bI (iz k))))), (b6, .inl (tc 2, 100, .inl ((fun k => byI (u k)))))]) ⟨hx, hb, hml, hown, hts⟩ hM hS hP hD (c7_asks l D tc zb b b1 (fun k9 => match k9 with | 0 => .int (nI 0) | 2 => .ref b2 | 3 => .ref b3 | 4 => .int (nI (k_n1 n + 1)) | 5 => .ref b4 | 6 => .ref b5 | 7 => .ref b6 | 8 => .int (nI ln) | _ => .null) g x hk (by first | omega | exact ok5 _ (by omega))) gX7_ask_X7_asks rfl (by decide +kernel) ⟨Nat.le_of_ble_eq_true rfl, Nat.le_of_ble_eq_true rfl⟩ [0, 1] rfl rfl [(true, 0), (true, 1), (false, 2), (false, 3), (false, 4), (false, 5), (false, 6)] rfl rfl rfl (va_recv hM.1 hP (ci := 6) (q0 := 0) rfl rfl) rfl hl.1 rfl (Nat.le_of_ble_eq_true rfl) dX7_ask_27 ⟨Nat.le_refl _, Nat.le_refl _⟩ (fun H locs hP hD hS => ?_)
  refine W.eq (g2 := F0 m 30 ls [.int (nI (k_cnt g x))]) rfl ?_
  exact ip_iret hx hb hr hlk dX7_ask_30 hS (rfl) hP
set_option maxHeartbeats 4000000 in
set_option maxRecDepth 100000 in
theorem c7_ask_b1 (l : Launch) (D : va_G) (tc : Nat → ClassId) (zb : Nat) (b b1 b2 b3 b4 b5 b6 : Nat) (th : Int32) (g ga sv : Nat → Nat) (n : Nat) (sl : Nat → Nat) (iz : Nat → Bool) (u : Nat → Nat) (ln : Nat) (pp : Int32) (hk : k_ok g) (hn : n ≤ 14) (hln : ln ≤ 100) (hu : ∀ k, u k < 256) (hp : ¬ (nI 0 ≤ pp ∧ pp ≤ nI 1330)) : IP l yX7_ask wsX7_ask 2 45 D tc zb (w_md tc b b1 b2 b3 b4 b5 b6 th g ga sv n sl iz u ln) (w_md tc b b1 b2 b3 b4 b5 b6 (nI 1) g ga sv n sl iz u ln) [.ref b, .int (pp)] (some (.int (nI 0))) := by
  refine IP.of (cc := cX7_ask) (maxL := 2) (ret := (some .int)) (by decide) rfl (Nat.le_of_ble_eq_true rfl) ?_
  intro p e s m args below meth c A hx hb hr hml hlk hts hown hM hS hP hD ls hl
  have hl : lv_has ls 2 [(0, .ref b), (1, .int (pp))] := hl
  obtain ⟨ok0, ok1, ok2, ok3, ok4, ok5, ok6⟩ := id hk
  refine lv_aload_n hx hb dX7_ask_0 rfl (lv_at hl 0 rfl) ?_
  refine lv_iload_n hx hb dX7_ask_1 rfl (lv_at hl 1 rfl) ?_
  refine ro_S (n := 1) ⟨hx, hb, hml, hown, hts⟩ hM hS hP (c7_isQuestion_bad l D tc zb ((pp)) (by assumption)) gX7_ask_X7_isQuestion rfl (by decide +kernel) ⟨Nat.le_of_ble_eq_true rfl, Nat.le_of_ble_eq_true rfl⟩ [] rfl rfl hl.1 rfl (Nat.le_of_ble_eq_true rfl) dX7_ask_2 ⟨Nat.le_refl _, Nat.le_refl _⟩ ?_
  refine lv_if_eq (tgt := 12) hx hb dX7_ask_5 (by decide) (fun _ => ?_) (fun h9 => False.elim (by revert h9; decide))
  refine lv_iconst (v := (nI 1)) hx hb dX7_ask_12 (by decide) ?_
  refine ip_V (C := RX7) (n := 1) (wl' := [(b, .inr (6, [.int (nI 1), .ref b1, .ref b2, .ref b3, .int (nI n), .ref b4, .ref b5, .ref b6, .int (nI ln)])), (b1, .inl (tc 0, 60, .inl ((fun k => nI (g k))))), (b2, .inl (tc 0, 60, .inl ((fun k => nI (ga k))))), (b3, .inl (tc 0, 840, .inl ((fun k => nI (sv k))))), (b4, .inl (tc 0, 120, .inl ((fun k => nI (sl k))))), (b5, .inl (tc 3, 2, .inl ((fun k => bI (iz k))))), (b6, .inl (tc 2, 100, .inl ((fun k => byI (u k)))))]) ⟨hx, hb, hml, hown, hts⟩ hM hS hP hD (c7_holdsP l D tc zb b th (fun k9 => match k9 with | 1 => .ref b1 | 2 => .ref b2 | 3 => .ref b3 | 4 => .int (nI n) | 5 => .ref b4 | 6 => .ref b5 | 7 => .ref b6 | 8 => .int (nI ln) | _ => .null) 1 (by omega)) gX7_ask_X7_holds rfl (by decide +kernel) ⟨Nat.le_of_ble_eq_true rfl, Nat.le_of_ble_eq_true rfl⟩ [0] rfl rfl [(true, 0), (false, 1), (false, 2), (false, 3), (false, 4), (false, 5), (false, 6)] rfl rfl rfl (va_recv hM.1 hP (ci := 6) (q0 := 0) rfl rfl) rfl hl.1 rfl (Nat.le_of_ble_eq_true rfl) dX7_ask_13 ⟨Nat.le_refl _, Nat.le_refl _⟩ (fun H locs hP hD hS => ?_)
  refine W.eq (g2 := F0 m 16 ls [.int (bI (false))]) rfl ?_
  refine lv_if_ne (tgt := 21) hx hb dX7_ask_16 (by decide) (fun h9 => False.elim (by revert h9; decide)) (fun _ => ?_)
  refine lv_iconst (v := (nI 0)) hx hb dX7_ask_19 (by decide) ?_
  exact ip_iret hx hb hr hlk dX7_ask_20 hS (rfl) hP
set_option maxHeartbeats 4000000 in
set_option maxRecDepth 100000 in
theorem c7_build_ok (l : Launch) (D : va_G) (tc : Nat → ClassId) (zb : Nat) (b b1 b2 b3 b4 b5 b6 : Nat) (th : Int32) (g ga sv : Nat → Nat) (n : Nat) (sl : Nat → Nat) (iz : Nat → Bool) (u : Nat → Nat) (ln : Nat) (q : Nat) (hk : k_ok g) (hn : n ≤ 14) (hln : ln ≤ 100) (hu : ∀ k, u k < 256) (hq : q < 6) (hin : k_in (g 41) q = false) : IP l yX7_build wsX7_build 2 45 D tc zb (w_md tc b b1 b2 b3 b4 b5 b6 th g ga sv n sl iz u ln) (w_md tc b b1 b2 b3 b4 b5 b6 (nI 0) ((m_bld g q)) ga ((k_rem sv n g)) (k_n1 n + 1) sl iz u ln) [.ref b, .int (nI q)] (some (.int (nI (g 0 * k_lk (g 0))))) := by
  refine IP.of (cc := cX7_build) (maxL := 2) (ret := (some .int)) (by decide) rfl (Nat.le_of_ble_eq_true rfl) ?_
  intro p e s m args below meth c A hx hb hr hml hlk hts hown hM hS hP hD ls hl
  have hl : lv_has ls 2 [(0, .ref b), (1, .int (nI q))] := hl
  have hinX7 : ∀ w ∈ u_ws RX7 TX7 9, w ∈ wsX7_build := by decide +kernel
  obtain ⟨ok0, ok1, ok2, ok3, ok4, ok5, ok6⟩ := id hk
  have hk41 : g 41 < 64 := ok1
  refine lv_aload_n hx hb dX7_build_0 rfl (lv_at hl 0 rfl) ?_
  refine lv_iload_n hx hb dX7_build_1 rfl (lv_at hl 1 rfl) ?_
  refine ro_S (n := 1) ⟨hx, hb, hml, hown, hts⟩ hM hS hP (c7_isOrder_ok l D tc zb q (by omega)) gX7_build_X7_isOrder rfl (by decide +kernel) ⟨Nat.le_of_ble_eq_true rfl, Nat.le_of_ble_eq_true rfl⟩ [] rfl rfl hl.1 rfl (Nat.le_of_ble_eq_true rfl) dX7_build_2 ⟨Nat.le_refl _, Nat.le_refl _⟩ ?_
  refine lv_if_ne (tgt := 12) hx hb dX7_build_5 (by decide) (fun _ => ?_) (fun h9 => False.elim (by revert h9; decide))
  refine lv_aload_n hx hb dX7_build_12 rfl (lv_at hl 0 rfl) ?_
  refine va_get (D := D) (ci := 6) (v := .ref b1) (C := RX7) (T := TX7) (N := 9) hx hb hts hinX7 hown hM.1 hP 0 rfl rfl 1 (by decide) (hts (.fieldLink RX7 7 "TripleWaysModel" "s" "[I") (by decide +kernel)) (fun _ h9 => h9) rfl dX7_build_13 ?_
  refine lv_bipush (v := (nI 41)) hx hb dX7_build_16 (by decide) ?_
  refine ln_iald hx hb hM.1 hP 1 0 rfl rfl dX7_build_18 (by decide) (by omega) (rfl) ?_
  refine lv_iload_n hx hb dX7_build_19 rfl (lv_at hl 1 rfl) ?_
  refine ro_S (n := 2) ⟨hx, hb, hml, hown, hts⟩ hM hS hP (c7_isIn l D tc zb (g 41) q (by omega) (by omega)) gX7_build_X7_isIn rfl (by decide +kernel) ⟨Nat.le_of_ble_eq_true rfl, Nat.le_of_ble_eq_true rfl⟩ [] rfl rfl hl.1 rfl (Nat.le_of_ble_eq_true rfl) dX7_build_20 ⟨Nat.le_refl _, Nat.le_refl _⟩ ?_
  refine ln_eq (x' := (bI (false))) (congrArg bI hin) ?_
  refine lv_if_eq (tgt := 30) hx hb dX7_build_23 (by decide) (fun _ => ?_) (fun h9 => False.elim (by revert h9; decide))
  refine lv_iconst (v := (nI 0)) hx hb dX7_build_30 (by decide) ?_
  refine ip_V (C := RX7) (n := 1) (wl' := [(b, .inr (6, [.int (nI 0), .ref b1, .ref b2, .ref b3, .int (nI n), .ref b4, .ref b5, .ref b6, .int (nI ln)])), (b1, .inl (tc 0, 60, .inl ((fun k => nI (g k))))), (b2, .inl (tc 0, 60, .inl ((fun k => nI (ga k))))), (b3, .inl (tc 0, 840, .inl ((fun k => nI (sv k))))), (b4, .inl (tc 0, 120, .inl ((fun k => nI (sl k))))), (b5, .inl (tc 3, 2, .inl ((fun k => bI (iz k))))), (b6, .inl (tc 2, 100, .inl ((fun k => byI (u k)))))]) ⟨hx, hb, hml, hown, hts⟩ hM hS hP hD (c7_holds0 l D tc zb b th (fun k9 => match k9 with | 1 => .ref b1 | 2 => .ref b2 | 3 => .ref b3 | 4 => .int (nI n) | 5 => .ref b4 | 6 => .ref b5 | 7 => .ref b6 | 8 => .int (nI ln) | _ => .null)) gX7_build_X7_holds rfl (by decide +kernel) ⟨Nat.le_of_ble_eq_true rfl, Nat.le_of_ble_eq_true rfl⟩ [0] rfl rfl [(true, 0), (false, 1), (false, 2), (false, 3), (false, 4), (false, 5), (false, 6)] rfl rfl rfl (va_recv hM.1 hP (ci := 6) (q0 := 0) rfl rfl) rfl hl.1 rfl (Nat.le_of_ble_eq_true rfl) dX7_build_31 ⟨Nat.le_refl _, Nat.le_refl _⟩ (fun H locs hP hD hS => ?_)
  refine W.eq (g2 := F0 m 34 ls [.int (bI (true))]) rfl ?_
  refine lv_if_ne (tgt := 39) hx hb dX7_build_34 (by decide) (fun _ => ?_) (fun h9 => False.elim (by revert h9; decide))
  refine lv_aload_n hx hb dX7_build_39 rfl (lv_at hl 0 rfl) ?_
  refine ip_V (C := RX7) (n := 0) (wl' := [(b, .inr (6, [.int (nI 0), .ref b1, .ref b2, .ref b3, .int (nI (k_n1 n + 1)), .ref b4, .ref b5, .ref b6, .int (nI ln)])), (b1, .inl (tc 0, 60, .inl ((fun k => nI (g k))))), (b2, .inl (tc 0, 60, .inl ((fun k => nI (ga k))))), (b3, .inl (tc 0, 840, .inl ((fun k => nI ((k_rem sv n g) k))))), (b4, .inl (tc 0, 120, .inl ((fun k => nI (sl k))))), (b5, .inl (tc 3, 2, .inl ((fun k => bI (iz k))))), (b6, .inl (tc 2, 100, .inl ((fun k => byI (u k)))))]) ⟨hx, hb, hml, hown, hts⟩ hM hS hP hD (c7_remember l D tc zb b b1 b3 (fun k9 => match k9 with | 0 => .int (nI 0) | 2 => .ref b2 | 5 => .ref b4 | 6 => .ref b5 | 7 => .ref b6 | 8 => .int (nI ln) | _ => .null) g sv n (by omega)) gX7_build_X7_remember rfl (by decide +kernel) ⟨Nat.le_of_ble_eq_true rfl, Nat.le_of_ble_eq_true rfl⟩ [0, 1, 3] rfl rfl [(true, 0), (true, 1), (false, 2), (true, 2), (false, 4), (false, 5), (false, 6)] rfl rfl rfl (va_recv hM.1 hP (ci := 6) (q0 := 0) rfl rfl) rfl hl.1 rfl (Nat.le_of_ble_eq_true rfl) dX7_build_40 ⟨Nat.le_refl _, Nat.le_refl _⟩ (fun H locs hP hD hS => ?_)
  refine W.eq (g2 := F0 m 43 ls []) rfl ?_
  refine lv_aload_n hx hb dX7_build_43 rfl (lv_at hl 0 rfl) ?_
  refine lv_iload_n hx hb dX7_build_44 rfl (lv_at hl 1 rfl) ?_
  refine ip_V (C := RX7) (n := 1) (wl' := [(b, .inr (6, [.int (nI 0), .ref b1, .ref b2, .ref b3, .int (nI (k_n1 n + 1)), .ref b4, .ref b5, .ref b6, .int (nI ln)])), (b1, .inl (tc 0, 60, .inl ((fun k => nI ((m_bld g q) k))))), (b2, .inl (tc 0, 60, .inl ((fun k => nI (ga k))))), (b3, .inl (tc 0, 840, .inl ((fun k => nI ((k_rem sv n g) k))))), (b4, .inl (tc 0, 120, .inl ((fun k => nI (sl k))))), (b5, .inl (tc 3, 2, .inl ((fun k => bI (iz k))))), (b6, .inl (tc 2, 100, .inl ((fun k => byI (u k)))))]) ⟨hx, hb, hml, hown, hts⟩ hM hS hP hD (c7_builds l D tc zb b b1 (fun k9 => match k9 with | 0 => .int (nI 0) | 2 => .ref b2 | 3 => .ref b3 | 4 => .int (nI (k_n1 n + 1)) | 5 => .ref b4 | 6 => .ref b5 | 7 => .ref b6 | 8 => .int (nI ln) | _ => .null) g q hk (by omega)) gX7_build_X7_builds rfl (by decide +kernel) ⟨Nat.le_of_ble_eq_true rfl, Nat.le_of_ble_eq_true rfl⟩ [0, 1] rfl rfl [(true, 0), (true, 1), (false, 2), (false, 3), (false, 4), (false, 5), (false, 6)] rfl rfl rfl (va_recv hM.1 hP (ci := 6) (q0 := 0) rfl rfl) rfl hl.1 rfl (Nat.le_of_ble_eq_true rfl) dX7_build_45 ⟨Nat.le_refl _, Nat.le_refl _⟩ (fun H locs hP hD hS => ?_)
  refine W.eq (g2 := F0 m 48 ls [.int (nI (g 0 * k_lk (g 0)))]) rfl ?_
  exact ip_iret hx hb hr hlk dX7_build_48 hS (rfl) hP
set_option maxHeartbeats 4000000 in
set_option maxRecDepth 100000 in
theorem c7_build_b1 (l : Launch) (D : va_G) (tc : Nat → ClassId) (zb : Nat) (b b1 b2 b3 b4 b5 b6 : Nat) (th : Int32) (g ga sv : Nat → Nat) (n : Nat) (sl : Nat → Nat) (iz : Nat → Bool) (u : Nat → Nat) (ln : Nat) (pp : Int32) (hk : k_ok g) (hn : n ≤ 14) (hln : ln ≤ 100) (hu : ∀ k, u k < 256) (hp : ¬ (nI 0 ≤ pp ∧ pp ≤ nI 5)) : IP l yX7_build wsX7_build 2 45 D tc zb (w_md tc b b1 b2 b3 b4 b5 b6 th g ga sv n sl iz u ln) (w_md tc b b1 b2 b3 b4 b5 b6 (nI 1) g ga sv n sl iz u ln) [.ref b, .int (pp)] (some (.int (nI 0))) := by
  refine IP.of (cc := cX7_build) (maxL := 2) (ret := (some .int)) (by decide) rfl (Nat.le_of_ble_eq_true rfl) ?_
  intro p e s m args below meth c A hx hb hr hml hlk hts hown hM hS hP hD ls hl
  have hl : lv_has ls 2 [(0, .ref b), (1, .int (pp))] := hl
  obtain ⟨ok0, ok1, ok2, ok3, ok4, ok5, ok6⟩ := id hk
  refine lv_aload_n hx hb dX7_build_0 rfl (lv_at hl 0 rfl) ?_
  refine lv_iload_n hx hb dX7_build_1 rfl (lv_at hl 1 rfl) ?_
  refine ro_S (n := 1) ⟨hx, hb, hml, hown, hts⟩ hM hS hP (c7_isOrder_bad l D tc zb ((pp)) (by assumption)) gX7_build_X7_isOrder rfl (by decide +kernel) ⟨Nat.le_of_ble_eq_true rfl, Nat.le_of_ble_eq_true rfl⟩ [] rfl rfl hl.1 rfl (Nat.le_of_ble_eq_true rfl) dX7_build_2 ⟨Nat.le_refl _, Nat.le_refl _⟩ ?_
  refine lv_if_ne (tgt := 12) hx hb dX7_build_5 (by decide) (fun h9 => False.elim (by revert h9; decide)) (fun _ => ?_)
  refine lv_iconst (v := (nI 1)) hx hb dX7_build_8 (by decide) ?_
  refine lv_goto (tgt := 31) hx hb dX7_build_9 (by decide) ?_
  refine ip_V (C := RX7) (n := 1) (wl' := [(b, .inr (6, [.int (nI 1), .ref b1, .ref b2, .ref b3, .int (nI n), .ref b4, .ref b5, .ref b6, .int (nI ln)])), (b1, .inl (tc 0, 60, .inl ((fun k => nI (g k))))), (b2, .inl (tc 0, 60, .inl ((fun k => nI (ga k))))), (b3, .inl (tc 0, 840, .inl ((fun k => nI (sv k))))), (b4, .inl (tc 0, 120, .inl ((fun k => nI (sl k))))), (b5, .inl (tc 3, 2, .inl ((fun k => bI (iz k))))), (b6, .inl (tc 2, 100, .inl ((fun k => byI (u k)))))]) ⟨hx, hb, hml, hown, hts⟩ hM hS hP hD (c7_holdsP l D tc zb b th (fun k9 => match k9 with | 1 => .ref b1 | 2 => .ref b2 | 3 => .ref b3 | 4 => .int (nI n) | 5 => .ref b4 | 6 => .ref b5 | 7 => .ref b6 | 8 => .int (nI ln) | _ => .null) 1 (by omega)) gX7_build_X7_holds rfl (by decide +kernel) ⟨Nat.le_of_ble_eq_true rfl, Nat.le_of_ble_eq_true rfl⟩ [0] rfl rfl [(true, 0), (false, 1), (false, 2), (false, 3), (false, 4), (false, 5), (false, 6)] rfl rfl rfl (va_recv hM.1 hP (ci := 6) (q0 := 0) rfl rfl) rfl hl.1 rfl (Nat.le_of_ble_eq_true rfl) dX7_build_31 ⟨Nat.le_refl _, Nat.le_refl _⟩ (fun H locs hP hD hS => ?_)
  refine W.eq (g2 := F0 m 34 ls [.int (bI (false))]) rfl ?_
  refine lv_if_ne (tgt := 39) hx hb dX7_build_34 (by decide) (fun h9 => False.elim (by revert h9; decide)) (fun _ => ?_)
  refine lv_iconst (v := (nI 0)) hx hb dX7_build_37 (by decide) ?_
  exact ip_iret hx hb hr hlk dX7_build_38 hS (rfl) hP
set_option maxHeartbeats 4000000 in
set_option maxRecDepth 100000 in
theorem c7_build_b2 (l : Launch) (D : va_G) (tc : Nat → ClassId) (zb : Nat) (b b1 b2 b3 b4 b5 b6 : Nat) (th : Int32) (g ga sv : Nat → Nat) (n : Nat) (sl : Nat → Nat) (iz : Nat → Bool) (u : Nat → Nat) (ln : Nat) (q : Nat) (hk : k_ok g) (hn : n ≤ 14) (hln : ln ≤ 100) (hu : ∀ k, u k < 256) (hq : q < 6) (hin : k_in (g 41) q = true) : IP l yX7_build wsX7_build 2 45 D tc zb (w_md tc b b1 b2 b3 b4 b5 b6 th g ga sv n sl iz u ln) (w_md tc b b1 b2 b3 b4 b5 b6 (nI 2) g ga sv n sl iz u ln) [.ref b, .int (nI q)] (some (.int (nI 0))) := by
  refine IP.of (cc := cX7_build) (maxL := 2) (ret := (some .int)) (by decide) rfl (Nat.le_of_ble_eq_true rfl) ?_
  intro p e s m args below meth c A hx hb hr hml hlk hts hown hM hS hP hD ls hl
  have hl : lv_has ls 2 [(0, .ref b), (1, .int (nI q))] := hl
  have hinX7 : ∀ w ∈ u_ws RX7 TX7 9, w ∈ wsX7_build := by decide +kernel
  obtain ⟨ok0, ok1, ok2, ok3, ok4, ok5, ok6⟩ := id hk
  have hk41 : g 41 < 64 := ok1
  refine lv_aload_n hx hb dX7_build_0 rfl (lv_at hl 0 rfl) ?_
  refine lv_iload_n hx hb dX7_build_1 rfl (lv_at hl 1 rfl) ?_
  refine ro_S (n := 1) ⟨hx, hb, hml, hown, hts⟩ hM hS hP (c7_isOrder_ok l D tc zb q (by omega)) gX7_build_X7_isOrder rfl (by decide +kernel) ⟨Nat.le_of_ble_eq_true rfl, Nat.le_of_ble_eq_true rfl⟩ [] rfl rfl hl.1 rfl (Nat.le_of_ble_eq_true rfl) dX7_build_2 ⟨Nat.le_refl _, Nat.le_refl _⟩ ?_
  refine lv_if_ne (tgt := 12) hx hb dX7_build_5 (by decide) (fun _ => ?_) (fun h9 => False.elim (by revert h9; decide))
  refine lv_aload_n hx hb dX7_build_12 rfl (lv_at hl 0 rfl) ?_
  refine va_get (D := D) (ci := 6) (v := .ref b1) (C := RX7) (T := TX7) (N := 9) hx hb hts hinX7 hown hM.1 hP 0 rfl rfl 1 (by decide) (hts (.fieldLink RX7 7 "TripleWaysModel" "s" "[I") (by decide +kernel)) (fun _ h9 => h9) rfl dX7_build_13 ?_
  refine lv_bipush (v := (nI 41)) hx hb dX7_build_16 (by decide) ?_
  refine ln_iald hx hb hM.1 hP 1 0 rfl rfl dX7_build_18 (by decide) (by omega) (rfl) ?_
  refine lv_iload_n hx hb dX7_build_19 rfl (lv_at hl 1 rfl) ?_
  refine ro_S (n := 2) ⟨hx, hb, hml, hown, hts⟩ hM hS hP (c7_isIn l D tc zb (g 41) q (by omega) (by omega)) gX7_build_X7_isIn rfl (by decide +kernel) ⟨Nat.le_of_ble_eq_true rfl, Nat.le_of_ble_eq_true rfl⟩ [] rfl rfl hl.1 rfl (Nat.le_of_ble_eq_true rfl) dX7_build_20 ⟨Nat.le_refl _, Nat.le_refl _⟩ ?_
  refine ln_eq (x' := (bI (true))) (congrArg bI hin) ?_
  refine lv_if_eq (tgt := 30) hx hb dX7_build_23 (by decide) (fun h9 => False.elim (by revert h9; decide)) (fun _ => ?_)
  refine lv_iconst (v := (nI 2)) hx hb dX7_build_26 (by decide) ?_
  refine lv_goto (tgt := 31) hx hb dX7_build_27 (by decide) ?_
  refine ip_V (C := RX7) (n := 1) (wl' := [(b, .inr (6, [.int (nI 2), .ref b1, .ref b2, .ref b3, .int (nI n), .ref b4, .ref b5, .ref b6, .int (nI ln)])), (b1, .inl (tc 0, 60, .inl ((fun k => nI (g k))))), (b2, .inl (tc 0, 60, .inl ((fun k => nI (ga k))))), (b3, .inl (tc 0, 840, .inl ((fun k => nI (sv k))))), (b4, .inl (tc 0, 120, .inl ((fun k => nI (sl k))))), (b5, .inl (tc 3, 2, .inl ((fun k => bI (iz k))))), (b6, .inl (tc 2, 100, .inl ((fun k => byI (u k)))))]) ⟨hx, hb, hml, hown, hts⟩ hM hS hP hD (c7_holdsP l D tc zb b th (fun k9 => match k9 with | 1 => .ref b1 | 2 => .ref b2 | 3 => .ref b3 | 4 => .int (nI n) | 5 => .ref b4 | 6 => .ref b5 | 7 => .ref b6 | 8 => .int (nI ln) | _ => .null) 2 (by omega)) gX7_build_X7_holds rfl (by decide +kernel) ⟨Nat.le_of_ble_eq_true rfl, Nat.le_of_ble_eq_true rfl⟩ [0] rfl rfl [(true, 0), (false, 1), (false, 2), (false, 3), (false, 4), (false, 5), (false, 6)] rfl rfl rfl (va_recv hM.1 hP (ci := 6) (q0 := 0) rfl rfl) rfl hl.1 rfl (Nat.le_of_ble_eq_true rfl) dX7_build_31 ⟨Nat.le_refl _, Nat.le_refl _⟩ (fun H locs hP hD hS => ?_)
  refine W.eq (g2 := F0 m 34 ls [.int (bI (false))]) rfl ?_
  refine lv_if_ne (tgt := 39) hx hb dX7_build_34 (by decide) (fun h9 => False.elim (by revert h9; decide)) (fun _ => ?_)
  refine lv_iconst (v := (nI 0)) hx hb dX7_build_37 (by decide) ?_
  exact ip_iret hx hb hr hlk dX7_build_38 hS (rfl) hP
set_option maxHeartbeats 4000000 in
set_option maxRecDepth 100000 in
theorem c7_drop_ok (l : Launch) (D : va_G) (tc : Nat → ClassId) (zb : Nat) (b b1 b2 b3 b4 b5 b6 : Nat) (th : Int32) (g ga sv : Nat → Nat) (n : Nat) (sl : Nat → Nat) (iz : Nat → Bool) (u : Nat → Nat) (ln : Nat) (q : Nat) (hk : k_ok g) (hn : n ≤ 14) (hln : ln ≤ 100) (hu : ∀ k, u k < 256) (hq : q < 6) (hin : k_in (g 41) q = true) : IP l yX7_drop wsX7_drop 2 45 D tc zb (w_md tc b b1 b2 b3 b4 b5 b6 th g ga sv n sl iz u ln) (w_md tc b b1 b2 b3 b4 b5 b6 (nI 0) ((m_drp g q)) ga ((k_rem sv n g)) (k_n1 n + 1) sl iz u ln) [.ref b, .int (nI q)] (some (.int (nI (k_pc (g 41 &&& (63 ^^^ 2 ^ q)))))) := by
  refine IP.of (cc := cX7_drop) (maxL := 2) (ret := (some .int)) (by decide) rfl (Nat.le_of_ble_eq_true rfl) ?_
  intro p e s m args below meth c A hx hb hr hml hlk hts hown hM hS hP hD ls hl
  have hl : lv_has ls 2 [(0, .ref b), (1, .int (nI q))] := hl
  have hinX7 : ∀ w ∈ u_ws RX7 TX7 9, w ∈ wsX7_drop := by decide +kernel
  obtain ⟨ok0, ok1, ok2, ok3, ok4, ok5, ok6⟩ := id hk
  have hk41 : g 41 < 64 := ok1
  refine lv_aload_n hx hb dX7_drop_0 rfl (lv_at hl 0 rfl) ?_
  refine lv_iload_n hx hb dX7_drop_1 rfl (lv_at hl 1 rfl) ?_
  refine ro_S (n := 1) ⟨hx, hb, hml, hown, hts⟩ hM hS hP (c7_isOrder_ok l D tc zb q (by omega)) gX7_drop_X7_isOrder rfl (by decide +kernel) ⟨Nat.le_of_ble_eq_true rfl, Nat.le_of_ble_eq_true rfl⟩ [] rfl rfl hl.1 rfl (Nat.le_of_ble_eq_true rfl) dX7_drop_2 ⟨Nat.le_refl _, Nat.le_refl _⟩ ?_
  refine lv_if_ne (tgt := 12) hx hb dX7_drop_5 (by decide) (fun _ => ?_) (fun h9 => False.elim (by revert h9; decide))
  refine lv_aload_n hx hb dX7_drop_12 rfl (lv_at hl 0 rfl) ?_
  refine va_get (D := D) (ci := 6) (v := .ref b1) (C := RX7) (T := TX7) (N := 9) hx hb hts hinX7 hown hM.1 hP 0 rfl rfl 1 (by decide) (hts (.fieldLink RX7 7 "TripleWaysModel" "s" "[I") (by decide +kernel)) (fun _ h9 => h9) rfl dX7_drop_13 ?_
  refine lv_bipush (v := (nI 41)) hx hb dX7_drop_16 (by decide) ?_
  refine ln_iald hx hb hM.1 hP 1 0 rfl rfl dX7_drop_18 (by decide) (by omega) (rfl) ?_
  refine lv_iload_n hx hb dX7_drop_19 rfl (lv_at hl 1 rfl) ?_
  refine ro_S (n := 2) ⟨hx, hb, hml, hown, hts⟩ hM hS hP (c7_isIn l D tc zb (g 41) q (by omega) (by omega)) gX7_drop_X7_isIn rfl (by decide +kernel) ⟨Nat.le_of_ble_eq_true rfl, Nat.le_of_ble_eq_true rfl⟩ [] rfl rfl hl.1 rfl (Nat.le_of_ble_eq_true rfl) dX7_drop_20 ⟨Nat.le_refl _, Nat.le_refl _⟩ ?_
  refine ln_eq (x' := (bI (true))) (congrArg bI hin) ?_
  refine lv_if_ne (tgt := 30) hx hb dX7_drop_23 (by decide) (fun _ => ?_) (fun h9 => False.elim (by revert h9; decide))
  refine lv_iconst (v := (nI 0)) hx hb dX7_drop_30 (by decide) ?_
  refine ip_V (C := RX7) (n := 1) (wl' := [(b, .inr (6, [.int (nI 0), .ref b1, .ref b2, .ref b3, .int (nI n), .ref b4, .ref b5, .ref b6, .int (nI ln)])), (b1, .inl (tc 0, 60, .inl ((fun k => nI (g k))))), (b2, .inl (tc 0, 60, .inl ((fun k => nI (ga k))))), (b3, .inl (tc 0, 840, .inl ((fun k => nI (sv k))))), (b4, .inl (tc 0, 120, .inl ((fun k => nI (sl k))))), (b5, .inl (tc 3, 2, .inl ((fun k => bI (iz k))))), (b6, .inl (tc 2, 100, .inl ((fun k => byI (u k)))))]) ⟨hx, hb, hml, hown, hts⟩ hM hS hP hD (c7_holds0 l D tc zb b th (fun k9 => match k9 with | 1 => .ref b1 | 2 => .ref b2 | 3 => .ref b3 | 4 => .int (nI n) | 5 => .ref b4 | 6 => .ref b5 | 7 => .ref b6 | 8 => .int (nI ln) | _ => .null)) gX7_drop_X7_holds rfl (by decide +kernel) ⟨Nat.le_of_ble_eq_true rfl, Nat.le_of_ble_eq_true rfl⟩ [0] rfl rfl [(true, 0), (false, 1), (false, 2), (false, 3), (false, 4), (false, 5), (false, 6)] rfl rfl rfl (va_recv hM.1 hP (ci := 6) (q0 := 0) rfl rfl) rfl hl.1 rfl (Nat.le_of_ble_eq_true rfl) dX7_drop_31 ⟨Nat.le_refl _, Nat.le_refl _⟩ (fun H locs hP hD hS => ?_)
  refine W.eq (g2 := F0 m 34 ls [.int (bI (true))]) rfl ?_
  refine lv_if_ne (tgt := 39) hx hb dX7_drop_34 (by decide) (fun _ => ?_) (fun h9 => False.elim (by revert h9; decide))
  refine lv_aload_n hx hb dX7_drop_39 rfl (lv_at hl 0 rfl) ?_
  refine ip_V (C := RX7) (n := 0) (wl' := [(b, .inr (6, [.int (nI 0), .ref b1, .ref b2, .ref b3, .int (nI (k_n1 n + 1)), .ref b4, .ref b5, .ref b6, .int (nI ln)])), (b1, .inl (tc 0, 60, .inl ((fun k => nI (g k))))), (b2, .inl (tc 0, 60, .inl ((fun k => nI (ga k))))), (b3, .inl (tc 0, 840, .inl ((fun k => nI ((k_rem sv n g) k))))), (b4, .inl (tc 0, 120, .inl ((fun k => nI (sl k))))), (b5, .inl (tc 3, 2, .inl ((fun k => bI (iz k))))), (b6, .inl (tc 2, 100, .inl ((fun k => byI (u k)))))]) ⟨hx, hb, hml, hown, hts⟩ hM hS hP hD (c7_remember l D tc zb b b1 b3 (fun k9 => match k9 with | 0 => .int (nI 0) | 2 => .ref b2 | 5 => .ref b4 | 6 => .ref b5 | 7 => .ref b6 | 8 => .int (nI ln) | _ => .null) g sv n (by omega)) gX7_drop_X7_remember rfl (by decide +kernel) ⟨Nat.le_of_ble_eq_true rfl, Nat.le_of_ble_eq_true rfl⟩ [0, 1, 3] rfl rfl [(true, 0), (true, 1), (false, 2), (true, 2), (false, 4), (false, 5), (false, 6)] rfl rfl rfl (va_recv hM.1 hP (ci := 6) (q0 := 0) rfl rfl) rfl hl.1 rfl (Nat.le_of_ble_eq_true rfl) dX7_drop_40 ⟨Nat.le_refl _, Nat.le_refl _⟩ (fun H locs hP hD hS => ?_)
  refine W.eq (g2 := F0 m 43 ls []) rfl ?_
  refine lv_aload_n hx hb dX7_drop_43 rfl (lv_at hl 0 rfl) ?_
  refine lv_iload_n hx hb dX7_drop_44 rfl (lv_at hl 1 rfl) ?_
  refine ip_V (C := RX7) (n := 1) (wl' := [(b, .inr (6, [.int (nI 0), .ref b1, .ref b2, .ref b3, .int (nI (k_n1 n + 1)), .ref b4, .ref b5, .ref b6, .int (nI ln)])), (b1, .inl (tc 0, 60, .inl ((fun k => nI ((m_drp g q) k))))), (b2, .inl (tc 0, 60, .inl ((fun k => nI (ga k))))), (b3, .inl (tc 0, 840, .inl ((fun k => nI ((k_rem sv n g) k))))), (b4, .inl (tc 0, 120, .inl ((fun k => nI (sl k))))), (b5, .inl (tc 3, 2, .inl ((fun k => bI (iz k))))), (b6, .inl (tc 2, 100, .inl ((fun k => byI (u k)))))]) ⟨hx, hb, hml, hown, hts⟩ hM hS hP hD (c7_drops l D tc zb b b1 (fun k9 => match k9 with | 0 => .int (nI 0) | 2 => .ref b2 | 3 => .ref b3 | 4 => .int (nI (k_n1 n + 1)) | 5 => .ref b4 | 6 => .ref b5 | 7 => .ref b6 | 8 => .int (nI ln) | _ => .null) g q hk (by omega)) gX7_drop_X7_drops rfl (by decide +kernel) ⟨Nat.le_of_ble_eq_true rfl, Nat.le_of_ble_eq_true rfl⟩ [0, 1] rfl rfl [(true, 0), (true, 1), (false, 2), (false, 3), (false, 4), (false, 5), (false, 6)] rfl rfl rfl (va_recv hM.1 hP (ci := 6) (q0 := 0) rfl rfl) rfl hl.1 rfl (Nat.le_of_ble_eq_true rfl) dX7_drop_45 ⟨Nat.le_refl _, Nat.le_refl _⟩ (fun H locs hP hD hS => ?_)
  refine W.eq (g2 := F0 m 48 ls [.int (nI (k_pc (g 41 &&& (63 ^^^ 2 ^ q))))]) rfl ?_
  exact ip_iret hx hb hr hlk dX7_drop_48 hS (rfl) hP
set_option maxHeartbeats 4000000 in
set_option maxRecDepth 100000 in
theorem c7_drop_b1 (l : Launch) (D : va_G) (tc : Nat → ClassId) (zb : Nat) (b b1 b2 b3 b4 b5 b6 : Nat) (th : Int32) (g ga sv : Nat → Nat) (n : Nat) (sl : Nat → Nat) (iz : Nat → Bool) (u : Nat → Nat) (ln : Nat) (pp : Int32) (hk : k_ok g) (hn : n ≤ 14) (hln : ln ≤ 100) (hu : ∀ k, u k < 256) (hp : ¬ (nI 0 ≤ pp ∧ pp ≤ nI 5)) : IP l yX7_drop wsX7_drop 2 45 D tc zb (w_md tc b b1 b2 b3 b4 b5 b6 th g ga sv n sl iz u ln) (w_md tc b b1 b2 b3 b4 b5 b6 (nI 1) g ga sv n sl iz u ln) [.ref b, .int (pp)] (some (.int (nI 0))) := by
  refine IP.of (cc := cX7_drop) (maxL := 2) (ret := (some .int)) (by decide) rfl (Nat.le_of_ble_eq_true rfl) ?_
  intro p e s m args below meth c A hx hb hr hml hlk hts hown hM hS hP hD ls hl
  have hl : lv_has ls 2 [(0, .ref b), (1, .int (pp))] := hl
  obtain ⟨ok0, ok1, ok2, ok3, ok4, ok5, ok6⟩ := id hk
  refine lv_aload_n hx hb dX7_drop_0 rfl (lv_at hl 0 rfl) ?_
  refine lv_iload_n hx hb dX7_drop_1 rfl (lv_at hl 1 rfl) ?_
  refine ro_S (n := 1) ⟨hx, hb, hml, hown, hts⟩ hM hS hP (c7_isOrder_bad l D tc zb ((pp)) (by assumption)) gX7_drop_X7_isOrder rfl (by decide +kernel) ⟨Nat.le_of_ble_eq_true rfl, Nat.le_of_ble_eq_true rfl⟩ [] rfl rfl hl.1 rfl (Nat.le_of_ble_eq_true rfl) dX7_drop_2 ⟨Nat.le_refl _, Nat.le_refl _⟩ ?_
  refine lv_if_ne (tgt := 12) hx hb dX7_drop_5 (by decide) (fun h9 => False.elim (by revert h9; decide)) (fun _ => ?_)
  refine lv_iconst (v := (nI 1)) hx hb dX7_drop_8 (by decide) ?_
  refine lv_goto (tgt := 31) hx hb dX7_drop_9 (by decide) ?_
  refine ip_V (C := RX7) (n := 1) (wl' := [(b, .inr (6, [.int (nI 1), .ref b1, .ref b2, .ref b3, .int (nI n), .ref b4, .ref b5, .ref b6, .int (nI ln)])), (b1, .inl (tc 0, 60, .inl ((fun k => nI (g k))))), (b2, .inl (tc 0, 60, .inl ((fun k => nI (ga k))))), (b3, .inl (tc 0, 840, .inl ((fun k => nI (sv k))))), (b4, .inl (tc 0, 120, .inl ((fun k => nI (sl k))))), (b5, .inl (tc 3, 2, .inl ((fun k => bI (iz k))))), (b6, .inl (tc 2, 100, .inl ((fun k => byI (u k)))))]) ⟨hx, hb, hml, hown, hts⟩ hM hS hP hD (c7_holdsP l D tc zb b th (fun k9 => match k9 with | 1 => .ref b1 | 2 => .ref b2 | 3 => .ref b3 | 4 => .int (nI n) | 5 => .ref b4 | 6 => .ref b5 | 7 => .ref b6 | 8 => .int (nI ln) | _ => .null) 1 (by omega)) gX7_drop_X7_holds rfl (by decide +kernel) ⟨Nat.le_of_ble_eq_true rfl, Nat.le_of_ble_eq_true rfl⟩ [0] rfl rfl [(true, 0), (false, 1), (false, 2), (false, 3), (false, 4), (false, 5), (false, 6)] rfl rfl rfl (va_recv hM.1 hP (ci := 6) (q0 := 0) rfl rfl) rfl hl.1 rfl (Nat.le_of_ble_eq_true rfl) dX7_drop_31 ⟨Nat.le_refl _, Nat.le_refl _⟩ (fun H locs hP hD hS => ?_)
  refine W.eq (g2 := F0 m 34 ls [.int (bI (false))]) rfl ?_
  refine lv_if_ne (tgt := 39) hx hb dX7_drop_34 (by decide) (fun h9 => False.elim (by revert h9; decide)) (fun _ => ?_)
  refine lv_iconst (v := (nI 0)) hx hb dX7_drop_37 (by decide) ?_
  exact ip_iret hx hb hr hlk dX7_drop_38 hS (rfl) hP
set_option maxHeartbeats 4000000 in
set_option maxRecDepth 100000 in
theorem c7_drop_b2 (l : Launch) (D : va_G) (tc : Nat → ClassId) (zb : Nat) (b b1 b2 b3 b4 b5 b6 : Nat) (th : Int32) (g ga sv : Nat → Nat) (n : Nat) (sl : Nat → Nat) (iz : Nat → Bool) (u : Nat → Nat) (ln : Nat) (q : Nat) (hk : k_ok g) (hn : n ≤ 14) (hln : ln ≤ 100) (hu : ∀ k, u k < 256) (hq : q < 6) (hin : k_in (g 41) q = false) : IP l yX7_drop wsX7_drop 2 45 D tc zb (w_md tc b b1 b2 b3 b4 b5 b6 th g ga sv n sl iz u ln) (w_md tc b b1 b2 b3 b4 b5 b6 (nI 2) g ga sv n sl iz u ln) [.ref b, .int (nI q)] (some (.int (nI 0))) := by
  refine IP.of (cc := cX7_drop) (maxL := 2) (ret := (some .int)) (by decide) rfl (Nat.le_of_ble_eq_true rfl) ?_
  intro p e s m args below meth c A hx hb hr hml hlk hts hown hM hS hP hD ls hl
  have hl : lv_has ls 2 [(0, .ref b), (1, .int (nI q))] := hl
  have hinX7 : ∀ w ∈ u_ws RX7 TX7 9, w ∈ wsX7_drop := by decide +kernel
  obtain ⟨ok0, ok1, ok2, ok3, ok4, ok5, ok6⟩ := id hk
  have hk41 : g 41 < 64 := ok1
  refine lv_aload_n hx hb dX7_drop_0 rfl (lv_at hl 0 rfl) ?_
  refine lv_iload_n hx hb dX7_drop_1 rfl (lv_at hl 1 rfl) ?_
  refine ro_S (n := 1) ⟨hx, hb, hml, hown, hts⟩ hM hS hP (c7_isOrder_ok l D tc zb q (by omega)) gX7_drop_X7_isOrder rfl (by decide +kernel) ⟨Nat.le_of_ble_eq_true rfl, Nat.le_of_ble_eq_true rfl⟩ [] rfl rfl hl.1 rfl (Nat.le_of_ble_eq_true rfl) dX7_drop_2 ⟨Nat.le_refl _, Nat.le_refl _⟩ ?_
  refine lv_if_ne (tgt := 12) hx hb dX7_drop_5 (by decide) (fun _ => ?_) (fun h9 => False.elim (by revert h9; decide))
  refine lv_aload_n hx hb dX7_drop_12 rfl (lv_at hl 0 rfl) ?_
  refine va_get (D := D) (ci := 6) (v := .ref b1) (C := RX7) (T := TX7) (N := 9) hx hb hts hinX7 hown hM.1 hP 0 rfl rfl 1 (by decide) (hts (.fieldLink RX7 7 "TripleWaysModel" "s" "[I") (by decide +kernel)) (fun _ h9 => h9) rfl dX7_drop_13 ?_
  refine lv_bipush (v := (nI 41)) hx hb dX7_drop_16 (by decide) ?_
  refine ln_iald hx hb hM.1 hP 1 0 rfl rfl dX7_drop_18 (by decide) (by omega) (rfl) ?_
  refine lv_iload_n hx hb dX7_drop_19 rfl (lv_at hl 1 rfl) ?_
  refine ro_S (n := 2) ⟨hx, hb, hml, hown, hts⟩ hM hS hP (c7_isIn l D tc zb (g 41) q (by omega) (by omega)) gX7_drop_X7_isIn rfl (by decide +kernel) ⟨Nat.le_of_ble_eq_true rfl, Nat.le_of_ble_eq_true rfl⟩ [] rfl rfl hl.1 rfl (Nat.le_of_ble_eq_true rfl) dX7_drop_20 ⟨Nat.le_refl _, Nat.le_refl _⟩ ?_
  refine ln_eq (x' := (bI (false))) (congrArg bI hin) ?_
  refine lv_if_ne (tgt := 30) hx hb dX7_drop_23 (by decide) (fun h9 => False.elim (by revert h9; decide)) (fun _ => ?_)
  refine lv_iconst (v := (nI 2)) hx hb dX7_drop_26 (by decide) ?_
  refine lv_goto (tgt := 31) hx hb dX7_drop_27 (by decide) ?_
  refine ip_V (C := RX7) (n := 1) (wl' := [(b, .inr (6, [.int (nI 2), .ref b1, .ref b2, .ref b3, .int (nI n), .ref b4, .ref b5, .ref b6, .int (nI ln)])), (b1, .inl (tc 0, 60, .inl ((fun k => nI (g k))))), (b2, .inl (tc 0, 60, .inl ((fun k => nI (ga k))))), (b3, .inl (tc 0, 840, .inl ((fun k => nI (sv k))))), (b4, .inl (tc 0, 120, .inl ((fun k => nI (sl k))))), (b5, .inl (tc 3, 2, .inl ((fun k => bI (iz k))))), (b6, .inl (tc 2, 100, .inl ((fun k => byI (u k)))))]) ⟨hx, hb, hml, hown, hts⟩ hM hS hP hD (c7_holdsP l D tc zb b th (fun k9 => match k9 with | 1 => .ref b1 | 2 => .ref b2 | 3 => .ref b3 | 4 => .int (nI n) | 5 => .ref b4 | 6 => .ref b5 | 7 => .ref b6 | 8 => .int (nI ln) | _ => .null) 2 (by omega)) gX7_drop_X7_holds rfl (by decide +kernel) ⟨Nat.le_of_ble_eq_true rfl, Nat.le_of_ble_eq_true rfl⟩ [0] rfl rfl [(true, 0), (false, 1), (false, 2), (false, 3), (false, 4), (false, 5), (false, 6)] rfl rfl rfl (va_recv hM.1 hP (ci := 6) (q0 := 0) rfl rfl) rfl hl.1 rfl (Nat.le_of_ble_eq_true rfl) dX7_drop_31 ⟨Nat.le_refl _, Nat.le_refl _⟩ (fun H locs hP hD hS => ?_)
  refine W.eq (g2 := F0 m 34 ls [.int (bI (false))]) rfl ?_
  refine lv_if_ne (tgt := 39) hx hb dX7_drop_34 (by decide) (fun h9 => False.elim (by revert h9; decide)) (fun _ => ?_)
  refine lv_iconst (v := (nI 0)) hx hb dX7_drop_37 (by decide) ?_
  exact ip_iret hx hb hr hlk dX7_drop_38 hS (rfl) hP
set_option maxHeartbeats 4000000 in
set_option maxRecDepth 100000 in
theorem c7_tidy (l : Launch) (D : va_G) (tc : Nat → ClassId) (zb : Nat) (b b1 b2 b3 b4 b5 b6 : Nat) (th : Int32) (g ga sv : Nat → Nat) (n : Nat) (sl : Nat → Nat) (iz : Nat → Bool) (u : Nat → Nat) (ln : Nat) (hk : k_ok g) (hn : n ≤ 14) (hln : ln ≤ 100) (hu : ∀ k, u k < 256) : IP l yX7_tidy wsX7_tidy 11 254 D tc zb (w_md tc b b1 b2 b3 b4 b5 b6 th g ga sv n sl iz u ln) (w_md tc b b1 b2 b3 b4 b5 b6 (nI 0) ((m_tdy g)) ga ((k_rem sv n g)) (k_n1 n + 1) sl iz u ln) [.ref b] (some (.int (oI (k_tv g)))) := by
  refine IP.of (cc := cX7_tidy) (maxL := 1) (ret := (some .int)) (by decide) rfl (Nat.le_of_ble_eq_true rfl) ?_
  intro p e s m args below meth c A hx hb hr hml hlk hts hown hM hS hP hD ls hl
  have hl : lv_has ls 1 [(0, .ref b)] := hl
  have hinX7 : ∀ w ∈ u_ws RX7 TX7 9, w ∈ wsX7_tidy := by decide +kernel
  obtain ⟨ok0, ok1, ok2, ok3, ok4, ok5, ok6⟩ := id hk
  refine lv_aload_n hx hb dX7_tidy_0 rfl (lv_at hl 0 rfl) ?_
  refine lv_iconst (v := (nI 0)) hx hb dX7_tidy_1 (by decide) ?_
  refine va_put (D := D) (ci := 6) (v := .int (nI 0)) (ty := .int) (C := RX7) (T := TX7) (N := 9) hx hb hts hinX7 tyX7 tyX7_ok nmX7 hown hM.1 hP hD hS 0 rfl rfl 0 (by decide) (hts (.fieldLink RX7 30 "TripleWaysModel" "thrown" "I") (by decide +kernel)) (fun _ h9 => h9) rfl (by decide +kernel) rfl rfl (Nat.le_of_ble_eq_true rfl) dX7_tidy_2 (fun H locs hP hD hS => ?_)
  have hP : va_P D vwCl [(b, .inr (6, [.int (nI 0), .ref b1, .ref b2, .ref b3, .int (nI n), .ref b4, .ref b5, .ref b6, .int (nI ln)])), (b1, .inl (tc 0, 60, .inl ((fun k => nI (g k))))), (b2, .inl (tc 0, 60, .inl ((fun k => nI (ga k))))), (b3, .inl (tc 0, 840, .inl ((fun k => nI (sv k))))), (b4, .inl (tc 0, 120, .inl ((fun k => nI (sl k))))), (b5, .inl (tc 3, 2, .inl ((fun k => bI (iz k))))), (b6, .inl (tc 2, 100, .inl ((fun k => byI (u k)))))] H := hP
  have hD : va_D A [(b, .inr (6, [.int (nI 0), .ref b1, .ref b2, .ref b3, .int (nI n), .ref b4, .ref b5, .ref b6, .int (nI ln)])), (b1, .inl (tc 0, 60, .inl ((fun k => nI (g k))))), (b2, .inl (tc 0, 60, .inl ((fun k => nI (ga k))))), (b3, .inl (tc 0, 840, .inl ((fun k => nI (sv k))))), (b4, .inl (tc 0, 120, .inl ((fun k => nI (sl k))))), (b5, .inl (tc 3, 2, .inl ((fun k => bI (iz k))))), (b6, .inl (tc 2, 100, .inl ((fun k => byI (u k)))))] := hD
  refine lv_aload_n hx hb dX7_tidy_5 rfl (lv_at hl 0 rfl) ?_
  refine ip_V (C := RX7) (n := 0) (wl' := [(b, .inr (6, [.int (nI 0), .ref b1, .ref b2, .ref b3, .int (nI (k_n1 n + 1)), .ref b4, .ref b5, .ref b6, .int (nI ln)])), (b1, .inl (tc 0, 60, .inl ((fun k => nI (g k))))), (b2, .inl (tc 0, 60, .inl ((fun k => nI (ga k))))), (b3, .inl (tc 0, 840, .inl ((fun k => nI ((k_rem sv n g) k))))), (b4, .inl (tc 0, 120, .inl ((fun k => nI (sl k))))), (b5, .inl (tc 3, 2, .inl ((fun k => bI (iz k))))), (b6, .inl (tc 2, 100, .inl ((fun k => byI (u k)))))]) ⟨hx, hb, hml, hown, hts⟩ hM hS hP hD (c7_remember l D tc zb b b1 b3 (fun k9 => match k9 with | 0 => .int (nI 0) | 2 => .ref b2 | 5 => .ref b4 | 6 => .ref b5 | 7 => .ref b6 | 8 => .int (nI ln) | _ => .null) g sv n (by omega)) gX7_tidy_X7_remember rfl (by decide +kernel) ⟨Nat.le_of_ble_eq_true rfl, Nat.le_of_ble_eq_true rfl⟩ [0, 1, 3] rfl rfl [(true, 0), (true, 1), (false, 2), (true, 2), (false, 4), (false, 5), (false, 6)] rfl rfl rfl (va_recv hM.1 hP (ci := 6) (q0 := 0) rfl rfl) rfl hl.1 rfl (Nat.le_of_ble_eq_true rfl) dX7_tidy_6 ⟨Nat.le_refl _, Nat.le_refl _⟩ (fun H locs hP hD hS => ?_)
  refine W.eq (g2 := F0 m 9 ls []) rfl ?_
  refine lv_aload_n hx hb dX7_tidy_9 rfl (lv_at hl 0 rfl) ?_
  refine ip_V (C := RX7) (n := 0) (wl' := [(b, .inr (6, [.int (nI 0), .ref b1, .ref b2, .ref b3, .int (nI (k_n1 n + 1)), .ref b4, .ref b5, .ref b6, .int (nI ln)])), (b1, .inl (tc 0, 60, .inl ((fun k => nI ((m_tdy g) k))))), (b2, .inl (tc 0, 60, .inl ((fun k => nI (ga k))))), (b3, .inl (tc 0, 840, .inl ((fun k => nI ((k_rem sv n g) k))))), (b4, .inl (tc 0, 120, .inl ((fun k => nI (sl k))))), (b5, .inl (tc 3, 2, .inl ((fun k => bI (iz k))))), (b6, .inl (tc 2, 100, .inl ((fun k => byI (u k)))))]) ⟨hx, hb, hml, hown, hts⟩ hM hS hP hD (c7_tidies l D tc zb b b1 (fun k9 => match k9 with | 0 => .int (nI 0) | 2 => .ref b2 | 3 => .ref b3 | 4 => .int (nI (k_n1 n + 1)) | 5 => .ref b4 | 6 => .ref b5 | 7 => .ref b6 | 8 => .int (nI ln) | _ => .null) g hk) gX7_tidy_X7_tidies rfl (by decide +kernel) ⟨Nat.le_of_ble_eq_true rfl, Nat.le_of_ble_eq_true rfl⟩ [0, 1] rfl rfl [(true, 0), (true, 1), (false, 2), (false, 3), (false, 4), (false, 5), (false, 6)] rfl rfl rfl (va_recv hM.1 hP (ci := 6) (q0 := 0) rfl rfl) rfl hl.1 rfl (Nat.le_of_ble_eq_true rfl) dX7_tidy_10 ⟨Nat.le_refl _, Nat.le_refl _⟩ (fun H locs hP hD hS => ?_)
  refine W.eq (g2 := F0 m 13 ls [.int (oI (k_tv g))]) rfl ?_
  exact ip_iret hx hb hr hlk dX7_tidy_13 hS (rfl) hP
set_option maxHeartbeats 4000000 in
set_option maxRecDepth 100000 in
theorem c7_setWeight_ok (l : Launch) (D : va_G) (tc : Nat → ClassId) (zb : Nat) (b b1 b2 b3 b4 b5 b6 : Nat) (th : Int32) (g ga sv : Nat → Nat) (n : Nat) (sl : Nat → Nat) (iz : Nat → Bool) (u : Nat → Nat) (ln : Nat) (x : Nat) (hk : k_ok g) (hn : n ≤ 14) (hln : ln ≤ 100) (hu : ∀ k, u k < 256) (hx9 : x ≤ 99) : IP l yX7_setWeight wsX7_setWeight 1 25 D tc zb (w_md tc b b1 b2 b3 b4 b5 b6 th g ga sv n sl iz u ln) (w_md tc b b1 b2 b3 b4 b5 b6 (nI 0) ((k_up g 59 x)) ga ((k_rem sv n g)) (k_n1 n + 1) sl iz u ln) [.ref b, .int (nI x)] (some (.int (nI (g 59)))) := by
  refine IP.of (cc := cX7_setWeight) (maxL := 3) (ret := (some .int)) (by decide) rfl (Nat.le_of_ble_eq_true rfl) ?_
  intro p e s m args below meth c A hx hb hr hml hlk hts hown hM hS hP hD ls hl
  have hl : lv_has ls 3 [(0, .ref b), (1, .int (nI x))] := hl
  have hinX7 : ∀ w ∈ u_ws RX7 TX7 9, w ∈ wsX7_setWeight := by decide +kernel
  obtain ⟨ok0, ok1, ok2, ok3, ok4, ok5, ok6⟩ := id hk
  refine lv_aload_n hx hb dX7_setWeight_0 rfl (lv_at hl 0 rfl) ?_
  refine lv_iload_n hx hb dX7_setWeight_1 rfl (lv_at hl 1 rfl) ?_
  refine lv_i2l (v := ((nI x)).toInt64) hx hb dX7_setWeight_2 rfl ?_
  refine lv_lconst (v := (0 : Int64)) hx hb dX7_setWeight_3 rfl ?_
  refine lv_ldc2 (v := (99 : Int64)) hx hb hown (hts (.constantLong RX7 173 (99)) (by decide +kernel)) dX7_setWeight_4 ?_
  refine ro_S (n := 3) ⟨hx, hb, hml, hown, hts⟩ hM hS hP (c7_in_ok l D tc zb x 0 99 (by omega) (by decide)) gX7_setWeight_X7_in rfl (by decide +kernel) ⟨Nat.le_of_ble_eq_true rfl, Nat.le_of_ble_eq_true rfl⟩ [] rfl rfl hl.1 rfl (Nat.le_of_ble_eq_true rfl) dX7_setWeight_7 ⟨Nat.le_refl _, Nat.le_refl _⟩ ?_
  refine lv_if_eq (tgt := 17) hx hb dX7_setWeight_10 (by decide) (fun h9 => False.elim (by revert h9; decide)) (fun _ => ?_)
  refine lv_iconst (v := (nI 0)) hx hb dX7_setWeight_13 (by decide) ?_
  refine lv_goto (tgt := 18) hx hb dX7_setWeight_14 (by decide) ?_
  refine ip_V (C := RX7) (n := 1) (wl' := [(b, .inr (6, [.int (nI 0), .ref b1, .ref b2, .ref b3, .int (nI n), .ref b4, .ref b5, .ref b6, .int (nI ln)])), (b1, .inl (tc 0, 60, .inl ((fun k => nI (g k))))), (b2, .inl (tc 0, 60, .inl ((fun k => nI (ga k))))), (b3, .inl (tc 0, 840, .inl ((fun k => nI (sv k))))), (b4, .inl (tc 0, 120, .inl ((fun k => nI (sl k))))), (b5, .inl (tc 3, 2, .inl ((fun k => bI (iz k))))), (b6, .inl (tc 2, 100, .inl ((fun k => byI (u k)))))]) ⟨hx, hb, hml, hown, hts⟩ hM hS hP hD (c7_holds0 l D tc zb b th (fun k9 => match k9 with | 1 => .ref b1 | 2 => .ref b2 | 3 => .ref b3 | 4 => .int (nI n) | 5 => .ref b4 | 6 => .ref b5 | 7 => .ref b6 | 8 => .int (nI ln) | _ => .null)) gX7_setWeight_X7_holds rfl (by decide +kernel) ⟨Nat.le_of_ble_eq_true rfl, Nat.le_of_ble_eq_true rfl⟩ [0] rfl rfl [(true, 0), (false, 1), (false, 2), (false, 3), (false, 4), (false, 5), (false, 6)] rfl rfl rfl (va_recv hM.1 hP (ci := 6) (q0 := 0) rfl rfl) rfl hl.1 rfl (Nat.le_of_ble_eq_true rfl) dX7_setWeight_18 ⟨Nat.le_refl _, Nat.le_refl _⟩ (fun H locs hP hD hS => ?_)
  refine W.eq (g2 := F0 m 21 ls [.int (bI (true))]) rfl ?_
  refine lv_if_ne (tgt := 26) hx hb dX7_setWeight_21 (by decide) (fun _ => ?_) (fun h9 => False.elim (by revert h9; decide))
  refine lv_aload_n hx hb dX7_setWeight_26 rfl (lv_at hl 0 rfl) ?_
  refine ip_V (C := RX7) (n := 0) (wl' := [(b, .inr (6, [.int (nI 0), .ref b1, .ref b2, .ref b3, .int (nI (k_n1 n + 1)), .ref b4, .ref b5, .ref b6, .int (nI ln)])), (b1, .inl (tc 0, 60, .inl ((fun k => nI (g k))))), (b2, .inl (tc 0, 60, .inl ((fun k => nI (ga k))))), (b3, .inl (tc 0, 840, .inl ((fun k => nI ((k_rem sv n g) k))))), (b4, .inl (tc 0, 120, .inl ((fun k => nI (sl k))))), (b5, .inl (tc 3, 2, .inl ((fun k => bI (iz k))))), (b6, .inl (tc 2, 100, .inl ((fun k => byI (u k)))))]) ⟨hx, hb, hml, hown, hts⟩ hM hS hP hD (c7_remember l D tc zb b b1 b3 (fun k9 => match k9 with | 0 => .int (nI 0) | 2 => .ref b2 | 5 => .ref b4 | 6 => .ref b5 | 7 => .ref b6 | 8 => .int (nI ln) | _ => .null) g sv n (by omega)) gX7_setWeight_X7_remember rfl (by decide +kernel) ⟨Nat.le_of_ble_eq_true rfl, Nat.le_of_ble_eq_true rfl⟩ [0, 1, 3] rfl rfl [(true, 0), (true, 1), (false, 2), (true, 2), (false, 4), (false, 5), (false, 6)] rfl rfl rfl (va_recv hM.1 hP (ci := 6) (q0 := 0) rfl rfl) rfl hl.1 rfl (Nat.le_of_ble_eq_true rfl) dX7_setWeight_27 ⟨Nat.le_refl _, Nat.le_refl _⟩ (fun H locs hP hD hS => ?_)
  refine W.eq (g2 := F0 m 30 ls []) rfl ?_
  refine lv_aload_n hx hb dX7_setWeight_30 rfl (lv_at hl 0 rfl) ?_
  refine va_get (D := D) (ci := 6) (v := .ref b1) (C := RX7) (T := TX7) (N := 9) hx hb hts hinX7 hown hM.1 hP 0 rfl rfl 1 (by decide) (hts (.fieldLink RX7 7 "TripleWaysModel" "s" "[I") (by decide +kernel)) (fun _ h9 => h9) rfl dX7_setWeight_31 ?_
  refine lv_bipush (v := (nI 59)) hx hb dX7_setWeight_34 (by decide) ?_
  refine ln_iald hx hb hM.1 hP 1 0 rfl rfl dX7_setWeight_36 (by decide) (by omega) (rfl) ?_
  refine lv_istore_n (lv' := [(2, .int (nI (g 59))), (0, .ref b), (1, .int (nI x))]) hx hb dX7_setWeight_37 rfl hl (by decide) rfl (fun ls hl => ?_)
  refine lv_aload_n hx hb dX7_setWeight_38 rfl (lv_at hl 1 rfl) ?_
  refine va_get (D := D) (ci := 6) (v := .ref b1) (C := RX7) (T := TX7) (N := 9) hx hb hts hinX7 hown hM.1 hP 0 rfl rfl 1 (by decide) (hts (.fieldLink RX7 7 "TripleWaysModel" "s" "[I") (by decide +kernel)) (fun _ h9 => h9) rfl dX7_setWeight_39 ?_
  refine lv_bipush (v := (nI 59)) hx hb dX7_setWeight_42 (by decide) ?_
  refine lv_iload_n hx hb dX7_setWeight_44 rfl (lv_at hl 2 rfl) ?_
  refine ln_iastN hx hb hM.1 hP hD hS 1 0 rfl rfl dX7_setWeight_45 (by decide) (by omega) (fun H locs hP hD hS => ?_)
  have hP : va_P D vwCl [(b, .inr (6, [.int (nI 0), .ref b1, .ref b2, .ref b3, .int (nI (k_n1 n + 1)), .ref b4, .ref b5, .ref b6, .int (nI ln)])), (b1, .inl (tc 0, 60, .inl ((fun k => nI (k_up g 59 x k))))), (b2, .inl (tc 0, 60, .inl ((fun k => nI (ga k))))), (b3, .inl (tc 0, 840, .inl ((fun k => nI ((k_rem sv n g) k))))), (b4, .inl (tc 0, 120, .inl ((fun k => nI (sl k))))), (b5, .inl (tc 3, 2, .inl ((fun k => bI (iz k))))), (b6, .inl (tc 2, 100, .inl ((fun k => byI (u k)))))] H := hP
  have hD : va_D A [(b, .inr (6, [.int (nI 0), .ref b1, .ref b2, .ref b3, .int (nI (k_n1 n + 1)), .ref b4, .ref b5, .ref b6, .int (nI ln)])), (b1, .inl (tc 0, 60, .inl ((fun k => nI (k_up g 59 x k))))), (b2, .inl (tc 0, 60, .inl ((fun k => nI (ga k))))), (b3, .inl (tc 0, 840, .inl ((fun k => nI ((k_rem sv n g) k))))), (b4, .inl (tc 0, 120, .inl ((fun k => nI (sl k))))), (b5, .inl (tc 3, 2, .inl ((fun k => bI (iz k))))), (b6, .inl (tc 2, 100, .inl ((fun k => byI (u k)))))] := hD
  refine lv_iload_n hx hb dX7_setWeight_46 rfl (lv_at hl 0 rfl) ?_
  exact ip_iret hx hb hr hlk dX7_setWeight_47 hS (rfl) hP
set_option maxHeartbeats 4000000 in
set_option maxRecDepth 100000 in
theorem c7_setWeight_b1 (l : Launch) (D : va_G) (tc : Nat → ClassId) (zb : Nat) (b b1 b2 b3 b4 b5 b6 : Nat) (th : Int32) (g ga sv : Nat → Nat) (n : Nat) (sl : Nat → Nat) (iz : Nat → Bool) (u : Nat → Nat) (ln : Nat) (pp : Int32) (hk : k_ok g) (hn : n ≤ 14) (hln : ln ≤ 100) (hu : ∀ k, u k < 256) (hp : ¬ (nI 0 ≤ pp ∧ pp ≤ nI 99)) : IP l yX7_setWeight wsX7_setWeight 1 25 D tc zb (w_md tc b b1 b2 b3 b4 b5 b6 th g ga sv n sl iz u ln) (w_md tc b b1 b2 b3 b4 b5 b6 (nI 1) g ga sv n sl iz u ln) [.ref b, .int (pp)] (some (.int (nI 0))) := by
  refine IP.of (cc := cX7_setWeight) (maxL := 3) (ret := (some .int)) (by decide) rfl (Nat.le_of_ble_eq_true rfl) ?_
  intro p e s m args below meth c A hx hb hr hml hlk hts hown hM hS hP hD ls hl
  have hl : lv_has ls 3 [(0, .ref b), (1, .int (pp))] := hl
  obtain ⟨ok0, ok1, ok2, ok3, ok4, ok5, ok6⟩ := id hk
  refine lv_aload_n hx hb dX7_setWeight_0 rfl (lv_at hl 0 rfl) ?_
  refine lv_iload_n hx hb dX7_setWeight_1 rfl (lv_at hl 1 rfl) ?_
  refine lv_i2l (v := ((pp)).toInt64) hx hb dX7_setWeight_2 rfl ?_
  refine lv_lconst (v := (0 : Int64)) hx hb dX7_setWeight_3 rfl ?_
  refine lv_ldc2 (v := (99 : Int64)) hx hb hown (hts (.constantLong RX7 173 (99)) (by decide +kernel)) dX7_setWeight_4 ?_
  refine ro_S (n := 3) ⟨hx, hb, hml, hown, hts⟩ hM hS hP (c7_in_bad l D tc zb pp 0 99 (by assumption) (by decide) (by decide)) gX7_setWeight_X7_in rfl (by decide +kernel) ⟨Nat.le_of_ble_eq_true rfl, Nat.le_of_ble_eq_true rfl⟩ [] rfl rfl hl.1 rfl (Nat.le_of_ble_eq_true rfl) dX7_setWeight_7 ⟨Nat.le_refl _, Nat.le_refl _⟩ ?_
  refine lv_if_eq (tgt := 17) hx hb dX7_setWeight_10 (by decide) (fun _ => ?_) (fun h9 => False.elim (by revert h9; decide))
  refine lv_iconst (v := (nI 1)) hx hb dX7_setWeight_17 (by decide) ?_
  refine ip_V (C := RX7) (n := 1) (wl' := [(b, .inr (6, [.int (nI 1), .ref b1, .ref b2, .ref b3, .int (nI n), .ref b4, .ref b5, .ref b6, .int (nI ln)])), (b1, .inl (tc 0, 60, .inl ((fun k => nI (g k))))), (b2, .inl (tc 0, 60, .inl ((fun k => nI (ga k))))), (b3, .inl (tc 0, 840, .inl ((fun k => nI (sv k))))), (b4, .inl (tc 0, 120, .inl ((fun k => nI (sl k))))), (b5, .inl (tc 3, 2, .inl ((fun k => bI (iz k))))), (b6, .inl (tc 2, 100, .inl ((fun k => byI (u k)))))]) ⟨hx, hb, hml, hown, hts⟩ hM hS hP hD (c7_holdsP l D tc zb b th (fun k9 => match k9 with | 1 => .ref b1 | 2 => .ref b2 | 3 => .ref b3 | 4 => .int (nI n) | 5 => .ref b4 | 6 => .ref b5 | 7 => .ref b6 | 8 => .int (nI ln) | _ => .null) 1 (by omega)) gX7_setWeight_X7_holds rfl (by decide +kernel) ⟨Nat.le_of_ble_eq_true rfl, Nat.le_of_ble_eq_true rfl⟩ [0] rfl rfl [(true, 0), (false, 1), (false, 2), (false, 3), (false, 4), (false, 5), (false, 6)] rfl rfl rfl (va_recv hM.1 hP (ci := 6) (q0 := 0) rfl rfl) rfl hl.1 rfl (Nat.le_of_ble_eq_true rfl) dX7_setWeight_18 ⟨Nat.le_refl _, Nat.le_refl _⟩ (fun H locs hP hD hS => ?_)
  refine W.eq (g2 := F0 m 21 ls [.int (bI (false))]) rfl ?_
  refine lv_if_ne (tgt := 26) hx hb dX7_setWeight_21 (by decide) (fun h9 => False.elim (by revert h9; decide)) (fun _ => ?_)
  refine lv_iconst (v := (nI 0)) hx hb dX7_setWeight_24 (by decide) ?_
  exact ip_iret hx hb hr hlk dX7_setWeight_25 hS (rfl) hP
set_option maxHeartbeats 4000000 in
set_option maxRecDepth 100000 in
theorem c7_undo_ok (l : Launch) (D : va_G) (tc : Nat → ClassId) (zb : Nat) (b b1 b2 b3 b4 b5 b6 : Nat) (th : Int32) (g ga sv : Nat → Nat) (n : Nat) (sl : Nat → Nat) (iz : Nat → Bool) (u : Nat → Nat) (ln : Nat) (hk : k_ok g) (hn : n ≤ 14) (hln : ln ≤ 100) (hu : ∀ k, u k < 256) (hn0 : 0 < n) : IP l yX7_undo wsX7_undo 1 21 D tc zb (w_md tc b b1 b2 b3 b4 b5 b6 th g ga sv n sl iz u ln) (w_md tc b b1 b2 b3 b4 b5 b6 (nI 0) ((k_win sv g 0 (60 * (n - 1)) 60)) ga sv (n - 1) sl iz u ln) [.ref b] (some (.int (nI (n - 1)))) := by
  refine IP.of (cc := cX7_undo) (maxL := 2) (ret := (some .int)) (by decide) rfl (Nat.le_of_ble_eq_true rfl) ?_
  intro p e s m args below meth c A hx hb hr hml hlk hts hown hM hS hP hD ls hl
  have hl : lv_has ls 2 [(0, .ref b)] := hl
  have hinX7 : ∀ w ∈ u_ws RX7 TX7 9, w ∈ wsX7_undo := by decide +kernel
  obtain ⟨ok0, ok1, ok2, ok3, ok4, ok5, ok6⟩ := id hk
  refine lv_aload_n hx hb dX7_undo_0 rfl (lv_at hl 0 rfl) ?_
  refine lv_aload_n hx hb dX7_undo_1 rfl (lv_at hl 0 rfl) ?_
  refine va_get (D := D) (ci := 6) (v := .int (nI n)) (C := RX7) (T := TX7) (N := 9) hx hb hts hinX7 hown hM.1 hP 0 rfl rfl 4 (by decide) (hts (.fieldLink RX7 34 "TripleWaysModel" "savedMany" "I") (by decide +kernel)) (fun _ h9 => h9) rfl dX7_undo_2 ?_
  refine ln_if_le (tgt := 12) hx hb dX7_undo_5 (by decide) (by omega) (fun h1 => ?_) (fun h1 => ?_)
  · exfalso; omega
  · refine lv_iconst (v := (nI 0)) hx hb dX7_undo_8 (by decide) ?_
    refine lv_goto (tgt := 13) hx hb dX7_undo_9 (by decide) ?_
    refine ip_V (C := RX7) (n := 1) (wl' := [(b, .inr (6, [.int (nI 0), .ref b1, .ref b2, .ref b3, .int (nI n), .ref b4, .ref b5, .ref b6, .int (nI ln)])), (b1, .inl (tc 0, 60, .inl ((fun k => nI (g k))))), (b2, .inl (tc 0, 60, .inl ((fun k => nI (ga k))))), (b3, .inl (tc 0, 840, .inl ((fun k => nI (sv k))))), (b4, .inl (tc 0, 120, .inl ((fun k => nI (sl k))))), (b5, .inl (tc 3, 2, .inl ((fun k => bI (iz k))))), (b6, .inl (tc 2, 100, .inl ((fun k => byI (u k)))))]) ⟨hx, hb, hml, hown, hts⟩ hM hS hP hD (c7_holds0 l D tc zb b th (fun k9 => match k9 with | 1 => .ref b1 | 2 => .ref b2 | 3 => .ref b3 | 4 => .int (nI n) | 5 => .ref b4 | 6 => .ref b5 | 7 => .ref b6 | 8 => .int (nI ln) | _ => .null)) gX7_undo_X7_holds rfl (by decide +kernel) ⟨Nat.le_of_ble_eq_true rfl, Nat.le_of_ble_eq_true rfl⟩ [0] rfl rfl [(true, 0), (false, 1), (false, 2), (false, 3), (false, 4), (false, 5), (false, 6)] rfl rfl rfl (va_recv hM.1 hP (ci := 6) (q0 := 0) rfl rfl) rfl hl.1 rfl (Nat.le_of_ble_eq_true rfl) dX7_undo_13 ⟨Nat.le_refl _, Nat.le_refl _⟩ (fun H locs hP hD hS => ?_)
    refine W.eq (g2 := F0 m 16 ls [.int (bI (true))]) rfl ?_
    refine lv_if_ne (tgt := 21) hx hb dX7_undo_16 (by decide) (fun _ => ?_) (fun h9 => False.elim (by revert h9; decide))
    refine lv_aload_n hx hb dX7_undo_21 rfl (lv_at hl 0 rfl) ?_
    refine lv_dup hx hb dX7_undo_22 rfl ?_
    refine va_get (D := D) (ci := 6) (v := .int (nI n)) (C := RX7) (T := TX7) (N := 9) hx hb hts hinX7 hown hM.1 hP 0 rfl rfl 4 (by decide) (hts (.fieldLink RX7 34 "TripleWaysModel" "savedMany" "I") (by decide +kernel)) (fun _ h9 => h9) rfl dX7_undo_23 ?_
    refine lv_iconst (v := (nI 1)) hx hb dX7_undo_26 (by decide) ?_
    refine ln_isub hx hb dX7_undo_27 (by omega) ?_
    refine va_put (D := D) (ci := 6) (v := .int (nI (n - 1))) (ty := .int) (C := RX7) (T := TX7) (N := 9) hx hb hts hinX7 tyX7 tyX7_ok nmX7 hown hM.1 hP hD hS 0 rfl rfl 4 (by decide) (hts (.fieldLink RX7 34 "TripleWaysModel" "savedMany" "I") (by decide +kernel)) (fun _ h9 => h9) rfl (by decide +kernel) rfl rfl (Nat.le_of_ble_eq_true rfl) dX7_undo_28 (fun H locs hP hD hS => ?_)
    have hP : va_P D vwCl [(b, .inr (6, [.int (nI 0), .ref b1, .ref b2, .ref b3, .int (nI (n - 1)), .ref b4, .ref b5, .ref b6, .int (nI ln)])), (b1, .inl (tc 0, 60, .inl ((fun k => nI (g k))))), (b2, .inl (tc 0, 60, .inl ((fun k => nI (ga k))))), (b3, .inl (tc 0, 840, .inl ((fun k => nI (sv k))))), (b4, .inl (tc 0, 120, .inl ((fun k => nI (sl k))))), (b5, .inl (tc 3, 2, .inl ((fun k => bI (iz k))))), (b6, .inl (tc 2, 100, .inl ((fun k => byI (u k)))))] H := hP
    have hD : va_D A [(b, .inr (6, [.int (nI 0), .ref b1, .ref b2, .ref b3, .int (nI (n - 1)), .ref b4, .ref b5, .ref b6, .int (nI ln)])), (b1, .inl (tc 0, 60, .inl ((fun k => nI (g k))))), (b2, .inl (tc 0, 60, .inl ((fun k => nI (ga k))))), (b3, .inl (tc 0, 840, .inl ((fun k => nI (sv k))))), (b4, .inl (tc 0, 120, .inl ((fun k => nI (sl k))))), (b5, .inl (tc 3, 2, .inl ((fun k => bI (iz k))))), (b6, .inl (tc 2, 100, .inl ((fun k => byI (u k)))))] := hD
    refine lv_iconst (v := (nI 0)) hx hb dX7_undo_31 (by decide) ?_
    refine lv_istore_n (lv' := [(1, .int (nI 0)), (0, .ref b)]) hx hb dX7_undo_32 rfl hl (by decide) rfl (fun ls hl => ?_)
    have lp33 : ∀ (n9 : Nat) (gf : Nat → Nat) (i : Nat), (60 - i) < n9 → (i ≤ 60) → (gf = k_win sv g 0 (60 * (n - 1)) i) → ∀ (H : Heap) (locs : List Loc), va_P D vwCl [(b, .inr (6, [.int (nI 0), .ref b1, .ref b2, .ref b3, .int (nI (n - 1)), .ref b4, .ref b5, .ref b6, .int (nI ln)])), (b1, .inl (tc 0, 60, .inl ((fun k => nI (gf k))))), (b2, .inl (tc 0, 60, .inl ((fun k => nI (ga k))))), (b3, .inl (tc 0, 840, .inl ((fun k => nI (sv k))))), (b4, .inl (tc 0, 120, .inl ((fun k => nI (sl k))))), (b5, .inl (tc 3, 2, .inl ((fun k => bI (iz k))))), (b6, .inl (tc 2, 100, .inl ((fun k => byI (u k)))))] H → va_D A [(b, .inr (6, [.int (nI 0), .ref b1, .ref b2, .ref b3, .int (nI (n - 1)), .ref b4, .ref b5, .ref b6, .int (nI ln)])), (b1, .inl (tc 0, 60, .inl ((fun k => nI (gf k))))), (b2, .inl (tc 0, 60, .inl ((fun k => nI (ga k))))), (b3, .inl (tc 0, 840, .inl ((fun k => nI (sv k))))), (b4, .inl (tc 0, 120, .inl ((fun k => nI (sl k))))), (b5, .inl (tc 3, 2, .inl ((fun k => bI (iz k))))), (b6, .inl (tc 2, 100, .inl ((fun k => byI (u k)))))] → va_S A s.heap H locs → ∀ ls : Array Slot, lv_has ls 2 [(1, .int (nI i)), (0, .ref b)] → W p l e ({ frames := 1, cells := 0, slots := 0, locals := 21 } : Room) s m args below meth c H locs 0 0 (MQ below (ipQ D A (w_md tc b b1 b2 b3 b4 b5 b6 (nI 0) ((k_win sv g 0 (60 * (n - 1)) 60)) ga sv (n - 1) sl iz u ln) (some (.int (nI (n - 1))))) args s 0 0 A) (F0 m 33 ls []) := by
      intro n9
      induction n9 with
      | zero => intro gf i hmu; exact absurd hmu (Nat.not_lt_zero _)
      | succ n9 ih33 =>
        intro gf i hmu hi hgf H locs hP hD hS ls hl
        refine lv_iload_n hx hb dX7_undo_33 rfl (lv_at hl 0 rfl) ?_
        refine lv_bipush (v := (nI 60)) hx hb dX7_undo_34 (by decide) ?_
        refine ln_icmp_ge (tgt := 65) hx hb dX7_undo_36 (by decide) (by omega) (by decide) (fun h2 => ?_) (fun h2 => ?_)
        · refine lv_aload_n hx hb dX7_undo_65 rfl (lv_at hl 1 rfl) ?_
          refine va_get (D := D) (ci := 6) (v := .int (nI (n - 1))) (C := RX7) (T := TX7) (N := 9) hx hb hts hinX7 hown hM.1 hP 0 rfl rfl 4 (by decide) (hts (.fieldLink RX7 34 "TripleWaysModel" "savedMany" "I") (by decide +kernel)) (fun _ h9 => h9) rfl dX7_undo_66 ?_
          exact ip_iret hx hb hr hlk dX7_undo_69 hS (rfl) (by (have ei : i = 60 := by omega); rw [ei] at hgf; rw [← hgf]; exact hP)
        · refine lv_aload_n hx hb dX7_undo_39 rfl (lv_at hl 1 rfl) ?_
          refine va_get (D := D) (ci := 6) (v := .ref b1) (C := RX7) (T := TX7) (N := 9) hx hb hts hinX7 hown hM.1 hP 0 rfl rfl 1 (by decide) (hts (.fieldLink RX7 7 "TripleWaysModel" "s" "[I") (by decide +kernel)) (fun _ h9 => h9) rfl dX7_undo_40 ?_
          refine lv_iload_n hx hb dX7_undo_43 rfl (lv_at hl 0 rfl) ?_
          refine lv_aload_n hx hb dX7_undo_44 rfl (lv_at hl 1 rfl) ?_
          refine va_get (D := D) (ci := 6) (v := .ref b3) (C := RX7) (T := TX7) (N := 9) hx hb hts hinX7 hown hM.1 hP 0 rfl rfl 3 (by decide) (hts (.fieldLink RX7 16 "TripleWaysModel" "saved" "[I") (by decide +kernel)) (fun _ h9 => h9) rfl dX7_undo_45 ?_
          refine lv_bipush (v := (nI 60)) hx hb dX7_undo_48 (by decide) ?_
          refine lv_aload_n hx hb dX7_undo_50 rfl (lv_at hl 1 rfl) ?_
          refine va_get (D := D) (ci := 6) (v := .int (nI (n - 1))) (C := RX7) (T := TX7) (N := 9) hx hb hts hinX7 hown hM.1 hP 0 rfl rfl 4 (by decide) (hts (.fieldLink RX7 34 "TripleWaysModel" "savedMany" "I") (by decide +kernel)) (fun _ h9 => h9) rfl dX7_undo_51 ?_
          refine ln_imul hx hb dX7_undo_54 ?_
          refine lv_iload_n hx hb dX7_undo_55 rfl (lv_at hl 0 rfl) ?_
          refine ln_iadd hx hb dX7_undo_56 ?_
          refine ln_iald hx hb hM.1 hP 3 0 rfl rfl dX7_undo_57 (by decide) (by omega) (rfl) ?_
          refine ln_iastN hx hb hM.1 hP hD hS 1 0 rfl rfl dX7_undo_58 (by decide) (by omega) (fun H locs hP hD hS => ?_)
          have hP : va_P D vwCl [(b, .inr (6, [.int (nI 0), .ref b1, .ref b2, .ref b3, .int (nI (n - 1)), .ref b4, .ref b5, .ref b6, .int (nI ln)])), (b1, .inl (tc 0, 60, .inl ((fun k => nI (k_up gf i (sv ((60 * (n - 1)) + i)) k))))), (b2, .inl (tc 0, 60, .inl ((fun k => nI (ga k))))), (b3, .inl (tc 0, 840, .inl ((fun k => nI (sv k))))), (b4, .inl (tc 0, 120, .inl ((fun k => nI (sl k))))), (b5, .inl (tc 3, 2, .inl ((fun k => bI (iz k))))), (b6, .inl (tc 2, 100, .inl ((fun k => byI (u k)))))] H := hP
          have hD : va_D A [(b, .inr (6, [.int (nI 0), .ref b1, .ref b2, .ref b3, .int (nI (n - 1)), .ref b4, .ref b5, .ref b6, .int (nI ln)])), (b1, .inl (tc 0, 60, .inl ((fun k => nI (k_up gf i (sv ((60 * (n - 1)) + i)) k))))), (b2, .inl (tc 0, 60, .inl ((fun k => nI (ga k))))), (b3, .inl (tc 0, 840, .inl ((fun k => nI (sv k))))), (b4, .inl (tc 0, 120, .inl ((fun k => nI (sl k))))), (b5, .inl (tc 3, 2, .inl ((fun k => bI (iz k))))), (b6, .inl (tc 2, 100, .inl ((fun k => byI (u k)))))] := hD
          refine lv_iinc (v := (nI (i + 1))) (lv' := [(1, .int (nI (i + 1))), (0, .ref b)]) hx hb dX7_undo_59 hl (k := 0) rfl (nI_add i 1) (by decide) rfl (fun ls hl => ?_)
          refine lv_goto (tgt := 33) hx hb dX7_undo_62 (by decide) ?_
          exact ih33 (k_up gf i (sv ((60 * (n - 1)) + i))) (i + 1) (by omega) (by omega) (by have h := k_win_1 (d := 0) hgf (x := sv (60 * (n - 1) + i)) rfl; rw [Nat.zero_add] at h; exact h) _ _ hP hD hS _ (lv_sub hl [0, 1] rfl)
    exact lp33 _ g 0 (Nat.lt_succ_self _) (by omega) (by exact (k_win_0 _ _ _ _).symm) _ _ hP hD hS _ (lv_sub hl [0, 1] rfl)
set_option maxHeartbeats 4000000 in
set_option maxRecDepth 100000 in
theorem c7_undo_b1 (l : Launch) (D : va_G) (tc : Nat → ClassId) (zb : Nat) (b b1 b2 b3 b4 b5 b6 : Nat) (th : Int32) (g ga sv : Nat → Nat) (n : Nat) (sl : Nat → Nat) (iz : Nat → Bool) (u : Nat → Nat) (ln : Nat) (hk : k_ok g) (hn : n ≤ 14) (hln : ln ≤ 100) (hu : ∀ k, u k < 256) (hn0 : n = 0) : IP l yX7_undo wsX7_undo 1 21 D tc zb (w_md tc b b1 b2 b3 b4 b5 b6 th g ga sv n sl iz u ln) (w_md tc b b1 b2 b3 b4 b5 b6 (nI 1) g ga sv n sl iz u ln) [.ref b] (some (.int (nI 0))) := by
  refine IP.of (cc := cX7_undo) (maxL := 2) (ret := (some .int)) (by decide) rfl (Nat.le_of_ble_eq_true rfl) ?_
  intro p e s m args below meth c A hx hb hr hml hlk hts hown hM hS hP hD ls hl
  have hl : lv_has ls 2 [(0, .ref b)] := hl
  have hinX7 : ∀ w ∈ u_ws RX7 TX7 9, w ∈ wsX7_undo := by decide +kernel
  obtain ⟨ok0, ok1, ok2, ok3, ok4, ok5, ok6⟩ := id hk
  refine lv_aload_n hx hb dX7_undo_0 rfl (lv_at hl 0 rfl) ?_
  refine lv_aload_n hx hb dX7_undo_1 rfl (lv_at hl 0 rfl) ?_
  refine va_get (D := D) (ci := 6) (v := .int (nI n)) (C := RX7) (T := TX7) (N := 9) hx hb hts hinX7 hown hM.1 hP 0 rfl rfl 4 (by decide) (hts (.fieldLink RX7 34 "TripleWaysModel" "savedMany" "I") (by decide +kernel)) (fun _ h9 => h9) rfl dX7_undo_2 ?_
  refine ln_if_le (tgt := 12) hx hb dX7_undo_5 (by decide) (by omega) (fun h1 => ?_) (fun h1 => ?_)
  · refine lv_iconst (v := (nI 1)) hx hb dX7_undo_12 (by decide) ?_
    refine ip_V (C := RX7) (n := 1) (wl' := [(b, .inr (6, [.int (nI 1), .ref b1, .ref b2, .ref b3, .int (nI n), .ref b4, .ref b5, .ref b6, .int (nI ln)])), (b1, .inl (tc 0, 60, .inl ((fun k => nI (g k))))), (b2, .inl (tc 0, 60, .inl ((fun k => nI (ga k))))), (b3, .inl (tc 0, 840, .inl ((fun k => nI (sv k))))), (b4, .inl (tc 0, 120, .inl ((fun k => nI (sl k))))), (b5, .inl (tc 3, 2, .inl ((fun k => bI (iz k))))), (b6, .inl (tc 2, 100, .inl ((fun k => byI (u k)))))]) ⟨hx, hb, hml, hown, hts⟩ hM hS hP hD (c7_holdsP l D tc zb b th (fun k9 => match k9 with | 1 => .ref b1 | 2 => .ref b2 | 3 => .ref b3 | 4 => .int (nI n) | 5 => .ref b4 | 6 => .ref b5 | 7 => .ref b6 | 8 => .int (nI ln) | _ => .null) 1 (by omega)) gX7_undo_X7_holds rfl (by decide +kernel) ⟨Nat.le_of_ble_eq_true rfl, Nat.le_of_ble_eq_true rfl⟩ [0] rfl rfl [(true, 0), (false, 1), (false, 2), (false, 3), (false, 4), (false, 5), (false, 6)] rfl rfl rfl (va_recv hM.1 hP (ci := 6) (q0 := 0) rfl rfl) rfl hl.1 rfl (Nat.le_of_ble_eq_true rfl) dX7_undo_13 ⟨Nat.le_refl _, Nat.le_refl _⟩ (fun H locs hP hD hS => ?_)
    refine W.eq (g2 := F0 m 16 ls [.int (bI (false))]) rfl ?_
    refine lv_if_ne (tgt := 21) hx hb dX7_undo_16 (by decide) (fun h9 => False.elim (by revert h9; decide)) (fun _ => ?_)
    refine lv_iconst (v := (nI 0)) hx hb dX7_undo_19 (by decide) ?_
    exact ip_iret hx hb hr hlk dX7_undo_20 hS (rfl) hP
  · exfalso; omega
set_option maxHeartbeats 4000000 in
set_option maxRecDepth 100000 in
theorem c7_save_ok (l : Launch) (D : va_G) (tc : Nat → ClassId) (zb : Nat) (b b1 b2 b3 b4 b5 b6 : Nat) (th : Int32) (g ga sv : Nat → Nat) (n : Nat) (sl : Nat → Nat) (iz : Nat → Bool) (u : Nat → Nat) (ln : Nat) (pl : Nat) (hk : k_ok g) (hn : n ≤ 14) (hln : ln ≤ 100) (hu : ∀ k, u k < 256) (hp2 : pl ≤ 1) : IP l yX7_save wsX7_save 1 25 D tc zb (w_md tc b b1 b2 b3 b4 b5 b6 th g ga sv n sl iz u ln) (w_md tc b b1 b2 b3 b4 b5 b6 (nI 0) g ga sv n ((k_win g sl (60 * pl) 0 60)) ((va_up iz pl true)) u ln) [.ref b, .int (nI pl)] (some (.int (nI (g 0)))) := by
  refine IP.of (cc := cX7_save) (maxL := 3) (ret := (some .int)) (by decide) rfl (Nat.le_of_ble_eq_true rfl) ?_
  intro p e s m args below meth c A hx hb hr hml hlk hts hown hM hS hP hD ls hl
  have hl : lv_has ls 3 [(0, .ref b), (1, .int (nI pl))] := hl
  have hinX7 : ∀ w ∈ u_ws RX7 TX7 9, w ∈ wsX7_save := by decide +kernel
  obtain ⟨ok0, ok1, ok2, ok3, ok4, ok5, ok6⟩ := id hk
  refine lv_aload_n hx hb dX7_save_0 rfl (lv_at hl 0 rfl) ?_
  refine lv_iload_n hx hb dX7_save_1 rfl (lv_at hl 1 rfl) ?_
  refine lv_i2l (v := ((nI pl)).toInt64) hx hb dX7_save_2 rfl ?_
  refine lv_lconst (v := (0 : Int64)) hx hb dX7_save_3 rfl ?_
  refine lv_lconst (v := (1 : Int64)) hx hb dX7_save_4 rfl ?_
  refine ro_S (n := 3) ⟨hx, hb, hml, hown, hts⟩ hM hS hP (c7_in_ok l D tc zb pl 0 1 (by omega) (by decide)) gX7_save_X7_in rfl (by decide +kernel) ⟨Nat.le_of_ble_eq_true rfl, Nat.le_of_ble_eq_true rfl⟩ [] rfl rfl hl.1 rfl (Nat.le_of_ble_eq_true rfl) dX7_save_5 ⟨Nat.le_refl _, Nat.le_refl _⟩ ?_
  refine lv_if_eq (tgt := 15) hx hb dX7_save_8 (by decide) (fun h9 => False.elim (by revert h9; decide)) (fun _ => ?_)
  refine lv_iconst (v := (nI 0)) hx hb dX7_save_11 (by decide) ?_
  refine lv_goto (tgt := 16) hx hb dX7_save_12 (by decide) ?_
  refine ip_V (C := RX7) (n := 1) (wl' := [(b, .inr (6, [.int (nI 0), .ref b1, .ref b2, .ref b3, .int (nI n), .ref b4, .ref b5, .ref b6, .int (nI ln)])), (b1, .inl (tc 0, 60, .inl ((fun k => nI (g k))))), (b2, .inl (tc 0, 60, .inl ((fun k => nI (ga k))))), (b3, .inl (tc 0, 840, .inl ((fun k => nI (sv k))))), (b4, .inl (tc 0, 120, .inl ((fun k => nI (sl k))))), (b5, .inl (tc 3, 2, .inl ((fun k => bI (iz k))))), (b6, .inl (tc 2, 100, .inl ((fun k => byI (u k)))))]) ⟨hx, hb, hml, hown, hts⟩ hM hS hP hD (c7_holds0 l D tc zb b th (fun k9 => match k9 with | 1 => .ref b1 | 2 => .ref b2 | 3 => .ref b3 | 4 => .int (nI n) | 5 => .ref b4 | 6 => .ref b5 | 7 => .ref b6 | 8 => .int (nI ln) | _ => .null)) gX7_save_X7_holds rfl (by decide +kernel) ⟨Nat.le_of_ble_eq_true rfl, Nat.le_of_ble_eq_true rfl⟩ [0] rfl rfl [(true, 0), (false, 1), (false, 2), (false, 3), (false, 4), (false, 5), (false, 6)] rfl rfl rfl (va_recv hM.1 hP (ci := 6) (q0 := 0) rfl rfl) rfl hl.1 rfl (Nat.le_of_ble_eq_true rfl) dX7_save_16 ⟨Nat.le_refl _, Nat.le_refl _⟩ (fun H locs hP hD hS => ?_)
  refine W.eq (g2 := F0 m 19 ls [.int (bI (true))]) rfl ?_
  refine lv_if_ne (tgt := 24) hx hb dX7_save_19 (by decide) (fun _ => ?_) (fun h9 => False.elim (by revert h9; decide))
  refine lv_iconst (v := (nI 0)) hx hb dX7_save_24 (by decide) ?_
  refine lv_istore_n (lv' := [(2, .int (nI 0)), (0, .ref b), (1, .int (nI pl))]) hx hb dX7_save_25 rfl hl (by decide) rfl (fun ls hl => ?_)
  have lp26 : ∀ (n9 : Nat) (gf : Nat → Nat) (i : Nat), (60 - i) < n9 → (i ≤ 60) → (gf = k_win g sl (60 * pl) 0 i) → ∀ (H : Heap) (locs : List Loc), va_P D vwCl [(b, .inr (6, [.int (nI 0), .ref b1, .ref b2, .ref b3, .int (nI n), .ref b4, .ref b5, .ref b6, .int (nI ln)])), (b1, .inl (tc 0, 60, .inl ((fun k => nI (g k))))), (b2, .inl (tc 0, 60, .inl ((fun k => nI (ga k))))), (b3, .inl (tc 0, 840, .inl ((fun k => nI (sv k))))), (b4, .inl (tc 0, 120, .inl ((fun k => nI (gf k))))), (b5, .inl (tc 3, 2, .inl ((fun k => bI (iz k))))), (b6, .inl (tc 2, 100, .inl ((fun k => byI (u k)))))] H → va_D A [(b, .inr (6, [.int (nI 0), .ref b1, .ref b2, .ref b3, .int (nI n), .ref b4, .ref b5, .ref b6, .int (nI ln)])), (b1, .inl (tc 0, 60, .inl ((fun k => nI (g k))))), (b2, .inl (tc 0, 60, .inl ((fun k => nI (ga k))))), (b3, .inl (tc 0, 840, .inl ((fun k => nI (sv k))))), (b4, .inl (tc 0, 120, .inl ((fun k => nI (gf k))))), (b5, .inl (tc 3, 2, .inl ((fun k => bI (iz k))))), (b6, .inl (tc 2, 100, .inl ((fun k => byI (u k)))))] → va_S A s.heap H locs → ∀ ls : Array Slot, lv_has ls 3 [(2, .int (nI i)), (0, .ref b), (1, .int (nI pl))] → W p l e ({ frames := 1, cells := 0, slots := 0, locals := 25 } : Room) s m args below meth c H locs 0 0 (MQ below (ipQ D A (w_md tc b b1 b2 b3 b4 b5 b6 (nI 0) g ga sv n ((k_win g sl (60 * pl) 0 60)) ((va_up iz pl true)) u ln) (some (.int (nI (g 0))))) args s 0 0 A) (F0 m 26 ls []) := by
    intro n9
    induction n9 with
    | zero => intro gf i hmu; exact absurd hmu (Nat.not_lt_zero _)
    | succ n9 ih26 =>
      intro gf i hmu hi hgf H locs hP hD hS ls hl
      refine lv_iload_n hx hb dX7_save_26 rfl (lv_at hl 0 rfl) ?_
      refine lv_bipush (v := (nI 60)) hx hb dX7_save_27 (by decide) ?_
      refine ln_icmp_ge (tgt := 55) hx hb dX7_save_29 (by decide) (by omega) (by decide) (fun h1 => ?_) (fun h1 => ?_)
      · refine lv_aload_n hx hb dX7_save_55 rfl (lv_at hl 1 rfl) ?_
        refine va_get (D := D) (ci := 6) (v := .ref b5) (C := RX7) (T := TX7) (N := 9) hx hb hts hinX7 hown hM.1 hP 0 rfl rfl 6 (by decide) (hts (.fieldLink RX7 22 "TripleWaysModel" "isSaved" "[Z") (by decide +kernel)) (fun _ h9 => h9) rfl dX7_save_56 ?_
        refine lv_iload_n hx hb dX7_save_59 rfl (lv_at hl 2 rfl) ?_
        refine lv_iconst (v := (nI 1)) hx hb dX7_save_60 (by decide) ?_
        refine ln_zastB (v := true) hx hb hM.1 hP hD hS 5 3 rfl rfl dX7_save_61 (by decide) (by omega) (fun H locs hP hD hS => ?_)
        have hP : va_P D vwCl [(b, .inr (6, [.int (nI 0), .ref b1, .ref b2, .ref b3, .int (nI n), .ref b4, .ref b5, .ref b6, .int (nI ln)])), (b1, .inl (tc 0, 60, .inl ((fun k => nI (g k))))), (b2, .inl (tc 0, 60, .inl ((fun k => nI (ga k))))), (b3, .inl (tc 0, 840, .inl ((fun k => nI (sv k))))), (b4, .inl (tc 0, 120, .inl ((fun k => nI (gf k))))), (b5, .inl (tc 3, 2, .inl ((fun k => bI (va_up iz pl true k))))), (b6, .inl (tc 2, 100, .inl ((fun k => byI (u k)))))] H := hP
        have hD : va_D A [(b, .inr (6, [.int (nI 0), .ref b1, .ref b2, .ref b3, .int (nI n), .ref b4, .ref b5, .ref b6, .int (nI ln)])), (b1, .inl (tc 0, 60, .inl ((fun k => nI (g k))))), (b2, .inl (tc 0, 60, .inl ((fun k => nI (ga k))))), (b3, .inl (tc 0, 840, .inl ((fun k => nI (sv k))))), (b4, .inl (tc 0, 120, .inl ((fun k => nI (gf k))))), (b5, .inl (tc 3, 2, .inl ((fun k => bI (va_up iz pl true k))))), (b6, .inl (tc 2, 100, .inl ((fun k => byI (u k)))))] := hD
        refine lv_aload_n hx hb dX7_save_62 rfl (lv_at hl 1 rfl) ?_
        refine va_get (D := D) (ci := 6) (v := .ref b1) (C := RX7) (T := TX7) (N := 9) hx hb hts hinX7 hown hM.1 hP 0 rfl rfl 1 (by decide) (hts (.fieldLink RX7 7 "TripleWaysModel" "s" "[I") (by decide +kernel)) (fun _ h9 => h9) rfl dX7_save_63 ?_
        refine lv_iconst (v := (nI 0)) hx hb dX7_save_66 (by decide) ?_
        refine ln_iald hx hb hM.1 hP 1 0 rfl rfl dX7_save_67 (by decide) (by omega) (rfl) ?_
        exact ip_iret hx hb hr hlk dX7_save_68 hS (rfl) (by (have ei : i = 60 := by omega); rw [ei] at hgf; rw [← hgf]; exact hP)
      · refine lv_aload_n hx hb dX7_save_32 rfl (lv_at hl 1 rfl) ?_
        refine va_get (D := D) (ci := 6) (v := .ref b4) (C := RX7) (T := TX7) (N := 9) hx hb hts hinX7 hown hM.1 hP 0 rfl rfl 5 (by decide) (hts (.fieldLink RX7 19 "TripleWaysModel" "slots" "[I") (by decide +kernel)) (fun _ h9 => h9) rfl dX7_save_33 ?_
        refine lv_bipush (v := (nI 60)) hx hb dX7_save_36 (by decide) ?_
        refine lv_iload_n hx hb dX7_save_38 rfl (lv_at hl 2 rfl) ?_
        refine ln_imul hx hb dX7_save_39 ?_
        refine lv_iload_n hx hb dX7_save_40 rfl (lv_at hl 0 rfl) ?_
        refine ln_iadd hx hb dX7_save_41 ?_
        refine lv_aload_n hx hb dX7_save_42 rfl (lv_at hl 1 rfl) ?_
        refine va_get (D := D) (ci := 6) (v := .ref b1) (C := RX7) (T := TX7) (N := 9) hx hb hts hinX7 hown hM.1 hP 0 rfl rfl 1 (by decide) (hts (.fieldLink RX7 7 "TripleWaysModel" "s" "[I") (by decide +kernel)) (fun _ h9 => h9) rfl dX7_save_43 ?_
        refine lv_iload_n hx hb dX7_save_46 rfl (lv_at hl 0 rfl) ?_
        refine ln_iald hx hb hM.1 hP 1 0 rfl rfl dX7_save_47 (by decide) (by omega) (rfl) ?_
        refine ln_iastN hx hb hM.1 hP hD hS 4 0 rfl rfl dX7_save_48 (by decide) (by omega) (fun H locs hP hD hS => ?_)
        have hP : va_P D vwCl [(b, .inr (6, [.int (nI 0), .ref b1, .ref b2, .ref b3, .int (nI n), .ref b4, .ref b5, .ref b6, .int (nI ln)])), (b1, .inl (tc 0, 60, .inl ((fun k => nI (g k))))), (b2, .inl (tc 0, 60, .inl ((fun k => nI (ga k))))), (b3, .inl (tc 0, 840, .inl ((fun k => nI (sv k))))), (b4, .inl (tc 0, 120, .inl ((fun k => nI (k_up gf ((60 * pl) + i) (g i) k))))), (b5, .inl (tc 3, 2, .inl ((fun k => bI (iz k))))), (b6, .inl (tc 2, 100, .inl ((fun k => byI (u k)))))] H := hP
        have hD : va_D A [(b, .inr (6, [.int (nI 0), .ref b1, .ref b2, .ref b3, .int (nI n), .ref b4, .ref b5, .ref b6, .int (nI ln)])), (b1, .inl (tc 0, 60, .inl ((fun k => nI (g k))))), (b2, .inl (tc 0, 60, .inl ((fun k => nI (ga k))))), (b3, .inl (tc 0, 840, .inl ((fun k => nI (sv k))))), (b4, .inl (tc 0, 120, .inl ((fun k => nI (k_up gf ((60 * pl) + i) (g i) k))))), (b5, .inl (tc 3, 2, .inl ((fun k => bI (iz k))))), (b6, .inl (tc 2, 100, .inl ((fun k => byI (u k)))))] := hD
        refine lv_iinc (v := (nI (i + 1))) (lv' := [(2, .int (nI (i + 1))), (0, .ref b), (1, .int (nI pl))]) hx hb dX7_save_49 hl (k := 0) rfl (nI_add i 1) (by decide) rfl (fun ls hl => ?_)
        refine lv_goto (tgt := 26) hx hb dX7_save_52 (by decide) ?_
        exact ih26 (k_up gf ((60 * pl) + i) (g i)) (i + 1) (by omega) (by omega) (by exact k_win_1 hgf (by rw [Nat.zero_add])) _ _ hP hD hS _ (lv_sub hl [0, 1, 2] rfl)
  exact lp26 _ sl 0 (Nat.lt_succ_self _) (by omega) (by exact (k_win_0 _ _ _ _).symm) _ _ hP hD hS _ (lv_sub hl [0, 1, 2] rfl)
set_option maxHeartbeats 4000000 in
set_option maxRecDepth 100000 in
theorem c7_save_b1 (l : Launch) (D : va_G) (tc : Nat → ClassId) (zb : Nat) (b b1 b2 b3 b4 b5 b6 : Nat) (th : Int32) (g ga sv : Nat → Nat) (n : Nat) (sl : Nat → Nat) (iz : Nat → Bool) (u : Nat → Nat) (ln : Nat) (pp : Int32) (hk : k_ok g) (hn : n ≤ 14) (hln : ln ≤ 100) (hu : ∀ k, u k < 256) (hp : ¬ (nI 0 ≤ pp ∧ pp ≤ nI 1)) : IP l yX7_save wsX7_save 1 25 D tc zb (w_md tc b b1 b2 b3 b4 b5 b6 th g ga sv n sl iz u ln) (w_md tc b b1 b2 b3 b4 b5 b6 (nI 1) g ga sv n sl iz u ln) [.ref b, .int (pp)] (some (.int (nI 0))) := by
  refine IP.of (cc := cX7_save) (maxL := 3) (ret := (some .int)) (by decide) rfl (Nat.le_of_ble_eq_true rfl) ?_
  intro p e s m args below meth c A hx hb hr hml hlk hts hown hM hS hP hD ls hl
  have hl : lv_has ls 3 [(0, .ref b), (1, .int (pp))] := hl
  obtain ⟨ok0, ok1, ok2, ok3, ok4, ok5, ok6⟩ := id hk
  refine lv_aload_n hx hb dX7_save_0 rfl (lv_at hl 0 rfl) ?_
  refine lv_iload_n hx hb dX7_save_1 rfl (lv_at hl 1 rfl) ?_
  refine lv_i2l (v := ((pp)).toInt64) hx hb dX7_save_2 rfl ?_
  refine lv_lconst (v := (0 : Int64)) hx hb dX7_save_3 rfl ?_
  refine lv_lconst (v := (1 : Int64)) hx hb dX7_save_4 rfl ?_
  refine ro_S (n := 3) ⟨hx, hb, hml, hown, hts⟩ hM hS hP (c7_in_bad l D tc zb pp 0 1 (by assumption) (by decide) (by decide)) gX7_save_X7_in rfl (by decide +kernel) ⟨Nat.le_of_ble_eq_true rfl, Nat.le_of_ble_eq_true rfl⟩ [] rfl rfl hl.1 rfl (Nat.le_of_ble_eq_true rfl) dX7_save_5 ⟨Nat.le_refl _, Nat.le_refl _⟩ ?_
  refine lv_if_eq (tgt := 15) hx hb dX7_save_8 (by decide) (fun _ => ?_) (fun h9 => False.elim (by revert h9; decide))
  refine lv_iconst (v := (nI 1)) hx hb dX7_save_15 (by decide) ?_
  refine ip_V (C := RX7) (n := 1) (wl' := [(b, .inr (6, [.int (nI 1), .ref b1, .ref b2, .ref b3, .int (nI n), .ref b4, .ref b5, .ref b6, .int (nI ln)])), (b1, .inl (tc 0, 60, .inl ((fun k => nI (g k))))), (b2, .inl (tc 0, 60, .inl ((fun k => nI (ga k))))), (b3, .inl (tc 0, 840, .inl ((fun k => nI (sv k))))), (b4, .inl (tc 0, 120, .inl ((fun k => nI (sl k))))), (b5, .inl (tc 3, 2, .inl ((fun k => bI (iz k))))), (b6, .inl (tc 2, 100, .inl ((fun k => byI (u k)))))]) ⟨hx, hb, hml, hown, hts⟩ hM hS hP hD (c7_holdsP l D tc zb b th (fun k9 => match k9 with | 1 => .ref b1 | 2 => .ref b2 | 3 => .ref b3 | 4 => .int (nI n) | 5 => .ref b4 | 6 => .ref b5 | 7 => .ref b6 | 8 => .int (nI ln) | _ => .null) 1 (by omega)) gX7_save_X7_holds rfl (by decide +kernel) ⟨Nat.le_of_ble_eq_true rfl, Nat.le_of_ble_eq_true rfl⟩ [0] rfl rfl [(true, 0), (false, 1), (false, 2), (false, 3), (false, 4), (false, 5), (false, 6)] rfl rfl rfl (va_recv hM.1 hP (ci := 6) (q0 := 0) rfl rfl) rfl hl.1 rfl (Nat.le_of_ble_eq_true rfl) dX7_save_16 ⟨Nat.le_refl _, Nat.le_refl _⟩ (fun H locs hP hD hS => ?_)
  refine W.eq (g2 := F0 m 19 ls [.int (bI (false))]) rfl ?_
  refine lv_if_ne (tgt := 24) hx hb dX7_save_19 (by decide) (fun h9 => False.elim (by revert h9; decide)) (fun _ => ?_)
  refine lv_iconst (v := (nI 0)) hx hb dX7_save_22 (by decide) ?_
  exact ip_iret hx hb hr hlk dX7_save_23 hS (rfl) hP
set_option maxHeartbeats 4000000 in
set_option maxRecDepth 100000 in
theorem c7_restore_ok (l : Launch) (D : va_G) (tc : Nat → ClassId) (zb : Nat) (b b1 b2 b3 b4 b5 b6 : Nat) (th : Int32) (g ga sv : Nat → Nat) (n : Nat) (sl : Nat → Nat) (iz : Nat → Bool) (u : Nat → Nat) (ln : Nat) (pl : Nat) (hk : k_ok g) (hn : n ≤ 14) (hln : ln ≤ 100) (hu : ∀ k, u k < 256) (hp2 : pl ≤ 1) (hiz : iz pl = true) : IP l yX7_restore wsX7_restore 1 25 D tc zb (w_md tc b b1 b2 b3 b4 b5 b6 th g ga sv n sl iz u ln) (w_md tc b b1 b2 b3 b4 b5 b6 (nI 0) ((k_win sl g 0 (60 * pl) 60)) ga sv 0 sl iz u ln) [.ref b, .int (nI pl)] (some (.int (nI (sl (60 * pl))))) := by
  refine IP.of (cc := cX7_restore) (maxL := 3) (ret := (some .int)) (by decide) rfl (Nat.le_of_ble_eq_true rfl) ?_
  intro p e s m args below meth c A hx hb hr hml hlk hts hown hM hS hP hD ls hl
  have hl : lv_has ls 3 [(0, .ref b), (1, .int (nI pl))] := hl
  have hinX7 : ∀ w ∈ u_ws RX7 TX7 9, w ∈ wsX7_restore := by decide +kernel
  obtain ⟨ok0, ok1, ok2, ok3, ok4, ok5, ok6⟩ := id hk
  refine lv_aload_n hx hb dX7_restore_0 rfl (lv_at hl 0 rfl) ?_
  refine lv_iload_n hx hb dX7_restore_1 rfl (lv_at hl 1 rfl) ?_
  refine lv_i2l (v := ((nI pl)).toInt64) hx hb dX7_restore_2 rfl ?_
  refine lv_lconst (v := (0 : Int64)) hx hb dX7_restore_3 rfl ?_
  refine lv_lconst (v := (1 : Int64)) hx hb dX7_restore_4 rfl ?_
  refine ro_S (n := 3) ⟨hx, hb, hml, hown, hts⟩ hM hS hP (c7_in_ok l D tc zb pl 0 1 (by omega) (by decide)) gX7_restore_X7_in rfl (by decide +kernel) ⟨Nat.le_of_ble_eq_true rfl, Nat.le_of_ble_eq_true rfl⟩ [] rfl rfl hl.1 rfl (Nat.le_of_ble_eq_true rfl) dX7_restore_5 ⟨Nat.le_refl _, Nat.le_refl _⟩ ?_
  refine lv_if_ne (tgt := 15) hx hb dX7_restore_8 (by decide) (fun _ => ?_) (fun h9 => False.elim (by revert h9; decide))
  refine lv_aload_n hx hb dX7_restore_15 rfl (lv_at hl 0 rfl) ?_
  refine va_get (D := D) (ci := 6) (v := .ref b5) (C := RX7) (T := TX7) (N := 9) hx hb hts hinX7 hown hM.1 hP 0 rfl rfl 6 (by decide) (hts (.fieldLink RX7 22 "TripleWaysModel" "isSaved" "[Z") (by decide +kernel)) (fun _ h9 => h9) rfl dX7_restore_16 ?_
  refine lv_iload_n hx hb dX7_restore_19 rfl (lv_at hl 1 rfl) ?_
  refine ln_zald hx hb hM.1 hP 5 3 rfl rfl dX7_restore_20 (by decide) (by omega) (rfl) ?_
  refine ln_eq (x' := (bI (true))) (congrArg bI hiz) ?_
  refine lv_if_ne (tgt := 28) hx hb dX7_restore_21 (by decide) (fun _ => ?_) (fun h9 => False.elim (by revert h9; decide))
  refine lv_iconst (v := (nI 0)) hx hb dX7_restore_28 (by decide) ?_
  refine ip_V (C := RX7) (n := 1) (wl' := [(b, .inr (6, [.int (nI 0), .ref b1, .ref b2, .ref b3, .int (nI n), .ref b4, .ref b5, .ref b6, .int (nI ln)])), (b1, .inl (tc 0, 60, .inl ((fun k => nI (g k))))), (b2, .inl (tc 0, 60, .inl ((fun k => nI (ga k))))), (b3, .inl (tc 0, 840, .inl ((fun k => nI (sv k))))), (b4, .inl (tc 0, 120, .inl ((fun k => nI (sl k))))), (b5, .inl (tc 3, 2, .inl ((fun k => bI (iz k))))), (b6, .inl (tc 2, 100, .inl ((fun k => byI (u k)))))]) ⟨hx, hb, hml, hown, hts⟩ hM hS hP hD (c7_holds0 l D tc zb b th (fun k9 => match k9 with | 1 => .ref b1 | 2 => .ref b2 | 3 => .ref b3 | 4 => .int (nI n) | 5 => .ref b4 | 6 => .ref b5 | 7 => .ref b6 | 8 => .int (nI ln) | _ => .null)) gX7_restore_X7_holds rfl (by decide +kernel) ⟨Nat.le_of_ble_eq_true rfl, Nat.le_of_ble_eq_true rfl⟩ [0] rfl rfl [(true, 0), (false, 1), (false, 2), (false, 3), (false, 4), (false, 5), (false, 6)] rfl rfl rfl (va_recv hM.1 hP (ci := 6) (q0 := 0) rfl rfl) rfl hl.1 rfl (Nat.le_of_ble_eq_true rfl) dX7_restore_29 ⟨Nat.le_refl _, Nat.le_refl _⟩ (fun H locs hP hD hS => ?_)
  refine W.eq (g2 := F0 m 32 ls [.int (bI (true))]) rfl ?_
  refine lv_if_ne (tgt := 37) hx hb dX7_restore_32 (by decide) (fun _ => ?_) (fun h9 => False.elim (by revert h9; decide))
  refine lv_iconst (v := (nI 0)) hx hb dX7_restore_37 (by decide) ?_
  refine lv_istore_n (lv' := [(2, .int (nI 0)), (0, .ref b), (1, .int (nI pl))]) hx hb dX7_restore_38 rfl hl (by decide) rfl (fun ls hl => ?_)
  have lp39 : ∀ (n9 : Nat) (gf : Nat → Nat) (i : Nat), (60 - i) < n9 → (i ≤ 60) → (gf = k_win sl g 0 (60 * pl) i) → ∀ (H : Heap) (locs : List Loc), va_P D vwCl [(b, .inr (6, [.int (nI 0), .ref b1, .ref b2, .ref b3, .int (nI n), .ref b4, .ref b5, .ref b6, .int (nI ln)])), (b1, .inl (tc 0, 60, .inl ((fun k => nI (gf k))))), (b2, .inl (tc 0, 60, .inl ((fun k => nI (ga k))))), (b3, .inl (tc 0, 840, .inl ((fun k => nI (sv k))))), (b4, .inl (tc 0, 120, .inl ((fun k => nI (sl k))))), (b5, .inl (tc 3, 2, .inl ((fun k => bI (iz k))))), (b6, .inl (tc 2, 100, .inl ((fun k => byI (u k)))))] H → va_D A [(b, .inr (6, [.int (nI 0), .ref b1, .ref b2, .ref b3, .int (nI n), .ref b4, .ref b5, .ref b6, .int (nI ln)])), (b1, .inl (tc 0, 60, .inl ((fun k => nI (gf k))))), (b2, .inl (tc 0, 60, .inl ((fun k => nI (ga k))))), (b3, .inl (tc 0, 840, .inl ((fun k => nI (sv k))))), (b4, .inl (tc 0, 120, .inl ((fun k => nI (sl k))))), (b5, .inl (tc 3, 2, .inl ((fun k => bI (iz k))))), (b6, .inl (tc 2, 100, .inl ((fun k => byI (u k)))))] → va_S A s.heap H locs → ∀ ls : Array Slot, lv_has ls 3 [(2, .int (nI i)), (0, .ref b), (1, .int (nI pl))] → W p l e ({ frames := 1, cells := 0, slots := 0, locals := 25 } : Room) s m args below meth c H locs 0 0 (MQ below (ipQ D A (w_md tc b b1 b2 b3 b4 b5 b6 (nI 0) ((k_win sl g 0 (60 * pl) 60)) ga sv 0 sl iz u ln) (some (.int (nI (sl (60 * pl)))))) args s 0 0 A) (F0 m 39 ls []) := by
    intro n9
    induction n9 with
    | zero => intro gf i hmu; exact absurd hmu (Nat.not_lt_zero _)
    | succ n9 ih39 =>
      intro gf i hmu hi hgf H locs hP hD hS ls hl
      refine lv_iload_n hx hb dX7_restore_39 rfl (lv_at hl 0 rfl) ?_
      refine lv_bipush (v := (nI 60)) hx hb dX7_restore_40 (by decide) ?_
      refine ln_icmp_ge (tgt := 68) hx hb dX7_restore_42 (by decide) (by omega) (by decide) (fun h1 => ?_) (fun h1 => ?_)
      · refine lv_aload_n hx hb dX7_restore_68 rfl (lv_at hl 1 rfl) ?_
        refine lv_iconst (v := (nI 0)) hx hb dX7_restore_69 (by decide) ?_
        refine va_put (D := D) (ci := 6) (v := .int (nI 0)) (ty := .int) (C := RX7) (T := TX7) (N := 9) hx hb hts hinX7 tyX7 tyX7_ok nmX7 hown hM.1 hP hD hS 0 rfl rfl 4 (by decide) (hts (.fieldLink RX7 34 "TripleWaysModel" "savedMany" "I") (by decide +kernel)) (fun _ h9 => h9) rfl (by decide +kernel) rfl rfl (Nat.le_of_ble_eq_true rfl) dX7_restore_70 (fun H locs hP hD hS => ?_)
        have hP : va_P D vwCl [(b, .inr (6, [.int (nI 0), .ref b1, .ref b2, .ref b3, .int (nI 0), .ref b4, .ref b5, .ref b6, .int (nI ln)])), (b1, .inl (tc 0, 60, .inl ((fun k => nI (gf k))))), (b2, .inl (tc 0, 60, .inl ((fun k => nI (ga k))))), (b3, .inl (tc 0, 840, .inl ((fun k => nI (sv k))))), (b4, .inl (tc 0, 120, .inl ((fun k => nI (sl k))))), (b5, .inl (tc 3, 2, .inl ((fun k => bI (iz k))))), (b6, .inl (tc 2, 100, .inl ((fun k => byI (u k)))))] H := hP
        have hD : va_D A [(b, .inr (6, [.int (nI 0), .ref b1, .ref b2, .ref b3, .int (nI 0), .ref b4, .ref b5, .ref b6, .int (nI ln)])), (b1, .inl (tc 0, 60, .inl ((fun k => nI (gf k))))), (b2, .inl (tc 0, 60, .inl ((fun k => nI (ga k))))), (b3, .inl (tc 0, 840, .inl ((fun k => nI (sv k))))), (b4, .inl (tc 0, 120, .inl ((fun k => nI (sl k))))), (b5, .inl (tc 3, 2, .inl ((fun k => bI (iz k))))), (b6, .inl (tc 2, 100, .inl ((fun k => byI (u k)))))] := hD
        refine lv_aload_n hx hb dX7_restore_73 rfl (lv_at hl 1 rfl) ?_
        refine va_get (D := D) (ci := 6) (v := .ref b1) (C := RX7) (T := TX7) (N := 9) hx hb hts hinX7 hown hM.1 hP 0 rfl rfl 1 (by decide) (hts (.fieldLink RX7 7 "TripleWaysModel" "s" "[I") (by decide +kernel)) (fun _ h9 => h9) rfl dX7_restore_74 ?_
        refine lv_iconst (v := (nI 0)) hx hb dX7_restore_77 (by decide) ?_
        refine ln_iald hx hb hM.1 hP 1 0 rfl rfl dX7_restore_78 (by decide) (by omega) (rfl) ?_
        exact ip_iret hx hb hr hlk dX7_restore_79 hS (congrArg nI (by (have ei : i = 60 := by omega); rw [hgf, ei]; exact k_win_in (by omega) (by omega))) (by (have ei : i = 60 := by omega); rw [ei] at hgf; rw [← hgf]; exact hP)
      · refine lv_aload_n hx hb dX7_restore_45 rfl (lv_at hl 1 rfl) ?_
        refine va_get (D := D) (ci := 6) (v := .ref b1) (C := RX7) (T := TX7) (N := 9) hx hb hts hinX7 hown hM.1 hP 0 rfl rfl 1 (by decide) (hts (.fieldLink RX7 7 "TripleWaysModel" "s" "[I") (by decide +kernel)) (fun _ h9 => h9) rfl dX7_restore_46 ?_
        refine lv_iload_n hx hb dX7_restore_49 rfl (lv_at hl 0 rfl) ?_
        refine lv_aload_n hx hb dX7_restore_50 rfl (lv_at hl 1 rfl) ?_
        refine va_get (D := D) (ci := 6) (v := .ref b4) (C := RX7) (T := TX7) (N := 9) hx hb hts hinX7 hown hM.1 hP 0 rfl rfl 5 (by decide) (hts (.fieldLink RX7 19 "TripleWaysModel" "slots" "[I") (by decide +kernel)) (fun _ h9 => h9) rfl dX7_restore_51 ?_
        refine lv_bipush (v := (nI 60)) hx hb dX7_restore_54 (by decide) ?_
        refine lv_iload_n hx hb dX7_restore_56 rfl (lv_at hl 2 rfl) ?_
        refine ln_imul hx hb dX7_restore_57 ?_
        refine lv_iload_n hx hb dX7_restore_58 rfl (lv_at hl 0 rfl) ?_
        refine ln_iadd hx hb dX7_restore_59 ?_
        refine ln_iald hx hb hM.1 hP 4 0 rfl rfl dX7_restore_60 (by decide) (by omega) (rfl) ?_
        refine ln_iastN hx hb hM.1 hP hD hS 1 0 rfl rfl dX7_restore_61 (by decide) (by omega) (fun H locs hP hD hS => ?_)
        have hP : va_P D vwCl [(b, .inr (6, [.int (nI 0), .ref b1, .ref b2, .ref b3, .int (nI n), .ref b4, .ref b5, .ref b6, .int (nI ln)])), (b1, .inl (tc 0, 60, .inl ((fun k => nI (k_up gf i (sl ((60 * pl) + i)) k))))), (b2, .inl (tc 0, 60, .inl ((fun k => nI (ga k))))), (b3, .inl (tc 0, 840, .inl ((fun k => nI (sv k))))), (b4, .inl (tc 0, 120, .inl ((fun k => nI (sl k))))), (b5, .inl (tc 3, 2, .inl ((fun k => bI (iz k))))), (b6, .inl (tc 2, 100, .inl ((fun k => byI (u k)))))] H := hP
        have hD : va_D A [(b, .inr (6, [.int (nI 0), .ref b1, .ref b2, .ref b3, .int (nI n), .ref b4, .ref b5, .ref b6, .int (nI ln)])), (b1, .inl (tc 0, 60, .inl ((fun k => nI (k_up gf i (sl ((60 * pl) + i)) k))))), (b2, .inl (tc 0, 60, .inl ((fun k => nI (ga k))))), (b3, .inl (tc 0, 840, .inl ((fun k => nI (sv k))))), (b4, .inl (tc 0, 120, .inl ((fun k => nI (sl k))))), (b5, .inl (tc 3, 2, .inl ((fun k => bI (iz k))))), (b6, .inl (tc 2, 100, .inl ((fun k => byI (u k)))))] := hD
        refine lv_iinc (v := (nI (i + 1))) (lv' := [(2, .int (nI (i + 1))), (0, .ref b), (1, .int (nI pl))]) hx hb dX7_restore_62 hl (k := 0) rfl (nI_add i 1) (by decide) rfl (fun ls hl => ?_)
        refine lv_goto (tgt := 39) hx hb dX7_restore_65 (by decide) ?_
        exact ih39 (k_up gf i (sl ((60 * pl) + i))) (i + 1) (by omega) (by omega) (by have h := k_win_1 (d := 0) hgf (x := sl (60 * pl + i)) rfl; rw [Nat.zero_add] at h; exact h) _ _ hP hD hS _ (lv_sub hl [0, 1, 2] rfl)
  exact lp39 _ g 0 (Nat.lt_succ_self _) (by omega) (by exact (k_win_0 _ _ _ _).symm) _ _ hP hD hS _ (lv_sub hl [0, 1, 2] rfl)
set_option maxHeartbeats 4000000 in
set_option maxRecDepth 100000 in
theorem c7_restore_b1 (l : Launch) (D : va_G) (tc : Nat → ClassId) (zb : Nat) (b b1 b2 b3 b4 b5 b6 : Nat) (th : Int32) (g ga sv : Nat → Nat) (n : Nat) (sl : Nat → Nat) (iz : Nat → Bool) (u : Nat → Nat) (ln : Nat) (pp : Int32) (hk : k_ok g) (hn : n ≤ 14) (hln : ln ≤ 100) (hu : ∀ k, u k < 256) (hp : ¬ (nI 0 ≤ pp ∧ pp ≤ nI 1)) : IP l yX7_restore wsX7_restore 1 25 D tc zb (w_md tc b b1 b2 b3 b4 b5 b6 th g ga sv n sl iz u ln) (w_md tc b b1 b2 b3 b4 b5 b6 (nI 1) g ga sv n sl iz u ln) [.ref b, .int (pp)] (some (.int (nI 0))) := by
  refine IP.of (cc := cX7_restore) (maxL := 3) (ret := (some .int)) (by decide) rfl (Nat.le_of_ble_eq_true rfl) ?_
  intro p e s m args below meth c A hx hb hr hml hlk hts hown hM hS hP hD ls hl
  have hl : lv_has ls 3 [(0, .ref b), (1, .int (pp))] := hl
  obtain ⟨ok0, ok1, ok2, ok3, ok4, ok5, ok6⟩ := id hk
  refine lv_aload_n hx hb dX7_restore_0 rfl (lv_at hl 0 rfl) ?_
  refine lv_iload_n hx hb dX7_restore_1 rfl (lv_at hl 1 rfl) ?_
  refine lv_i2l (v := ((pp)).toInt64) hx hb dX7_restore_2 rfl ?_
  refine lv_lconst (v := (0 : Int64)) hx hb dX7_restore_3 rfl ?_
  refine lv_lconst (v := (1 : Int64)) hx hb dX7_restore_4 rfl ?_
  refine ro_S (n := 3) ⟨hx, hb, hml, hown, hts⟩ hM hS hP (c7_in_bad l D tc zb pp 0 1 (by assumption) (by decide) (by decide)) gX7_restore_X7_in rfl (by decide +kernel) ⟨Nat.le_of_ble_eq_true rfl, Nat.le_of_ble_eq_true rfl⟩ [] rfl rfl hl.1 rfl (Nat.le_of_ble_eq_true rfl) dX7_restore_5 ⟨Nat.le_refl _, Nat.le_refl _⟩ ?_
  refine lv_if_ne (tgt := 15) hx hb dX7_restore_8 (by decide) (fun h9 => False.elim (by revert h9; decide)) (fun _ => ?_)
  refine lv_iconst (v := (nI 1)) hx hb dX7_restore_11 (by decide) ?_
  refine lv_goto (tgt := 29) hx hb dX7_restore_12 (by decide) ?_
  refine ip_V (C := RX7) (n := 1) (wl' := [(b, .inr (6, [.int (nI 1), .ref b1, .ref b2, .ref b3, .int (nI n), .ref b4, .ref b5, .ref b6, .int (nI ln)])), (b1, .inl (tc 0, 60, .inl ((fun k => nI (g k))))), (b2, .inl (tc 0, 60, .inl ((fun k => nI (ga k))))), (b3, .inl (tc 0, 840, .inl ((fun k => nI (sv k))))), (b4, .inl (tc 0, 120, .inl ((fun k => nI (sl k))))), (b5, .inl (tc 3, 2, .inl ((fun k => bI (iz k))))), (b6, .inl (tc 2, 100, .inl ((fun k => byI (u k)))))]) ⟨hx, hb, hml, hown, hts⟩ hM hS hP hD (c7_holdsP l D tc zb b th (fun k9 => match k9 with | 1 => .ref b1 | 2 => .ref b2 | 3 => .ref b3 | 4 => .int (nI n) | 5 => .ref b4 | 6 => .ref b5 | 7 => .ref b6 | 8 => .int (nI ln) | _ => .null) 1 (by omega)) gX7_restore_X7_holds rfl (by decide +kernel) ⟨Nat.le_of_ble_eq_true rfl, Nat.le_of_ble_eq_true rfl⟩ [0] rfl rfl [(true, 0), (false, 1), (false, 2), (false, 3), (false, 4), (false, 5), (false, 6)] rfl rfl rfl (va_recv hM.1 hP (ci := 6) (q0 := 0) rfl rfl) rfl hl.1 rfl (Nat.le_of_ble_eq_true rfl) dX7_restore_29 ⟨Nat.le_refl _, Nat.le_refl _⟩ (fun H locs hP hD hS => ?_)
  refine W.eq (g2 := F0 m 32 ls [.int (bI (false))]) rfl ?_
  refine lv_if_ne (tgt := 37) hx hb dX7_restore_32 (by decide) (fun h9 => False.elim (by revert h9; decide)) (fun _ => ?_)
  refine lv_iconst (v := (nI 0)) hx hb dX7_restore_35 (by decide) ?_
  exact ip_iret hx hb hr hlk dX7_restore_36 hS (rfl) hP
set_option maxHeartbeats 4000000 in
set_option maxRecDepth 100000 in
theorem c7_restore_b2 (l : Launch) (D : va_G) (tc : Nat → ClassId) (zb : Nat) (b b1 b2 b3 b4 b5 b6 : Nat) (th : Int32) (g ga sv : Nat → Nat) (n : Nat) (sl : Nat → Nat) (iz : Nat → Bool) (u : Nat → Nat) (ln : Nat) (pl : Nat) (hk : k_ok g) (hn : n ≤ 14) (hln : ln ≤ 100) (hu : ∀ k, u k < 256) (hp2 : pl ≤ 1) (hiz : iz pl = false) : IP l yX7_restore wsX7_restore 1 25 D tc zb (w_md tc b b1 b2 b3 b4 b5 b6 th g ga sv n sl iz u ln) (w_md tc b b1 b2 b3 b4 b5 b6 (nI 2) g ga sv n sl iz u ln) [.ref b, .int (nI pl)] (some (.int (nI 0))) := by
  refine IP.of (cc := cX7_restore) (maxL := 3) (ret := (some .int)) (by decide) rfl (Nat.le_of_ble_eq_true rfl) ?_
  intro p e s m args below meth c A hx hb hr hml hlk hts hown hM hS hP hD ls hl
  have hl : lv_has ls 3 [(0, .ref b), (1, .int (nI pl))] := hl
  have hinX7 : ∀ w ∈ u_ws RX7 TX7 9, w ∈ wsX7_restore := by decide +kernel
  obtain ⟨ok0, ok1, ok2, ok3, ok4, ok5, ok6⟩ := id hk
  refine lv_aload_n hx hb dX7_restore_0 rfl (lv_at hl 0 rfl) ?_
  refine lv_iload_n hx hb dX7_restore_1 rfl (lv_at hl 1 rfl) ?_
  refine lv_i2l (v := ((nI pl)).toInt64) hx hb dX7_restore_2 rfl ?_
  refine lv_lconst (v := (0 : Int64)) hx hb dX7_restore_3 rfl ?_
  refine lv_lconst (v := (1 : Int64)) hx hb dX7_restore_4 rfl ?_
  refine ro_S (n := 3) ⟨hx, hb, hml, hown, hts⟩ hM hS hP (c7_in_ok l D tc zb pl 0 1 (by omega) (by decide)) gX7_restore_X7_in rfl (by decide +kernel) ⟨Nat.le_of_ble_eq_true rfl, Nat.le_of_ble_eq_true rfl⟩ [] rfl rfl hl.1 rfl (Nat.le_of_ble_eq_true rfl) dX7_restore_5 ⟨Nat.le_refl _, Nat.le_refl _⟩ ?_
  refine lv_if_ne (tgt := 15) hx hb dX7_restore_8 (by decide) (fun _ => ?_) (fun h9 => False.elim (by revert h9; decide))
  refine lv_aload_n hx hb dX7_restore_15 rfl (lv_at hl 0 rfl) ?_
  refine va_get (D := D) (ci := 6) (v := .ref b5) (C := RX7) (T := TX7) (N := 9) hx hb hts hinX7 hown hM.1 hP 0 rfl rfl 6 (by decide) (hts (.fieldLink RX7 22 "TripleWaysModel" "isSaved" "[Z") (by decide +kernel)) (fun _ h9 => h9) rfl dX7_restore_16 ?_
  refine lv_iload_n hx hb dX7_restore_19 rfl (lv_at hl 1 rfl) ?_
  refine ln_zald hx hb hM.1 hP 5 3 rfl rfl dX7_restore_20 (by decide) (by omega) (rfl) ?_
  refine ln_eq (x' := (bI (false))) (congrArg bI hiz) ?_
  refine lv_if_ne (tgt := 28) hx hb dX7_restore_21 (by decide) (fun h9 => False.elim (by revert h9; decide)) (fun _ => ?_)
  refine lv_iconst (v := (nI 2)) hx hb dX7_restore_24 (by decide) ?_
  refine lv_goto (tgt := 29) hx hb dX7_restore_25 (by decide) ?_
  refine ip_V (C := RX7) (n := 1) (wl' := [(b, .inr (6, [.int (nI 2), .ref b1, .ref b2, .ref b3, .int (nI n), .ref b4, .ref b5, .ref b6, .int (nI ln)])), (b1, .inl (tc 0, 60, .inl ((fun k => nI (g k))))), (b2, .inl (tc 0, 60, .inl ((fun k => nI (ga k))))), (b3, .inl (tc 0, 840, .inl ((fun k => nI (sv k))))), (b4, .inl (tc 0, 120, .inl ((fun k => nI (sl k))))), (b5, .inl (tc 3, 2, .inl ((fun k => bI (iz k))))), (b6, .inl (tc 2, 100, .inl ((fun k => byI (u k)))))]) ⟨hx, hb, hml, hown, hts⟩ hM hS hP hD (c7_holdsP l D tc zb b th (fun k9 => match k9 with | 1 => .ref b1 | 2 => .ref b2 | 3 => .ref b3 | 4 => .int (nI n) | 5 => .ref b4 | 6 => .ref b5 | 7 => .ref b6 | 8 => .int (nI ln) | _ => .null) 2 (by omega)) gX7_restore_X7_holds rfl (by decide +kernel) ⟨Nat.le_of_ble_eq_true rfl, Nat.le_of_ble_eq_true rfl⟩ [0] rfl rfl [(true, 0), (false, 1), (false, 2), (false, 3), (false, 4), (false, 5), (false, 6)] rfl rfl rfl (va_recv hM.1 hP (ci := 6) (q0 := 0) rfl rfl) rfl hl.1 rfl (Nat.le_of_ble_eq_true rfl) dX7_restore_29 ⟨Nat.le_refl _, Nat.le_refl _⟩ (fun H locs hP hD hS => ?_)
  refine W.eq (g2 := F0 m 32 ls [.int (bI (false))]) rfl ?_
  refine lv_if_ne (tgt := 37) hx hb dX7_restore_32 (by decide) (fun h9 => False.elim (by revert h9; decide)) (fun _ => ?_)
  refine lv_iconst (v := (nI 0)) hx hb dX7_restore_35 (by decide) ?_
  exact ip_iret hx hb hr hlk dX7_restore_36 hS (rfl) hP
set_option maxHeartbeats 4000000 in
set_option maxRecDepth 100000 in
theorem c7_needed (l : Launch) (D : va_G) (tc : Nat → ClassId) (zb : Nat) (b b1 b2 b3 b4 b5 b6 : Nat) (th : Int32) (g ga sv : Nat → Nat) (n : Nat) (sl : Nat → Nat) (iz : Nat → Bool) (u : Nat → Nat) (ln : Nat) (hk : k_ok g) (hn : n ≤ 14) (hln : ln ≤ 100) (hu : ∀ k, u k < 256) : IP l yX7_needed wsX7_needed 4 89 D tc zb (w_md tc b b1 b2 b3 b4 b5 b6 th g ga sv n sl iz u ln) (w_md tc b b1 b2 b3 b4 b5 b6 (nI 0) g ga sv n sl iz u ln) [.ref b] (some (.int (oI (k_nd g 64)))) := by
  refine IP.of (cc := cX7_needed) (maxL := 3) (ret := (some .int)) (by decide) rfl (Nat.le_of_ble_eq_true rfl) ?_
  intro p e s m args below meth c A hx hb hr hml hlk hts hown hM hS hP hD ls hl
  have hl : lv_has ls 3 [(0, .ref b)] := hl
  have hinX7 : ∀ w ∈ u_ws RX7 TX7 9, w ∈ wsX7_needed := by decide +kernel
  obtain ⟨ok0, ok1, ok2, ok3, ok4, ok5, ok6⟩ := id hk
  refine lv_aload_n hx hb dX7_needed_0 rfl (lv_at hl 0 rfl) ?_
  refine lv_iconst (v := (nI 0)) hx hb dX7_needed_1 (by decide) ?_
  refine va_put (D := D) (ci := 6) (v := .int (nI 0)) (ty := .int) (C := RX7) (T := TX7) (N := 9) hx hb hts hinX7 tyX7 tyX7_ok nmX7 hown hM.1 hP hD hS 0 rfl rfl 0 (by decide) (hts (.fieldLink RX7 30 "TripleWaysModel" "thrown" "I") (by decide +kernel)) (fun _ h9 => h9) rfl (by decide +kernel) rfl rfl (Nat.le_of_ble_eq_true rfl) dX7_needed_2 (fun H locs hP hD hS => ?_)
  have hP : va_P D vwCl [(b, .inr (6, [.int (nI 0), .ref b1, .ref b2, .ref b3, .int (nI n), .ref b4, .ref b5, .ref b6, .int (nI ln)])), (b1, .inl (tc 0, 60, .inl ((fun k => nI (g k))))), (b2, .inl (tc 0, 60, .inl ((fun k => nI (ga k))))), (b3, .inl (tc 0, 840, .inl ((fun k => nI (sv k))))), (b4, .inl (tc 0, 120, .inl ((fun k => nI (sl k))))), (b5, .inl (tc 3, 2, .inl ((fun k => bI (iz k))))), (b6, .inl (tc 2, 100, .inl ((fun k => byI (u k)))))] H := hP
  have hD : va_D A [(b, .inr (6, [.int (nI 0), .ref b1, .ref b2, .ref b3, .int (nI n), .ref b4, .ref b5, .ref b6, .int (nI ln)])), (b1, .inl (tc 0, 60, .inl ((fun k => nI (g k))))), (b2, .inl (tc 0, 60, .inl ((fun k => nI (ga k))))), (b3, .inl (tc 0, 840, .inl ((fun k => nI (sv k))))), (b4, .inl (tc 0, 120, .inl ((fun k => nI (sl k))))), (b5, .inl (tc 3, 2, .inl ((fun k => bI (iz k))))), (b6, .inl (tc 2, 100, .inl ((fun k => byI (u k)))))] := hD
  refine lv_iconst (v := (-1)) hx hb dX7_needed_5 (by decide) ?_
  refine lv_istore_n (lv' := [(1, .int (-1)), (0, .ref b)]) hx hb dX7_needed_6 rfl hl (by decide) rfl (fun ls hl => ?_)
  refine lv_iconst (v := (nI 0)) hx hb dX7_needed_7 (by decide) ?_
  refine lv_istore_n (lv' := [(2, .int (nI 0)), (1, .int (-1)), (0, .ref b)]) hx hb dX7_needed_8 rfl hl (by decide) rfl (fun ls hl => ?_)
  have lp9 : ∀ (n9 : Nat) (bo9 : Option Nat) (i : Nat), (64 - i) < n9 → (i ≤ 64) → (bo9 = k_nd g i) → ∀ (H : Heap) (locs : List Loc), va_P D vwCl [(b, .inr (6, [.int (nI 0), .ref b1, .ref b2, .ref b3, .int (nI n), .ref b4, .ref b5, .ref b6, .int (nI ln)])), (b1, .inl (tc 0, 60, .inl ((fun k => nI (g k))))), (b2, .inl (tc 0, 60, .inl ((fun k => nI (ga k))))), (b3, .inl (tc 0, 840, .inl ((fun k => nI (sv k))))), (b4, .inl (tc 0, 120, .inl ((fun k => nI (sl k))))), (b5, .inl (tc 3, 2, .inl ((fun k => bI (iz k))))), (b6, .inl (tc 2, 100, .inl ((fun k => byI (u k)))))] H → va_D A [(b, .inr (6, [.int (nI 0), .ref b1, .ref b2, .ref b3, .int (nI n), .ref b4, .ref b5, .ref b6, .int (nI ln)])), (b1, .inl (tc 0, 60, .inl ((fun k => nI (g k))))), (b2, .inl (tc 0, 60, .inl ((fun k => nI (ga k))))), (b3, .inl (tc 0, 840, .inl ((fun k => nI (sv k))))), (b4, .inl (tc 0, 120, .inl ((fun k => nI (sl k))))), (b5, .inl (tc 3, 2, .inl ((fun k => bI (iz k))))), (b6, .inl (tc 2, 100, .inl ((fun k => byI (u k)))))] → va_S A s.heap H locs → ∀ ls : Array Slot, lv_has ls 3 [(2, .int (nI i)), (1, .int (oI (bo9))), (0, .ref b)] → W p l e ({ frames := 4, cells := 0, slots := 0, locals := 89 } : Room) s m args below meth c H locs 0 0 (MQ below (ipQ D A (w_md tc b b1 b2 b3 b4 b5 b6 (nI 0) g ga sv n sl iz u ln) (some (.int (oI (k_nd g 64))))) args s 0 0 A) (F0 m 9 ls []) := by
    intro n9
    induction n9 with
    | zero => intro bo9 i hmu; exact absurd hmu (Nat.not_lt_zero _)
    | succ n9 ih9 =>
      intro bo9 i hmu hi hv H locs hP hD hS ls hl
      refine lv_iload_n hx hb dX7_needed_9 rfl (lv_at hl 0 rfl) ?_
      refine lv_bipush (v := (nI 64)) hx hb dX7_needed_10 (by decide) ?_
      refine ln_icmp_ge (tgt := 51) hx hb dX7_needed_12 (by decide) (by omega) (by decide) (fun h1 => ?_) (fun h1 => ?_)
      · refine lv_iload_n hx hb dX7_needed_51 rfl (lv_at hl 1 rfl) ?_
        exact ip_iret hx hb hr hlk dX7_needed_52 hS (congrArg oI (by have e9 : i = 64 := (by omega); subst e9; exact hv)) hP
      · refine lv_aload_n hx hb dX7_needed_15 rfl (lv_at hl 2 rfl) ?_
        refine lv_iload_n hx hb dX7_needed_16 rfl (lv_at hl 0 rfl) ?_
        refine ro_V (C := RX7) (n := 1) ⟨hx, hb, hml, hown, hts⟩ hM hS hP (c7_isEnough l D tc zb b b1 (fun k9 => match k9 with | 0 => .int (nI 0) | 2 => .ref b2 | 3 => .ref b3 | 4 => .int (nI n) | 5 => .ref b4 | 6 => .ref b5 | 7 => .ref b6 | 8 => .int (nI ln) | _ => .null) g i hk (by omega)) gX7_needed_X7_isEnough rfl (by decide +kernel) ⟨Nat.le_of_ble_eq_true rfl, Nat.le_of_ble_eq_true rfl⟩ [0, 1] rfl (va_recv hM.1 hP (ci := 6) (q0 := 0) rfl rfl) rfl hl.1 rfl (Nat.le_of_ble_eq_true rfl) dX7_needed_17 ⟨Nat.le_refl _, Nat.le_refl _⟩ ?_
        refine ln_if_eqB (tgt := 43) hx hb dX7_needed_20 (by decide) (fun h2 => ?_) (fun h2 => ?_)
        · refine lv_iload_n hx hb dX7_needed_43 rfl (lv_at hl 1 rfl) ?_
          refine lv_istore_n (lv' := [(1, .int (oI (bo9))), (2, .int (nI i)), (0, .ref b)]) hx hb dX7_needed_44 rfl hl (by decide) rfl (fun ls hl => ?_)
          refine lv_iinc (v := (nI (i + 1))) (lv' := [(2, .int (nI (i + 1))), (1, .int (oI (bo9))), (0, .ref b)]) hx hb dX7_needed_45 hl (k := 1) rfl (nI_add i 1) (by decide) rfl (fun ls hl => ?_)
          refine lv_goto (tgt := 9) hx hb dX7_needed_48 (by decide) ?_
          exact ih9 bo9 (i + 1) (by omega) (by omega) (by first | (rw [k_nd, ← hv]; first | exact (if_pos (by assumption)).symm | exact (if_pos ⟨by assumption, by omega⟩).symm | exact (if_neg (fun h9 => by have h8 := h9.2; omega)).symm | (cases bo9 <;> first | exact (if_neg (fun h9 => by simp_all)).symm | exact (if_neg (fun h9 => by have h8 := h9.1; simp_all)).symm))) _ _ hP hD hS _ (lv_sub hl [0, 1, 2] rfl)
        · cases bo9 with
          | none =>
            have hl : lv_has ls 3 [(2, .int (nI i)), (1, .int (-1)), (0, .ref b)] := hl
            refine lv_iload_n hx hb dX7_needed_23 rfl (lv_at hl 1 rfl) ?_
            refine lv_iconst (v := (-1)) hx hb dX7_needed_24 (by decide) ?_
            refine lv_icmp_eq (tgt := 39) hx hb dX7_needed_25 (by decide) (fun _ => ?_) (fun h9 => False.elim (by revert h9; decide))
            refine lv_iload_n hx hb dX7_needed_39 rfl (lv_at hl 0 rfl) ?_
            refine lv_goto (tgt := 44) hx hb dX7_needed_40 (by decide) ?_
            refine lv_istore_n (lv' := [(1, .int (nI i)), (2, .int (nI i)), (0, .ref b)]) hx hb dX7_needed_44 rfl hl (by decide) rfl (fun ls hl => ?_)
            refine lv_iinc (v := (nI (i + 1))) (lv' := [(2, .int (nI (i + 1))), (1, .int (nI i)), (0, .ref b)]) hx hb dX7_needed_45 hl (k := 1) rfl (nI_add i 1) (by decide) rfl (fun ls hl => ?_)
            refine lv_goto (tgt := 9) hx hb dX7_needed_48 (by decide) ?_
            exact ih9 (some i) (i + 1) (by omega) (by omega) (by first | (rw [k_nd, ← hv]; first | exact (if_pos (by assumption)).symm | exact (if_pos ⟨by assumption, by omega⟩).symm | exact (if_neg (fun h9 => by have h8 := h9.2; omega)).symm | (cases bo9 <;> first | exact (if_neg (fun h9 => by simp_all)).symm | exact (if_neg (fun h9 => by have h8 := h9.1; simp_all)).symm))) _ _ hP hD hS _ (lv_sub hl [0, 1, 2] rfl)
          | some v9 =>
            have hl : lv_has ls 3 [(2, .int (nI i)), (1, .int (nI v9)), (0, .ref b)] := hl
            have hvb9 := k_nd_lt hv.symm
            refine lv_iload_n hx hb dX7_needed_23 rfl (lv_at hl 1 rfl) ?_
            refine lv_iconst (v := (-1)) hx hb dX7_needed_24 (by decide) ?_
            refine ln_eq_m1 (tgt := 39) hx hb dX7_needed_25 (by decide) (by omega) ?_
            refine lv_iload_n hx hb dX7_needed_28 rfl (lv_at hl 0 rfl) ?_
            refine ro_S (n := 1) ⟨hx, hb, hml, hown, hts⟩ hM hS hP (c7_bitsOf l D tc zb i (by omega)) gX7_needed_X7_bitsOf rfl (by decide +kernel) ⟨Nat.le_of_ble_eq_true rfl, Nat.le_of_ble_eq_true rfl⟩ [] rfl rfl hl.1 rfl (Nat.le_of_ble_eq_true rfl) dX7_needed_29 ⟨Nat.le_refl _, Nat.le_refl _⟩ ?_
            have hf3 := k_pc_le i
            refine lv_iload_n hx hb dX7_needed_32 rfl (lv_at hl 1 rfl) ?_
            refine ro_S (n := 1) ⟨hx, hb, hml, hown, hts⟩ hM hS hP (c7_bitsOf l D tc zb v9 (by omega)) gX7_needed_X7_bitsOf rfl (by decide +kernel) ⟨Nat.le_of_ble_eq_true rfl, Nat.le_of_ble_eq_true rfl⟩ [] rfl rfl hl.1 rfl (Nat.le_of_ble_eq_true rfl) dX7_needed_33 ⟨Nat.le_refl _, Nat.le_refl _⟩ ?_
            have hf4 := k_pc_le v9
            refine ln_icmp_ge (tgt := 43) hx hb dX7_needed_36 (by decide) (by omega) (by omega) (fun h5 => ?_) (fun h5 => ?_)
            · refine lv_iload_n hx hb dX7_needed_43 rfl (lv_at hl 1 rfl) ?_
              refine lv_istore_n (lv' := [(1, .int (nI v9)), (2, .int (nI i)), (0, .ref b)]) hx hb dX7_needed_44 rfl hl (by decide) rfl (fun ls hl => ?_)
              refine lv_iinc (v := (nI (i + 1))) (lv' := [(2, .int (nI (i + 1))), (1, .int (nI v9)), (0, .ref b)]) hx hb dX7_needed_45 hl (k := 1) rfl (nI_add i 1) (by decide) rfl (fun ls hl => ?_)
              refine lv_goto (tgt := 9) hx hb dX7_needed_48 (by decide) ?_
              exact ih9 (some v9) (i + 1) (by omega) (by omega) (by first | (rw [k_nd, ← hv]; first | exact (if_pos (by assumption)).symm | exact (if_pos ⟨by assumption, by omega⟩).symm | exact (if_neg (fun h9 => by have h8 := h9.2; omega)).symm | (cases bo9 <;> first | exact (if_neg (fun h9 => by simp_all)).symm | exact (if_neg (fun h9 => by have h8 := h9.1; simp_all)).symm))) _ _ hP hD hS _ (lv_sub hl [0, 1, 2] rfl)
            · refine lv_iload_n hx hb dX7_needed_39 rfl (lv_at hl 0 rfl) ?_
              refine lv_goto (tgt := 44) hx hb dX7_needed_40 (by decide) ?_
              refine lv_istore_n (lv' := [(1, .int (nI i)), (2, .int (nI i)), (0, .ref b)]) hx hb dX7_needed_44 rfl hl (by decide) rfl (fun ls hl => ?_)
              refine lv_iinc (v := (nI (i + 1))) (lv' := [(2, .int (nI (i + 1))), (1, .int (nI i)), (0, .ref b)]) hx hb dX7_needed_45 hl (k := 1) rfl (nI_add i 1) (by decide) rfl (fun ls hl => ?_)
              refine lv_goto (tgt := 9) hx hb dX7_needed_48 (by decide) ?_
              exact ih9 (some i) (i + 1) (by omega) (by omega) (by first | (rw [k_nd, ← hv]; first | exact (if_pos (by assumption)).symm | exact (if_pos ⟨by assumption, by omega⟩).symm | exact (if_neg (fun h9 => by have h8 := h9.2; omega)).symm | (cases bo9 <;> first | exact (if_neg (fun h9 => by simp_all)).symm | exact (if_neg (fun h9 => by have h8 := h9.1; simp_all)).symm))) _ _ hP hD hS _ (lv_sub hl [0, 1, 2] rfl)
  exact lp9 _ none 0 (Nat.lt_succ_self _) (by omega) (by rfl) _ _ hP hD hS _ (lv_sub hl [0, 1, 2] rfl)
set_option maxHeartbeats 4000000 in
set_option maxRecDepth 100000 in
theorem c7_bestSet (l : Launch) (D : va_G) (tc : Nat → ClassId) (zb : Nat) (b b1 b2 b3 b4 b5 b6 : Nat) (th : Int32) (g ga sv : Nat → Nat) (n : Nat) (sl : Nat → Nat) (iz : Nat → Bool) (u : Nat → Nat) (ln : Nat) (hk : k_ok g) (hn : n ≤ 14) (hln : ln ≤ 100) (hu : ∀ k, u k < 256) : IP l yX7_bestSet wsX7_bestSet 8 183 D tc zb (w_md tc b b1 b2 b3 b4 b5 b6 th g ga sv n sl iz u ln) (w_md tc b b1 b2 b3 b4 b5 b6 (nI 0) g ga sv n sl iz u ln) [.ref b] (some (.int (nI (k_bs g 63)))) := by
  refine IP.of (cc := cX7_bestSet) (maxL := 5) (ret := (some .int)) (by decide) rfl (Nat.le_of_ble_eq_true rfl) ?_
  intro p e s m args below meth c A hx hb hr hml hlk hts hown hM hS hP hD ls hl
  have hl : lv_has ls 5 [(0, .ref b)] := hl
  have hinX7 : ∀ w ∈ u_ws RX7 TX7 9, w ∈ wsX7_bestSet := by decide +kernel
  obtain ⟨ok0, ok1, ok2, ok3, ok4, ok5, ok6⟩ := id hk
  refine lv_aload_n hx hb dX7_bestSet_0 rfl (lv_at hl 0 rfl) ?_
  refine lv_iconst (v := (nI 0)) hx hb dX7_bestSet_1 (by decide) ?_
  refine va_put (D := D) (ci := 6) (v := .int (nI 0)) (ty := .int) (C := RX7) (T := TX7) (N := 9) hx hb hts hinX7 tyX7 tyX7_ok nmX7 hown hM.1 hP hD hS 0 rfl rfl 0 (by decide) (hts (.fieldLink RX7 30 "TripleWaysModel" "thrown" "I") (by decide +kernel)) (fun _ h9 => h9) rfl (by decide +kernel) rfl rfl (Nat.le_of_ble_eq_true rfl) dX7_bestSet_2 (fun H locs hP hD hS => ?_)
  have hP : va_P D vwCl [(b, .inr (6, [.int (nI 0), .ref b1, .ref b2, .ref b3, .int (nI n), .ref b4, .ref b5, .ref b6, .int (nI ln)])), (b1, .inl (tc 0, 60, .inl ((fun k => nI (g k))))), (b2, .inl (tc 0, 60, .inl ((fun k => nI (ga k))))), (b3, .inl (tc 0, 840, .inl ((fun k => nI (sv k))))), (b4, .inl (tc 0, 120, .inl ((fun k => nI (sl k))))), (b5, .inl (tc 3, 2, .inl ((fun k => bI (iz k))))), (b6, .inl (tc 2, 100, .inl ((fun k => byI (u k)))))] H := hP
  have hD : va_D A [(b, .inr (6, [.int (nI 0), .ref b1, .ref b2, .ref b3, .int (nI n), .ref b4, .ref b5, .ref b6, .int (nI ln)])), (b1, .inl (tc 0, 60, .inl ((fun k => nI (g k))))), (b2, .inl (tc 0, 60, .inl ((fun k => nI (ga k))))), (b3, .inl (tc 0, 840, .inl ((fun k => nI (sv k))))), (b4, .inl (tc 0, 120, .inl ((fun k => nI (sl k))))), (b5, .inl (tc 3, 2, .inl ((fun k => bI (iz k))))), (b6, .inl (tc 2, 100, .inl ((fun k => byI (u k)))))] := hD
  refine lv_iconst (v := (nI 0)) hx hb dX7_bestSet_5 (by decide) ?_
  refine lv_istore_n (lv' := [(1, .int (nI 0)), (0, .ref b)]) hx hb dX7_bestSet_6 rfl hl (by decide) rfl (fun ls hl => ?_)
  refine lv_aload_n hx hb dX7_bestSet_7 rfl (lv_at hl 1 rfl) ?_
  refine lv_iconst (v := (nI 0)) hx hb dX7_bestSet_8 (by decide) ?_
  refine ro_V (C := RX7) (n := 1) ⟨hx, hb, hml, hown, hts⟩ hM hS hP (c7_sumBy l D tc zb b b1 (fun k9 => match k9 with | 0 => .int (nI 0) | 2 => .ref b2 | 3 => .ref b3 | 4 => .int (nI n) | 5 => .ref b4 | 6 => .ref b5 | 7 => .ref b6 | 8 => .int (nI ln) | _ => .null) g 0 hk (by omega)) gX7_bestSet_X7_sumBy rfl (by decide +kernel) ⟨Nat.le_of_ble_eq_true rfl, Nat.le_of_ble_eq_true rfl⟩ [0, 1] rfl (va_recv hM.1 hP (ci := 6) (q0 := 0) rfl rfl) rfl hl.1 rfl (Nat.le_of_ble_eq_true rfl) dX7_bestSet_9 ⟨Nat.le_refl _, Nat.le_refl _⟩ ?_
  have hf1 := show k_sum g 0 ≤ 480 from k_sum_le hk
  refine lv_istore_n (lv' := [(2, .int (nI (k_sum g 0))), (1, .int (nI 0)), (0, .ref b)]) hx hb dX7_bestSet_12 rfl hl (by decide) rfl (fun ls hl => ?_)
  refine lv_iconst (v := (nI 1)) hx hb dX7_bestSet_13 (by decide) ?_
  refine lv_istore_n (lv' := [(3, .int (nI 1)), (2, .int (nI (k_sum g 0))), (1, .int (nI 0)), (0, .ref b)]) hx hb dX7_bestSet_14 rfl hl (by decide) rfl (fun ls hl => ?_)
  have lp15 : ∀ (n9 : Nat) (fo : Nat) (lo9 : Nat) (i : Nat), (64 - i) < n9 → (1 ≤ i ∧ i ≤ 64) → (fo = k_bs g (i - 1)) → (lo9 = k_bm g (i - 1)) → (lo9 ≤ 480) → ∀ (H : Heap) (locs : List Loc), va_P D vwCl [(b, .inr (6, [.int (nI 0), .ref b1, .ref b2, .ref b3, .int (nI n), .ref b4, .ref b5, .ref b6, .int (nI ln)])), (b1, .inl (tc 0, 60, .inl ((fun k => nI (g k))))), (b2, .inl (tc 0, 60, .inl ((fun k => nI (ga k))))), (b3, .inl (tc 0, 840, .inl ((fun k => nI (sv k))))), (b4, .inl (tc 0, 120, .inl ((fun k => nI (sl k))))), (b5, .inl (tc 3, 2, .inl ((fun k => bI (iz k))))), (b6, .inl (tc 2, 100, .inl ((fun k => byI (u k)))))] H → va_D A [(b, .inr (6, [.int (nI 0), .ref b1, .ref b2, .ref b3, .int (nI n), .ref b4, .ref b5, .ref b6, .int (nI ln)])), (b1, .inl (tc 0, 60, .inl ((fun k => nI (g k))))), (b2, .inl (tc 0, 60, .inl ((fun k => nI (ga k))))), (b3, .inl (tc 0, 840, .inl ((fun k => nI (sv k))))), (b4, .inl (tc 0, 120, .inl ((fun k => nI (sl k))))), (b5, .inl (tc 3, 2, .inl ((fun k => bI (iz k))))), (b6, .inl (tc 2, 100, .inl ((fun k => byI (u k)))))] → va_S A s.heap H locs → ∀ ls : Array Slot, lv_has ls 5 [(3, .int (nI i)), (2, .int (nI lo9)), (1, .int (nI fo)), (0, .ref b)] → W p l e ({ frames := 8, cells := 0, slots := 0, locals := 183 } : Room) s m args below meth c H locs 0 0 (MQ below (ipQ D A (w_md tc b b1 b2 b3 b4 b5 b6 (nI 0) g ga sv n sl iz u ln) (some (.int (nI (k_bs g 63))))) args s 0 0 A) (F0 m 15 ls []) := by
    intro n9
    induction n9 with
    | zero => intro fo lo9 i hmu; exact absurd hmu (Nat.not_lt_zero _)
    | succ n9 ih15 =>
      intro fo lo9 i hmu hi hf hm hlb H locs hP hD hS ls hl
      refine lv_iload_n hx hb dX7_bestSet_15 rfl (lv_at hl 0 rfl) ?_
      refine lv_bipush (v := (nI 64)) hx hb dX7_bestSet_16 (by decide) ?_
      refine ln_icmp_ge (tgt := 69) hx hb dX7_bestSet_18 (by decide) (by omega) (by decide) (fun h2 => ?_) (fun h2 => ?_)
      · refine lv_iload_n hx hb dX7_bestSet_69 rfl (lv_at hl 2 rfl) ?_
        exact ip_iret hx hb hr hlk dX7_bestSet_70 hS (congrArg nI (by have e9 : i = 64 := (by omega); subst e9; exact hf)) hP
      · refine lv_aload_n hx hb dX7_bestSet_21 rfl (lv_at hl 3 rfl) ?_
        refine lv_iload_n hx hb dX7_bestSet_22 rfl (lv_at hl 0 rfl) ?_
        refine ro_V (C := RX7) (n := 1) ⟨hx, hb, hml, hown, hts⟩ hM hS hP (c7_sumBy l D tc zb b b1 (fun k9 => match k9 with | 0 => .int (nI 0) | 2 => .ref b2 | 3 => .ref b3 | 4 => .int (nI n) | 5 => .ref b4 | 6 => .ref b5 | 7 => .ref b6 | 8 => .int (nI ln) | _ => .null) g i hk (by omega)) gX7_bestSet_X7_sumBy rfl (by decide +kernel) ⟨Nat.le_of_ble_eq_true rfl, Nat.le_of_ble_eq_true rfl⟩ [0, 1] rfl (va_recv hM.1 hP (ci := 6) (q0 := 0) rfl rfl) rfl hl.1 rfl (Nat.le_of_ble_eq_true rfl) dX7_bestSet_23 ⟨Nat.le_refl _, Nat.le_refl _⟩ ?_
        have hf3 := show k_sum g i ≤ 480 from k_sum_le hk
        refine lv_iload_n hx hb dX7_bestSet_26 rfl (lv_at hl 0 rfl) ?_
        refine ro_S (n := 1) ⟨hx, hb, hml, hown, hts⟩ hM hS hP (c7_bitsOf l D tc zb i (by omega)) gX7_bestSet_X7_bitsOf rfl (by decide +kernel) ⟨Nat.le_of_ble_eq_true rfl, Nat.le_of_ble_eq_true rfl⟩ [] rfl rfl hl.1 rfl (Nat.le_of_ble_eq_true rfl) dX7_bestSet_27 ⟨Nat.le_refl _, Nat.le_refl _⟩ ?_
        have hf4 := k_pc_le i
        refine lv_aload_n hx hb dX7_bestSet_30 rfl (lv_at hl 3 rfl) ?_
        refine ro_V (C := RX7) (n := 0) ⟨hx, hb, hml, hown, hts⟩ hM hS hP (c7_dues l D tc zb b b1 (fun k9 => match k9 with | 0 => .int (nI 0) | 2 => .ref b2 | 3 => .ref b3 | 4 => .int (nI n) | 5 => .ref b4 | 6 => .ref b5 | 7 => .ref b6 | 8 => .int (nI ln) | _ => .null) g hk) gX7_bestSet_X7_dues rfl (by decide +kernel) ⟨Nat.le_of_ble_eq_true rfl, Nat.le_of_ble_eq_true rfl⟩ [0, 1] rfl (va_recv hM.1 hP (ci := 6) (q0 := 0) rfl rfl) rfl hl.1 rfl (Nat.le_of_ble_eq_true rfl) dX7_bestSet_31 ⟨Nat.le_refl _, Nat.le_refl _⟩ ?_
        have hf5 := k_due_le hk
        refine ln_imul hx hb dX7_bestSet_34 ?_
        refine ln_iadd hx hb dX7_bestSet_35 ?_
        refine lv_istore (lv' := [(4, .int (nI ((k_sum g i) + ((k_pc i) * (k_due g))))), (3, .int (nI i)), (2, .int (nI lo9)), (1, .int (nI fo)), (0, .ref b)]) hx hb dX7_bestSet_36 hl (by decide) rfl (fun ls hl => ?_)
        have hct9 := k_ct_le hk i
        unfold k_ct at hct9
        refine lv_iload hx hb dX7_bestSet_38 (lv_at hl 0 rfl) ?_
        refine lv_iload_n hx hb dX7_bestSet_40 rfl (lv_at hl 2 rfl) ?_
        refine ln_icmp_ge (tgt := 48) hx hb dX7_bestSet_41 (by decide) (by omega) (by omega) (fun h6 => ?_) (fun h6 => ?_)
        · refine lv_iload_n hx hb dX7_bestSet_48 rfl (lv_at hl 3 rfl) ?_
          refine lv_istore_n (lv' := [(1, .int (nI fo)), (4, .int (nI ((k_sum g i) + ((k_pc i) * (k_due g))))), (3, .int (nI i)), (2, .int (nI lo9)), (0, .ref b)]) hx hb dX7_bestSet_49 rfl hl (by decide) rfl (fun ls hl => ?_)
          refine lv_iload hx hb dX7_bestSet_50 (lv_at hl 1 rfl) ?_
          refine lv_iload_n hx hb dX7_bestSet_52 rfl (lv_at hl 3 rfl) ?_
          refine ln_icmp_ge (tgt := 61) hx hb dX7_bestSet_53 (by decide) (by omega) (by omega) (fun h7 => ?_) (fun h7 => ?_)
          · refine lv_iload_n hx hb dX7_bestSet_61 rfl (lv_at hl 3 rfl) ?_
            refine lv_istore_n (lv' := [(2, .int (nI lo9)), (1, .int (nI fo)), (4, .int (nI ((k_sum g i) + ((k_pc i) * (k_due g))))), (3, .int (nI i)), (0, .ref b)]) hx hb dX7_bestSet_62 rfl hl (by decide) rfl (fun ls hl => ?_)
            refine lv_iinc (v := (nI (i + 1))) (lv' := [(3, .int (nI (i + 1))), (2, .int (nI lo9)), (1, .int (nI fo)), (4, .int (nI ((k_sum g i) + ((k_pc i) * (k_due g))))), (0, .ref b)]) hx hb dX7_bestSet_63 hl (k := 3) rfl (nI_add i 1) (by decide) rfl (fun ls hl => ?_)
            refine lv_goto (tgt := 15) hx hb dX7_bestSet_66 (by decide) ?_
            exact ih15 fo lo9 (i + 1) (by omega) (by omega) (by (have e7 : i + 1 - 1 = (i - 1) + 1 := by omega); (have e6 : i - 1 + 1 = i := by omega); rw [e7, k_bs, e6, ← hm]; first | exact (if_pos (by unfold k_ct; omega)).symm | (rw [if_neg (by unfold k_ct; omega)]; done) | (rw [if_neg (by unfold k_ct; omega)]; exact hf)) (by (have e7 : i + 1 - 1 = (i - 1) + 1 := by omega); (have e6 : i - 1 + 1 = i := by omega); rw [e7, k_bm, e6, ← hm]; first | exact (if_pos (by unfold k_ct; omega)).symm | (rw [if_neg (by unfold k_ct; omega)]; done) | (rw [if_neg (by unfold k_ct; omega)]; exact hm)) (by omega) _ _ hP hD hS _ (lv_sub hl [0, 1, 2, 4] rfl)
          · refine lv_iload hx hb dX7_bestSet_56 (lv_at hl 1 rfl) ?_
            refine lv_goto (tgt := 62) hx hb dX7_bestSet_58 (by decide) ?_
            refine lv_istore_n (lv' := [(2, .int (nI ((k_sum g i) + ((k_pc i) * (k_due g))))), (1, .int (nI fo)), (4, .int (nI ((k_sum g i) + ((k_pc i) * (k_due g))))), (3, .int (nI i)), (0, .ref b)]) hx hb dX7_bestSet_62 rfl hl (by decide) rfl (fun ls hl => ?_)
            refine lv_iinc (v := (nI (i + 1))) (lv' := [(3, .int (nI (i + 1))), (2, .int (nI ((k_sum g i) + ((k_pc i) * (k_due g))))), (1, .int (nI fo)), (4, .int (nI ((k_sum g i) + ((k_pc i) * (k_due g))))), (0, .ref b)]) hx hb dX7_bestSet_63 hl (k := 3) rfl (nI_add i 1) (by decide) rfl (fun ls hl => ?_)
            refine lv_goto (tgt := 15) hx hb dX7_bestSet_66 (by decide) ?_
            exact ih15 fo ((k_sum g i) + ((k_pc i) * (k_due g))) (i + 1) (by omega) (by omega) (by (have e7 : i + 1 - 1 = (i - 1) + 1 := by omega); (have e6 : i - 1 + 1 = i := by omega); rw [e7, k_bs, e6, ← hm]; first | exact (if_pos (by unfold k_ct; omega)).symm | (rw [if_neg (by unfold k_ct; omega)]; done) | (rw [if_neg (by unfold k_ct; omega)]; exact hf)) (by (have e7 : i + 1 - 1 = (i - 1) + 1 := by omega); (have e6 : i - 1 + 1 = i := by omega); rw [e7, k_bm, e6, ← hm]; first | exact (if_pos (by unfold k_ct; omega)).symm | (rw [if_neg (by unfold k_ct; omega)]; done) | (rw [if_neg (by unfold k_ct; omega)]; exact hm)) (by omega) _ _ hP hD hS _ (lv_sub hl [0, 1, 2, 4] rfl)
        · refine lv_iload_n hx hb dX7_bestSet_44 rfl (lv_at hl 1 rfl) ?_
          refine lv_goto (tgt := 49) hx hb dX7_bestSet_45 (by decide) ?_
          refine lv_istore_n (lv' := [(1, .int (nI i)), (4, .int (nI ((k_sum g i) + ((k_pc i) * (k_due g))))), (3, .int (nI i)), (2, .int (nI lo9)), (0, .ref b)]) hx hb dX7_bestSet_49 rfl hl (by decide) rfl (fun ls hl => ?_)
          refine lv_iload hx hb dX7_bestSet_50 (lv_at hl 1 rfl) ?_
          refine lv_iload_n hx hb dX7_bestSet_52 rfl (lv_at hl 3 rfl) ?_
          refine ln_icmp_ge (tgt := 61) hx hb dX7_bestSet_53 (by decide) (by omega) (by omega) (fun h8 => ?_) (fun h8 => ?_)
          · refine lv_iload_n hx hb dX7_bestSet_61 rfl (lv_at hl 3 rfl) ?_
            refine lv_istore_n (lv' := [(2, .int (nI lo9)), (1, .int (nI i)), (4, .int (nI ((k_sum g i) + ((k_pc i) * (k_due g))))), (3, .int (nI i)), (0, .ref b)]) hx hb dX7_bestSet_62 rfl hl (by decide) rfl (fun ls hl => ?_)
            refine lv_iinc (v := (nI (i + 1))) (lv' := [(3, .int (nI (i + 1))), (2, .int (nI lo9)), (1, .int (nI i)), (4, .int (nI ((k_sum g i) + ((k_pc i) * (k_due g))))), (0, .ref b)]) hx hb dX7_bestSet_63 hl (k := 3) rfl (nI_add i 1) (by decide) rfl (fun ls hl => ?_)
            refine lv_goto (tgt := 15) hx hb dX7_bestSet_66 (by decide) ?_
            exact ih15 i lo9 (i + 1) (by omega) (by omega) (by (have e7 : i + 1 - 1 = (i - 1) + 1 := by omega); (have e6 : i - 1 + 1 = i := by omega); rw [e7, k_bs, e6, ← hm]; first | exact (if_pos (by unfold k_ct; omega)).symm | (rw [if_neg (by unfold k_ct; omega)]; done) | (rw [if_neg (by unfold k_ct; omega)]; exact hf)) (by (have e7 : i + 1 - 1 = (i - 1) + 1 := by omega); (have e6 : i - 1 + 1 = i := by omega); rw [e7, k_bm, e6, ← hm]; first | exact (if_pos (by unfold k_ct; omega)).symm | (rw [if_neg (by unfold k_ct; omega)]; done) | (rw [if_neg (by unfold k_ct; omega)]; exact hm)) (by omega) _ _ hP hD hS _ (lv_sub hl [0, 1, 2, 4] rfl)
          · refine lv_iload hx hb dX7_bestSet_56 (lv_at hl 1 rfl) ?_
            refine lv_goto (tgt := 62) hx hb dX7_bestSet_58 (by decide) ?_
            refine lv_istore_n (lv' := [(2, .int (nI ((k_sum g i) + ((k_pc i) * (k_due g))))), (1, .int (nI i)), (4, .int (nI ((k_sum g i) + ((k_pc i) * (k_due g))))), (3, .int (nI i)), (0, .ref b)]) hx hb dX7_bestSet_62 rfl hl (by decide) rfl (fun ls hl => ?_)
            refine lv_iinc (v := (nI (i + 1))) (lv' := [(3, .int (nI (i + 1))), (2, .int (nI ((k_sum g i) + ((k_pc i) * (k_due g))))), (1, .int (nI i)), (4, .int (nI ((k_sum g i) + ((k_pc i) * (k_due g))))), (0, .ref b)]) hx hb dX7_bestSet_63 hl (k := 3) rfl (nI_add i 1) (by decide) rfl (fun ls hl => ?_)
            refine lv_goto (tgt := 15) hx hb dX7_bestSet_66 (by decide) ?_
            exact ih15 i ((k_sum g i) + ((k_pc i) * (k_due g))) (i + 1) (by omega) (by omega) (by (have e7 : i + 1 - 1 = (i - 1) + 1 := by omega); (have e6 : i - 1 + 1 = i := by omega); rw [e7, k_bs, e6, ← hm]; first | exact (if_pos (by unfold k_ct; omega)).symm | (rw [if_neg (by unfold k_ct; omega)]; done) | (rw [if_neg (by unfold k_ct; omega)]; exact hf)) (by (have e7 : i + 1 - 1 = (i - 1) + 1 := by omega); (have e6 : i - 1 + 1 = i := by omega); rw [e7, k_bm, e6, ← hm]; first | exact (if_pos (by unfold k_ct; omega)).symm | (rw [if_neg (by unfold k_ct; omega)]; done) | (rw [if_neg (by unfold k_ct; omega)]; exact hm)) (by omega) _ _ hP hD hS _ (lv_sub hl [0, 1, 2, 4] rfl)
  exact lp15 _ 0 (k_sum g 0) 1 (Nat.lt_succ_self _) (by omega) (by rfl) (by rfl) (by omega) _ _ hP hD hS _ (lv_sub hl [0, 1, 2, 3] rfl)
