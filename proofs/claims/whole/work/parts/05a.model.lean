set_option maxHeartbeats 4000000 in
set_option maxRecDepth 100000 in
theorem c7_in (l : Launch) (D : va_G) (tc : Nat → ClassId) (zb : Nat) (v lo hi : Int64)  : RO l yX7_in wsX7_in 0 0 D tc zb [] [.long (v), .long (lo), .long (hi)] (.int (bI (decide (lo ≤ v ∧ v ≤ hi)))) := by
  refine RO.of (cc := cX7_in) (maxL := 6) (ret := (some .boolean)) (by decide) rfl (Nat.le_of_ble_eq_true rfl) ?_
  intro p e s m args below meth c hx hb hr hml hlk hts hown hM hS hP ls hl
  have hl : lv_has ls 6 [(0, .long (v)), (2, .long (lo)), (4, .long (hi))] := hl
  refine lv_lload_n hx hb dX7_in_0 rfl (lv_at hl 0 rfl) ?_
  refine lv_lload_n hx hb dX7_in_1 rfl (lv_at hl 1 rfl) ?_
  refine W.lcmp hx hb dX7_in_2 ?_
  refine ln_lif_lt (tgt := 17) hx hb dX7_in_3 (by decide) (fun h1 => ?_) (fun h1 => ?_)
  · refine lv_iconst (v := (nI 0)) hx hb dX7_in_17 (by decide) ?_
    exact ro_zret hx hb hr hlk dX7_in_18 (show bI false = _ from congrArg bI (by first | exact (decide_eq_true (by constructor <;> (first | exact k_nlt64 (by assumption)))).symm | exact (decide_eq_false (fun h9 => by first | exact absurd (by assumption) (k_le64 h9.1) | exact absurd (by assumption) (k_le64 h9.2))).symm))
  · refine lv_lload_n hx hb dX7_in_6 rfl (lv_at hl 0 rfl) ?_
    refine lv_lload hx hb dX7_in_7 (lv_at hl 2 rfl) ?_
    refine W.lcmp hx hb dX7_in_9 ?_
    refine ln_lif_gt (tgt := 17) hx hb dX7_in_10 (by decide) (fun h2 => ?_) (fun h2 => ?_)
    · refine lv_iconst (v := (nI 0)) hx hb dX7_in_17 (by decide) ?_
      exact ro_zret hx hb hr hlk dX7_in_18 (show bI false = _ from congrArg bI (by first | exact (decide_eq_true (by constructor <;> (first | exact k_nlt64 (by assumption)))).symm | exact (decide_eq_false (fun h9 => by first | exact absurd (by assumption) (k_le64 h9.1) | exact absurd (by assumption) (k_le64 h9.2))).symm))
    · refine lv_iconst (v := (nI 1)) hx hb dX7_in_13 (by decide) ?_
      refine lv_goto (tgt := 18) hx hb dX7_in_14 (by decide) ?_
      exact ro_zret hx hb hr hlk dX7_in_18 (show bI true = _ from congrArg bI (by first | exact (decide_eq_true (by constructor <;> (first | exact k_nlt64 (by assumption)))).symm | exact (decide_eq_false (fun h9 => by first | exact absurd (by assumption) (k_le64 h9.1) | exact absurd (by assumption) (k_le64 h9.2))).symm))
set_option maxHeartbeats 4000000 in
set_option maxRecDepth 100000 in
theorem c7_partOf (l : Launch) (D : va_G) (tc : Nat → ClassId) (zb : Nat) (t cc9 : Nat) (ht : t < 1000) (hc : cc9 < 3) : RO l yX7_partOf wsX7_partOf 0 0 D tc zb [] [.int (nI t), .int (nI cc9)] (.int (nI (k_pt t cc9))) := by
  refine RO.of (cc := cX7_partOf) (maxL := 2) (ret := (some .int)) (by decide) rfl (Nat.le_of_ble_eq_true rfl) ?_
  intro p e s m args below meth c hx hb hr hml hlk hts hown hM hS hP ls hl
  have hl : lv_has ls 2 [(0, .int (nI t)), (1, .int (nI cc9))] := hl
  refine lv_iload_n hx hb dX7_partOf_0 rfl (lv_at hl 1 rfl) ?_
  refine ln_if_ne (tgt := 11) hx hb dX7_partOf_1 (by decide) (by omega) (fun h1 => ?_) (fun h1 => ?_)
  · refine lv_iload_n hx hb dX7_partOf_11 rfl (lv_at hl 1 rfl) ?_
    refine lv_iconst (v := (nI 1)) hx hb dX7_partOf_12 (by decide) ?_
    refine ln_icmp_ne (tgt := 26) hx hb dX7_partOf_13 (by decide) (by omega) (by decide) (fun h2 => ?_) (fun h2 => ?_)
    · refine lv_iload_n hx hb dX7_partOf_26 rfl (lv_at hl 0 rfl) ?_
      refine lv_bipush (v := (nI 10)) hx hb dX7_partOf_27 (by decide) ?_
      refine ln_irem hx hb dX7_partOf_29 (by omega) (by decide) (by decide) ?_
      exact ro_iret hx hb hr hlk dX7_partOf_30 (congrArg nI (by unfold k_pt; (repeat' split) <;> omega))
    · refine lv_iload_n hx hb dX7_partOf_16 rfl (lv_at hl 0 rfl) ?_
      refine lv_bipush (v := (nI 10)) hx hb dX7_partOf_17 (by decide) ?_
      refine ln_idiv hx hb dX7_partOf_19 (by omega) (by decide) (by decide) ?_
      refine lv_bipush (v := (nI 10)) hx hb dX7_partOf_20 (by decide) ?_
      refine ln_irem hx hb dX7_partOf_22 (by omega) (by decide) (by decide) ?_
      refine lv_goto (tgt := 30) hx hb dX7_partOf_23 (by decide) ?_
      exact ro_iret hx hb hr hlk dX7_partOf_30 (congrArg nI (by unfold k_pt; (repeat' split) <;> omega))
  · refine lv_iload_n hx hb dX7_partOf_4 rfl (lv_at hl 0 rfl) ?_
    refine lv_bipush (v := (nI 100)) hx hb dX7_partOf_5 (by decide) ?_
    refine ln_idiv hx hb dX7_partOf_7 (by omega) (by decide) (by decide) ?_
    refine lv_goto (tgt := 30) hx hb dX7_partOf_8 (by decide) ?_
    exact ro_iret hx hb hr hlk dX7_partOf_30 (congrArg nI (by unfold k_pt; (repeat' split) <;> omega))
set_option maxHeartbeats 4000000 in
set_option maxRecDepth 100000 in
theorem c7_compared (l : Launch) (D : va_G) (tc : Nat → ClassId) (zb : Nat) (q k : Nat) (hq : q < 6) (hk3 : k < 3) : RO l yX7_compared wsX7_compared 0 0 D tc zb [] [.int (nI q), .int (nI k)] (.int (nI (byf (3 * q + k)))) := by
  refine RO.of (cc := cX7_compared) (maxL := 5) (ret := (some .int)) (by decide) rfl (Nat.le_of_ble_eq_true rfl) ?_
  intro p e s m args below meth c hx hb hr hml hlk hts hown hM hS hP ls hl
  have hl : lv_has ls 5 [(0, .int (nI q)), (1, .int (nI k))] := hl
  refine lv_iload_n hx hb dX7_compared_0 rfl (lv_at hl 0 rfl) ?_
  refine lv_iconst (v := (nI 2)) hx hb dX7_compared_1 (by decide) ?_
  refine ln_idiv hx hb dX7_compared_2 (by omega) (by decide) (by decide) ?_
  refine lv_istore_n (lv' := [(2, .int (nI (q / 2))), (0, .int (nI q)), (1, .int (nI k))]) hx hb dX7_compared_3 rfl hl (by decide) rfl (fun ls hl => ?_)
  refine lv_iload_n hx hb dX7_compared_4 rfl (lv_at hl 0 rfl) ?_
  refine ln_if_ne (tgt := 12) hx hb dX7_compared_5 (by decide) (by omega) (fun h1 => ?_) (fun h1 => ?_)
  · refine lv_iconst (v := (nI 0)) hx hb dX7_compared_12 (by decide) ?_
    refine lv_istore_n (lv' := [(3, .int (nI 0)), (2, .int (nI (q / 2))), (0, .int (nI q)), (1, .int (nI k))]) hx hb dX7_compared_13 rfl hl (by decide) rfl (fun ls hl => ?_)
    refine lv_iload_n hx hb dX7_compared_14 rfl (lv_at hl 1 rfl) ?_
    refine lv_iconst (v := (nI 2)) hx hb dX7_compared_15 (by decide) ?_
    refine ln_icmp_ne (tgt := 23) hx hb dX7_compared_16 (by decide) (by omega) (by decide) (fun h2 => ?_) (fun h2 => ?_)
    · refine lv_iconst (v := (nI 2)) hx hb dX7_compared_23 (by decide) ?_
      refine lv_istore (lv' := [(4, .int (nI 2)), (3, .int (nI 0)), (2, .int (nI (q / 2))), (0, .int (nI q)), (1, .int (nI k))]) hx hb dX7_compared_24 hl (by decide) rfl (fun ls hl => ?_)
      refine lv_iload_n hx hb dX7_compared_26 rfl (lv_at hl 4 rfl) ?_
      refine ln_if_ne (tgt := 34) hx hb dX7_compared_27 (by decide) (by omega) (fun h3 => ?_) (fun h3 => ?_)
      · refine lv_iload_n hx hb dX7_compared_34 rfl (lv_at hl 3 rfl) ?_
        refine lv_iconst (v := (nI 2)) hx hb dX7_compared_35 (by decide) ?_
        refine ln_irem hx hb dX7_compared_36 (by omega) (by decide) (by decide) ?_
        refine ln_if_ne (tgt := 44) hx hb dX7_compared_37 (by decide) (by omega) (fun h4 => ?_) (fun h4 => ?_)
        · refine lv_iconst (v := (nI 0)) hx hb dX7_compared_44 (by decide) ?_
          refine lv_iload_n hx hb dX7_compared_45 rfl (lv_at hl 4 rfl) ?_
          refine lv_iconst (v := (nI 1)) hx hb dX7_compared_46 (by decide) ?_
          refine ln_icmp_ne (tgt := 54) hx hb dX7_compared_47 (by decide) (by omega) (by decide) (fun h5 => ?_) (fun h5 => ?_)
          · refine lv_iconst (v := (nI 0)) hx hb dX7_compared_54 (by decide) ?_
            refine lv_icmp_ne (tgt := 62) hx hb dX7_compared_55 (by decide) (fun h9 => False.elim (by revert h9; decide)) (fun _ => ?_)
            refine lv_iload_n hx hb dX7_compared_58 rfl (lv_at hl 1 rfl) ?_
            refine lv_goto (tgt := 64) hx hb dX7_compared_59 (by decide) ?_
            exact ro_iret hx hb hr hlk dX7_compared_64 (congrArg nI (by rcases (show q = 0 ∨ q = 1 ∨ q = 2 ∨ q = 3 ∨ q = 4 ∨ q = 5 by omega) with rfl | rfl | rfl | rfl | rfl | rfl <;> rcases (show k = 0 ∨ k = 1 ∨ k = 2 by omega) with rfl | rfl | rfl <;> first | rfl | (exfalso; omega)))
          · refine lv_iconst (v := (nI 1)) hx hb dX7_compared_50 (by decide) ?_
            refine lv_goto (tgt := 55) hx hb dX7_compared_51 (by decide) ?_
            refine lv_icmp_ne (tgt := 62) hx hb dX7_compared_55 (by decide) (fun _ => ?_) (fun h9 => False.elim (by revert h9; decide))
            refine lv_iload hx hb dX7_compared_62 (lv_at hl 0 rfl) ?_
            exact ro_iret hx hb hr hlk dX7_compared_64 (congrArg nI (by rcases (show q = 0 ∨ q = 1 ∨ q = 2 ∨ q = 3 ∨ q = 4 ∨ q = 5 by omega) with rfl | rfl | rfl | rfl | rfl | rfl <;> rcases (show k = 0 ∨ k = 1 ∨ k = 2 by omega) with rfl | rfl | rfl <;> first | rfl | (exfalso; omega)))
        · refine lv_iconst (v := (nI 1)) hx hb dX7_compared_40 (by decide) ?_
          refine lv_goto (tgt := 45) hx hb dX7_compared_41 (by decide) ?_
          refine lv_iload_n hx hb dX7_compared_45 rfl (lv_at hl 4 rfl) ?_
          refine lv_iconst (v := (nI 1)) hx hb dX7_compared_46 (by decide) ?_
          refine ln_icmp_ne (tgt := 54) hx hb dX7_compared_47 (by decide) (by omega) (by decide) (fun h6 => ?_) (fun h6 => ?_)
          · refine lv_iconst (v := (nI 0)) hx hb dX7_compared_54 (by decide) ?_
            refine lv_icmp_ne (tgt := 62) hx hb dX7_compared_55 (by decide) (fun _ => ?_) (fun h9 => False.elim (by revert h9; decide))
            refine lv_iload hx hb dX7_compared_62 (lv_at hl 0 rfl) ?_
            exact ro_iret hx hb hr hlk dX7_compared_64 (congrArg nI (by rcases (show q = 0 ∨ q = 1 ∨ q = 2 ∨ q = 3 ∨ q = 4 ∨ q = 5 by omega) with rfl | rfl | rfl | rfl | rfl | rfl <;> rcases (show k = 0 ∨ k = 1 ∨ k = 2 by omega) with rfl | rfl | rfl <;> first | rfl | (exfalso; omega)))
          · refine lv_iconst (v := (nI 1)) hx hb dX7_compared_50 (by decide) ?_
            refine lv_goto (tgt := 55) hx hb dX7_compared_51 (by decide) ?_
            refine lv_icmp_ne (tgt := 62) hx hb dX7_compared_55 (by decide) (fun h9 => False.elim (by revert h9; decide)) (fun _ => ?_)
            refine lv_iload_n hx hb dX7_compared_58 rfl (lv_at hl 1 rfl) ?_
            refine lv_goto (tgt := 64) hx hb dX7_compared_59 (by decide) ?_
            exact ro_iret hx hb hr hlk dX7_compared_64 (congrArg nI (by rcases (show q = 0 ∨ q = 1 ∨ q = 2 ∨ q = 3 ∨ q = 4 ∨ q = 5 by omega) with rfl | rfl | rfl | rfl | rfl | rfl <;> rcases (show k = 0 ∨ k = 1 ∨ k = 2 by omega) with rfl | rfl | rfl <;> first | rfl | (exfalso; omega)))
      · refine lv_iload_n hx hb dX7_compared_30 rfl (lv_at hl 2 rfl) ?_
        refine lv_goto (tgt := 64) hx hb dX7_compared_31 (by decide) ?_
        exact ro_iret hx hb hr hlk dX7_compared_64 (congrArg nI (by rcases (show q = 0 ∨ q = 1 ∨ q = 2 ∨ q = 3 ∨ q = 4 ∨ q = 5 by omega) with rfl | rfl | rfl | rfl | rfl | rfl <;> rcases (show k = 0 ∨ k = 1 ∨ k = 2 by omega) with rfl | rfl | rfl <;> first | rfl | (exfalso; omega)))
    · refine lv_iconst (v := (nI 1)) hx hb dX7_compared_19 (by decide) ?_
      refine lv_goto (tgt := 24) hx hb dX7_compared_20 (by decide) ?_
      refine lv_istore (lv' := [(4, .int (nI 1)), (3, .int (nI 0)), (2, .int (nI (q / 2))), (0, .int (nI q)), (1, .int (nI k))]) hx hb dX7_compared_24 hl (by decide) rfl (fun ls hl => ?_)
      refine lv_iload_n hx hb dX7_compared_26 rfl (lv_at hl 4 rfl) ?_
      refine ln_if_ne (tgt := 34) hx hb dX7_compared_27 (by decide) (by omega) (fun h7 => ?_) (fun h7 => ?_)
      · refine lv_iload_n hx hb dX7_compared_34 rfl (lv_at hl 3 rfl) ?_
        refine lv_iconst (v := (nI 2)) hx hb dX7_compared_35 (by decide) ?_
        refine ln_irem hx hb dX7_compared_36 (by omega) (by decide) (by decide) ?_
        refine ln_if_ne (tgt := 44) hx hb dX7_compared_37 (by decide) (by omega) (fun h8 => ?_) (fun h8 => ?_)
        · refine lv_iconst (v := (nI 0)) hx hb dX7_compared_44 (by decide) ?_
          refine lv_iload_n hx hb dX7_compared_45 rfl (lv_at hl 4 rfl) ?_
          refine lv_iconst (v := (nI 1)) hx hb dX7_compared_46 (by decide) ?_
          refine ln_icmp_ne (tgt := 54) hx hb dX7_compared_47 (by decide) (by omega) (by decide) (fun h9 => ?_) (fun h9 => ?_)
          · refine lv_iconst (v := (nI 0)) hx hb dX7_compared_54 (by decide) ?_
            refine lv_icmp_ne (tgt := 62) hx hb dX7_compared_55 (by decide) (fun h9 => False.elim (by revert h9; decide)) (fun _ => ?_)
            refine lv_iload_n hx hb dX7_compared_58 rfl (lv_at hl 1 rfl) ?_
            refine lv_goto (tgt := 64) hx hb dX7_compared_59 (by decide) ?_
            exact ro_iret hx hb hr hlk dX7_compared_64 (congrArg nI (by rcases (show q = 0 ∨ q = 1 ∨ q = 2 ∨ q = 3 ∨ q = 4 ∨ q = 5 by omega) with rfl | rfl | rfl | rfl | rfl | rfl <;> rcases (show k = 0 ∨ k = 1 ∨ k = 2 by omega) with rfl | rfl | rfl <;> first | rfl | (exfalso; omega)))
          · refine lv_iconst (v := (nI 1)) hx hb dX7_compared_50 (by decide) ?_
            refine lv_goto (tgt := 55) hx hb dX7_compared_51 (by decide) ?_
            refine lv_icmp_ne (tgt := 62) hx hb dX7_compared_55 (by decide) (fun _ => ?_) (fun h9 => False.elim (by revert h9; decide))
            refine lv_iload hx hb dX7_compared_62 (lv_at hl 0 rfl) ?_
            exact ro_iret hx hb hr hlk dX7_compared_64 (congrArg nI (by rcases (show q = 0 ∨ q = 1 ∨ q = 2 ∨ q = 3 ∨ q = 4 ∨ q = 5 by omega) with rfl | rfl | rfl | rfl | rfl | rfl <;> rcases (show k = 0 ∨ k = 1 ∨ k = 2 by omega) with rfl | rfl | rfl <;> first | rfl | (exfalso; omega)))
        · refine lv_iconst (v := (nI 1)) hx hb dX7_compared_40 (by decide) ?_
          refine lv_goto (tgt := 45) hx hb dX7_compared_41 (by decide) ?_
          refine lv_iload_n hx hb dX7_compared_45 rfl (lv_at hl 4 rfl) ?_
          refine lv_iconst (v := (nI 1)) hx hb dX7_compared_46 (by decide) ?_
          refine ln_icmp_ne (tgt := 54) hx hb dX7_compared_47 (by decide) (by omega) (by decide) (fun h10 => ?_) (fun h10 => ?_)
          · refine lv_iconst (v := (nI 0)) hx hb dX7_compared_54 (by decide) ?_
            refine lv_icmp_ne (tgt := 62) hx hb dX7_compared_55 (by decide) (fun _ => ?_) (fun h9 => False.elim (by revert h9; decide))
            refine lv_iload hx hb dX7_compared_62 (lv_at hl 0 rfl) ?_
            exact ro_iret hx hb hr hlk dX7_compared_64 (congrArg nI (by rcases (show q = 0 ∨ q = 1 ∨ q = 2 ∨ q = 3 ∨ q = 4 ∨ q = 5 by omega) with rfl | rfl | rfl | rfl | rfl | rfl <;> rcases (show k = 0 ∨ k = 1 ∨ k = 2 by omega) with rfl | rfl | rfl <;> first | rfl | (exfalso; omega)))
          · refine lv_iconst (v := (nI 1)) hx hb dX7_compared_50 (by decide) ?_
            refine lv_goto (tgt := 55) hx hb dX7_compared_51 (by decide) ?_
            refine lv_icmp_ne (tgt := 62) hx hb dX7_compared_55 (by decide) (fun h9 => False.elim (by revert h9; decide)) (fun _ => ?_)
            refine lv_iload_n hx hb dX7_compared_58 rfl (lv_at hl 1 rfl) ?_
            refine lv_goto (tgt := 64) hx hb dX7_compared_59 (by decide) ?_
            exact ro_iret hx hb hr hlk dX7_compared_64 (congrArg nI (by rcases (show q = 0 ∨ q = 1 ∨ q = 2 ∨ q = 3 ∨ q = 4 ∨ q = 5 by omega) with rfl | rfl | rfl | rfl | rfl | rfl <;> rcases (show k = 0 ∨ k = 1 ∨ k = 2 by omega) with rfl | rfl | rfl <;> first | rfl | (exfalso; omega)))
      · refine lv_iload_n hx hb dX7_compared_30 rfl (lv_at hl 2 rfl) ?_
        refine lv_goto (tgt := 64) hx hb dX7_compared_31 (by decide) ?_
        exact ro_iret hx hb hr hlk dX7_compared_64 (congrArg nI (by rcases (show q = 0 ∨ q = 1 ∨ q = 2 ∨ q = 3 ∨ q = 4 ∨ q = 5 by omega) with rfl | rfl | rfl | rfl | rfl | rfl <;> rcases (show k = 0 ∨ k = 1 ∨ k = 2 by omega) with rfl | rfl | rfl <;> first | rfl | (exfalso; omega)))
  · refine lv_iconst (v := (nI 1)) hx hb dX7_compared_8 (by decide) ?_
    refine lv_goto (tgt := 13) hx hb dX7_compared_9 (by decide) ?_
    refine lv_istore_n (lv' := [(3, .int (nI 1)), (2, .int (nI (q / 2))), (0, .int (nI q)), (1, .int (nI k))]) hx hb dX7_compared_13 rfl hl (by decide) rfl (fun ls hl => ?_)
    refine lv_iload_n hx hb dX7_compared_14 rfl (lv_at hl 1 rfl) ?_
    refine lv_iconst (v := (nI 2)) hx hb dX7_compared_15 (by decide) ?_
    refine ln_icmp_ne (tgt := 23) hx hb dX7_compared_16 (by decide) (by omega) (by decide) (fun h11 => ?_) (fun h11 => ?_)
    · refine lv_iconst (v := (nI 2)) hx hb dX7_compared_23 (by decide) ?_
      refine lv_istore (lv' := [(4, .int (nI 2)), (3, .int (nI 1)), (2, .int (nI (q / 2))), (0, .int (nI q)), (1, .int (nI k))]) hx hb dX7_compared_24 hl (by decide) rfl (fun ls hl => ?_)
      refine lv_iload_n hx hb dX7_compared_26 rfl (lv_at hl 4 rfl) ?_
      refine ln_if_ne (tgt := 34) hx hb dX7_compared_27 (by decide) (by omega) (fun h12 => ?_) (fun h12 => ?_)
      · refine lv_iload_n hx hb dX7_compared_34 rfl (lv_at hl 3 rfl) ?_
        refine lv_iconst (v := (nI 2)) hx hb dX7_compared_35 (by decide) ?_
        refine ln_irem hx hb dX7_compared_36 (by omega) (by decide) (by decide) ?_
        refine ln_if_ne (tgt := 44) hx hb dX7_compared_37 (by decide) (by omega) (fun h13 => ?_) (fun h13 => ?_)
        · refine lv_iconst (v := (nI 0)) hx hb dX7_compared_44 (by decide) ?_
          refine lv_iload_n hx hb dX7_compared_45 rfl (lv_at hl 4 rfl) ?_
          refine lv_iconst (v := (nI 1)) hx hb dX7_compared_46 (by decide) ?_
          refine ln_icmp_ne (tgt := 54) hx hb dX7_compared_47 (by decide) (by omega) (by decide) (fun h14 => ?_) (fun h14 => ?_)
          · refine lv_iconst (v := (nI 0)) hx hb dX7_compared_54 (by decide) ?_
            refine lv_icmp_ne (tgt := 62) hx hb dX7_compared_55 (by decide) (fun h9 => False.elim (by revert h9; decide)) (fun _ => ?_)
            refine lv_iload_n hx hb dX7_compared_58 rfl (lv_at hl 1 rfl) ?_
            refine lv_goto (tgt := 64) hx hb dX7_compared_59 (by decide) ?_
            exact ro_iret hx hb hr hlk dX7_compared_64 (congrArg nI (by rcases (show q = 0 ∨ q = 1 ∨ q = 2 ∨ q = 3 ∨ q = 4 ∨ q = 5 by omega) with rfl | rfl | rfl | rfl | rfl | rfl <;> rcases (show k = 0 ∨ k = 1 ∨ k = 2 by omega) with rfl | rfl | rfl <;> first | rfl | (exfalso; omega)))
          · refine lv_iconst (v := (nI 1)) hx hb dX7_compared_50 (by decide) ?_
            refine lv_goto (tgt := 55) hx hb dX7_compared_51 (by decide) ?_
            refine lv_icmp_ne (tgt := 62) hx hb dX7_compared_55 (by decide) (fun _ => ?_) (fun h9 => False.elim (by revert h9; decide))
            refine lv_iload hx hb dX7_compared_62 (lv_at hl 0 rfl) ?_
            exact ro_iret hx hb hr hlk dX7_compared_64 (congrArg nI (by rcases (show q = 0 ∨ q = 1 ∨ q = 2 ∨ q = 3 ∨ q = 4 ∨ q = 5 by omega) with rfl | rfl | rfl | rfl | rfl | rfl <;> rcases (show k = 0 ∨ k = 1 ∨ k = 2 by omega) with rfl | rfl | rfl <;> first | rfl | (exfalso; omega)))
        · refine lv_iconst (v := (nI 1)) hx hb dX7_compared_40 (by decide) ?_
          refine lv_goto (tgt := 45) hx hb dX7_compared_41 (by decide) ?_
          refine lv_iload_n hx hb dX7_compared_45 rfl (lv_at hl 4 rfl) ?_
          refine lv_iconst (v := (nI 1)) hx hb dX7_compared_46 (by decide) ?_
          refine ln_icmp_ne (tgt := 54) hx hb dX7_compared_47 (by decide) (by omega) (by decide) (fun h15 => ?_) (fun h15 => ?_)
          · refine lv_iconst (v := (nI 0)) hx hb dX7_compared_54 (by decide) ?_
            refine lv_icmp_ne (tgt := 62) hx hb dX7_compared_55 (by decide) (fun _ => ?_) (fun h9 => False.elim (by revert h9; decide))
            refine lv_iload hx hb dX7_compared_62 (lv_at hl 0 rfl) ?_
            exact ro_iret hx hb hr hlk dX7_compared_64 (congrArg nI (by rcases (show q = 0 ∨ q = 1 ∨ q = 2 ∨ q = 3 ∨ q = 4 ∨ q = 5 by omega) with rfl | rfl | rfl | rfl | rfl | rfl <;> rcases (show k = 0 ∨ k = 1 ∨ k = 2 by omega) with rfl | rfl | rfl <;> first | rfl | (exfalso; omega)))
          · refine lv_iconst (v := (nI 1)) hx hb dX7_compared_50 (by decide) ?_
            refine lv_goto (tgt := 55) hx hb dX7_compared_51 (by decide) ?_
            refine lv_icmp_ne (tgt := 62) hx hb dX7_compared_55 (by decide) (fun h9 => False.elim (by revert h9; decide)) (fun _ => ?_)
            refine lv_iload_n hx hb dX7_compared_58 rfl (lv_at hl 1 rfl) ?_
            refine lv_goto (tgt := 64) hx hb dX7_compared_59 (by decide) ?_
            exact ro_iret hx hb hr hlk dX7_compared_64 (congrArg nI (by rcases (show q = 0 ∨ q = 1 ∨ q = 2 ∨ q = 3 ∨ q = 4 ∨ q = 5 by omega) with rfl | rfl | rfl | rfl | rfl | rfl <;> rcases (show k = 0 ∨ k = 1 ∨ k = 2 by omega) with rfl | rfl | rfl <;> first | rfl | (exfalso; omega)))
      · refine lv_iload_n hx hb dX7_compared_30 rfl (lv_at hl 2 rfl) ?_
        refine lv_goto (tgt := 64) hx hb dX7_compared_31 (by decide) ?_
        exact ro_iret hx hb hr hlk dX7_compared_64 (congrArg nI (by rcases (show q = 0 ∨ q = 1 ∨ q = 2 ∨ q = 3 ∨ q = 4 ∨ q = 5 by omega) with rfl | rfl | rfl | rfl | rfl | rfl <;> rcases (show k = 0 ∨ k = 1 ∨ k = 2 by omega) with rfl | rfl | rfl <;> first | rfl | (exfalso; omega)))
    · refine lv_iconst (v := (nI 1)) hx hb dX7_compared_19 (by decide) ?_
      refine lv_goto (tgt := 24) hx hb dX7_compared_20 (by decide) ?_
      refine lv_istore (lv' := [(4, .int (nI 1)), (3, .int (nI 1)), (2, .int (nI (q / 2))), (0, .int (nI q)), (1, .int (nI k))]) hx hb dX7_compared_24 hl (by decide) rfl (fun ls hl => ?_)
      refine lv_iload_n hx hb dX7_compared_26 rfl (lv_at hl 4 rfl) ?_
      refine ln_if_ne (tgt := 34) hx hb dX7_compared_27 (by decide) (by omega) (fun h16 => ?_) (fun h16 => ?_)
      · refine lv_iload_n hx hb dX7_compared_34 rfl (lv_at hl 3 rfl) ?_
        refine lv_iconst (v := (nI 2)) hx hb dX7_compared_35 (by decide) ?_
        refine ln_irem hx hb dX7_compared_36 (by omega) (by decide) (by decide) ?_
        refine ln_if_ne (tgt := 44) hx hb dX7_compared_37 (by decide) (by omega) (fun h17 => ?_) (fun h17 => ?_)
        · refine lv_iconst (v := (nI 0)) hx hb dX7_compared_44 (by decide) ?_
          refine lv_iload_n hx hb dX7_compared_45 rfl (lv_at hl 4 rfl) ?_
          refine lv_iconst (v := (nI 1)) hx hb dX7_compared_46 (by decide) ?_
          refine ln_icmp_ne (tgt := 54) hx hb dX7_compared_47 (by decide) (by omega) (by decide) (fun h18 => ?_) (fun h18 => ?_)
          · refine lv_iconst (v := (nI 0)) hx hb dX7_compared_54 (by decide) ?_
            refine lv_icmp_ne (tgt := 62) hx hb dX7_compared_55 (by decide) (fun h9 => False.elim (by revert h9; decide)) (fun _ => ?_)
            refine lv_iload_n hx hb dX7_compared_58 rfl (lv_at hl 1 rfl) ?_
            refine lv_goto (tgt := 64) hx hb dX7_compared_59 (by decide) ?_
            exact ro_iret hx hb hr hlk dX7_compared_64 (congrArg nI (by rcases (show q = 0 ∨ q = 1 ∨ q = 2 ∨ q = 3 ∨ q = 4 ∨ q = 5 by omega) with rfl | rfl | rfl | rfl | rfl | rfl <;> rcases (show k = 0 ∨ k = 1 ∨ k = 2 by omega) with rfl | rfl | rfl <;> first | rfl | (exfalso; omega)))
          · refine lv_iconst (v := (nI 1)) hx hb dX7_compared_50 (by decide) ?_
            refine lv_goto (tgt := 55) hx hb dX7_compared_51 (by decide) ?_
            refine lv_icmp_ne (tgt := 62) hx hb dX7_compared_55 (by decide) (fun _ => ?_) (fun h9 => False.elim (by revert h9; decide))
            refine lv_iload hx hb dX7_compared_62 (lv_at hl 0 rfl) ?_
            exact ro_iret hx hb hr hlk dX7_compared_64 (congrArg nI (by rcases (show q = 0 ∨ q = 1 ∨ q = 2 ∨ q = 3 ∨ q = 4 ∨ q = 5 by omega) with rfl | rfl | rfl | rfl | rfl | rfl <;> rcases (show k = 0 ∨ k = 1 ∨ k = 2 by omega) with rfl | rfl | rfl <;> first | rfl | (exfalso; omega)))
        · refine lv_iconst (v := (nI 1)) hx hb dX7_compared_40 (by decide) ?_
          refine lv_goto (tgt := 45) hx hb dX7_compared_41 (by decide) ?_
          refine lv_iload_n hx hb dX7_compared_45 rfl (lv_at hl 4 rfl) ?_
          refine lv_iconst (v := (nI 1)) hx hb dX7_compared_46 (by decide) ?_
          refine ln_icmp_ne (tgt := 54) hx hb dX7_compared_47 (by decide) (by omega) (by decide) (fun h19 => ?_) (fun h19 => ?_)
          · refine lv_iconst (v := (nI 0)) hx hb dX7_compared_54 (by decide) ?_
            refine lv_icmp_ne (tgt := 62) hx hb dX7_compared_55 (by decide) (fun _ => ?_) (fun h9 => False.elim (by revert h9; decide))
            refine lv_iload hx hb dX7_compared_62 (lv_at hl 0 rfl) ?_
            exact ro_iret hx hb hr hlk dX7_compared_64 (congrArg nI (by rcases (show q = 0 ∨ q = 1 ∨ q = 2 ∨ q = 3 ∨ q = 4 ∨ q = 5 by omega) with rfl | rfl | rfl | rfl | rfl | rfl <;> rcases (show k = 0 ∨ k = 1 ∨ k = 2 by omega) with rfl | rfl | rfl <;> first | rfl | (exfalso; omega)))
          · refine lv_iconst (v := (nI 1)) hx hb dX7_compared_50 (by decide) ?_
            refine lv_goto (tgt := 55) hx hb dX7_compared_51 (by decide) ?_
            refine lv_icmp_ne (tgt := 62) hx hb dX7_compared_55 (by decide) (fun h9 => False.elim (by revert h9; decide)) (fun _ => ?_)
            refine lv_iload_n hx hb dX7_compared_58 rfl (lv_at hl 1 rfl) ?_
            refine lv_goto (tgt := 64) hx hb dX7_compared_59 (by decide) ?_
            exact ro_iret hx hb hr hlk dX7_compared_64 (congrArg nI (by rcases (show q = 0 ∨ q = 1 ∨ q = 2 ∨ q = 3 ∨ q = 4 ∨ q = 5 by omega) with rfl | rfl | rfl | rfl | rfl | rfl <;> rcases (show k = 0 ∨ k = 1 ∨ k = 2 by omega) with rfl | rfl | rfl <;> first | rfl | (exfalso; omega)))
      · refine lv_iload_n hx hb dX7_compared_30 rfl (lv_at hl 2 rfl) ?_
        refine lv_goto (tgt := 64) hx hb dX7_compared_31 (by decide) ?_
        exact ro_iret hx hb hr hlk dX7_compared_64 (congrArg nI (by rcases (show q = 0 ∨ q = 1 ∨ q = 2 ∨ q = 3 ∨ q = 4 ∨ q = 5 by omega) with rfl | rfl | rfl | rfl | rfl | rfl <;> rcases (show k = 0 ∨ k = 1 ∨ k = 2 by omega) with rfl | rfl | rfl <;> first | rfl | (exfalso; omega)))
set_option maxHeartbeats 4000000 in
set_option maxRecDepth 100000 in
theorem c7_keyOf (l : Launch) (D : va_G) (tc : Nat → ClassId) (zb : Nat) (t q : Nat) (ht : t < 1000) (hq : q < 6) : RO l yX7_keyOf wsX7_keyOf 1 24 D tc zb [] [.int (nI t), .int (nI q)] (.int (nI (k_rk t q))) := by
  refine RO.of (cc := cX7_keyOf) (maxL := 2) (ret := (some .int)) (by decide) rfl (Nat.le_of_ble_eq_true rfl) ?_
  intro p e s m args below meth c hx hb hr hml hlk hts hown hM hS hP ls hl
  have hl : lv_has ls 2 [(0, .int (nI t)), (1, .int (nI q))] := hl
  refine lv_bipush (v := (nI 100)) hx hb dX7_keyOf_0 (by decide) ?_
  refine lv_iload_n hx hb dX7_keyOf_2 rfl (lv_at hl 0 rfl) ?_
  refine lv_iload_n hx hb dX7_keyOf_3 rfl (lv_at hl 1 rfl) ?_
  refine lv_iconst (v := (nI 0)) hx hb dX7_keyOf_4 (by decide) ?_
  refine ro_S (n := 2) ⟨hx, hb, hml, hown, hts⟩ hM hS hP (c7_compared l D tc zb q 0 (by omega) (by omega)) gX7_keyOf_X7_compared rfl (by decide +kernel) ⟨Nat.le_of_ble_eq_true rfl, Nat.le_of_ble_eq_true rfl⟩ [] rfl rfl hl.1 rfl (Nat.le_of_ble_eq_true rfl) dX7_keyOf_5 ⟨Nat.le_refl _, Nat.le_refl _⟩ ?_
  have hf1 := byf_lt (3 * q + 0)
  refine ro_S (n := 2) ⟨hx, hb, hml, hown, hts⟩ hM hS hP (c7_partOf l D tc zb t (byf (3 * q + 0)) (by first | omega | exact ok4 _ (by omega)) (by first | omega | exact byf_lt _)) gX7_keyOf_X7_partOf rfl (by decide +kernel) ⟨Nat.le_of_ble_eq_true rfl, Nat.le_of_ble_eq_true rfl⟩ [] rfl rfl hl.1 rfl (Nat.le_of_ble_eq_true rfl) dX7_keyOf_8 ⟨Nat.le_refl _, Nat.le_refl _⟩ ?_
  have hf2 := show k_pt t (byf (3 * q + 0)) ≤ 9 from k_pt_le (by first | omega | exact ok4 _ (by omega))
  refine ln_imul hx hb dX7_keyOf_11 ?_
  refine lv_bipush (v := (nI 10)) hx hb dX7_keyOf_12 (by decide) ?_
  refine lv_iload_n hx hb dX7_keyOf_14 rfl (lv_at hl 0 rfl) ?_
  refine lv_iload_n hx hb dX7_keyOf_15 rfl (lv_at hl 1 rfl) ?_
  refine lv_iconst (v := (nI 1)) hx hb dX7_keyOf_16 (by decide) ?_
  refine ro_S (n := 2) ⟨hx, hb, hml, hown, hts⟩ hM hS hP (c7_compared l D tc zb q 1 (by omega) (by omega)) gX7_keyOf_X7_compared rfl (by decide +kernel) ⟨Nat.le_of_ble_eq_true rfl, Nat.le_of_ble_eq_true rfl⟩ [] rfl rfl hl.1 rfl (Nat.le_of_ble_eq_true rfl) dX7_keyOf_17 ⟨Nat.le_refl _, Nat.le_refl _⟩ ?_
  have hf3 := byf_lt (3 * q + 1)
  refine ro_S (n := 2) ⟨hx, hb, hml, hown, hts⟩ hM hS hP (c7_partOf l D tc zb t (byf (3 * q + 1)) (by first | omega | exact ok4 _ (by omega)) (by first | omega | exact byf_lt _)) gX7_keyOf_X7_partOf rfl (by decide +kernel) ⟨Nat.le_of_ble_eq_true rfl, Nat.le_of_ble_eq_true rfl⟩ [] rfl rfl hl.1 rfl (Nat.le_of_ble_eq_true rfl) dX7_keyOf_20 ⟨Nat.le_refl _, Nat.le_refl _⟩ ?_
  have hf4 := show k_pt t (byf (3 * q + 1)) ≤ 9 from k_pt_le (by first | omega | exact ok4 _ (by omega))
  refine ln_imul hx hb dX7_keyOf_23 ?_
  refine ln_iadd hx hb dX7_keyOf_24 ?_
  refine lv_iload_n hx hb dX7_keyOf_25 rfl (lv_at hl 0 rfl) ?_
  refine lv_iload_n hx hb dX7_keyOf_26 rfl (lv_at hl 1 rfl) ?_
  refine lv_iconst (v := (nI 2)) hx hb dX7_keyOf_27 (by decide) ?_
  refine ro_S (n := 2) ⟨hx, hb, hml, hown, hts⟩ hM hS hP (c7_compared l D tc zb q 2 (by omega) (by omega)) gX7_keyOf_X7_compared rfl (by decide +kernel) ⟨Nat.le_of_ble_eq_true rfl, Nat.le_of_ble_eq_true rfl⟩ [] rfl rfl hl.1 rfl (Nat.le_of_ble_eq_true rfl) dX7_keyOf_28 ⟨Nat.le_refl _, Nat.le_refl _⟩ ?_
  have hf5 := byf_lt (3 * q + 2)
  refine ro_S (n := 2) ⟨hx, hb, hml, hown, hts⟩ hM hS hP (c7_partOf l D tc zb t (byf (3 * q + 2)) (by first | omega | exact ok4 _ (by omega)) (by first | omega | exact byf_lt _)) gX7_keyOf_X7_partOf rfl (by decide +kernel) ⟨Nat.le_of_ble_eq_true rfl, Nat.le_of_ble_eq_true rfl⟩ [] rfl rfl hl.1 rfl (Nat.le_of_ble_eq_true rfl) dX7_keyOf_31 ⟨Nat.le_refl _, Nat.le_refl _⟩ ?_
  have hf6 := show k_pt t (byf (3 * q + 2)) ≤ 9 from k_pt_le (by first | omega | exact ok4 _ (by omega))
  refine ln_iadd hx hb dX7_keyOf_34 ?_
  exact ro_iret hx hb hr hlk dX7_keyOf_35 (congrArg nI (by unfold k_rk; omega))
set_option maxHeartbeats 4000000 in
set_option maxRecDepth 100000 in
theorem c7_digitOf (l : Launch) (D : va_G) (tc : Nat → ClassId) (zb : Nat) (x cc9 : Nat) (hx9 : x < 1331) (hc : cc9 < 3) : RO l yX7_digitOf wsX7_digitOf 0 0 D tc zb [] [.int (nI x), .int (nI cc9)] (.int (nI (k_dg x cc9))) := by
  refine RO.of (cc := cX7_digitOf) (maxL := 2) (ret := (some .int)) (by decide) rfl (Nat.le_of_ble_eq_true rfl) ?_
  intro p e s m args below meth c hx hb hr hml hlk hts hown hM hS hP ls hl
  have hl : lv_has ls 2 [(0, .int (nI x)), (1, .int (nI cc9))] := hl
  refine lv_iload_n hx hb dX7_digitOf_0 rfl (lv_at hl 1 rfl) ?_
  refine ln_if_ne (tgt := 11) hx hb dX7_digitOf_1 (by decide) (by omega) (fun h1 => ?_) (fun h1 => ?_)
  · refine lv_iload_n hx hb dX7_digitOf_11 rfl (lv_at hl 1 rfl) ?_
    refine lv_iconst (v := (nI 1)) hx hb dX7_digitOf_12 (by decide) ?_
    refine ln_icmp_ne (tgt := 26) hx hb dX7_digitOf_13 (by decide) (by omega) (by decide) (fun h2 => ?_) (fun h2 => ?_)
    · refine lv_iload_n hx hb dX7_digitOf_26 rfl (lv_at hl 0 rfl) ?_
      refine lv_bipush (v := (nI 11)) hx hb dX7_digitOf_27 (by decide) ?_
      refine ln_irem hx hb dX7_digitOf_29 (by omega) (by decide) (by decide) ?_
      exact ro_iret hx hb hr hlk dX7_digitOf_30 (congrArg nI (by unfold k_dg; (repeat' split) <;> omega))
    · refine lv_iload_n hx hb dX7_digitOf_16 rfl (lv_at hl 0 rfl) ?_
      refine lv_bipush (v := (nI 11)) hx hb dX7_digitOf_17 (by decide) ?_
      refine ln_idiv hx hb dX7_digitOf_19 (by omega) (by decide) (by decide) ?_
      refine lv_bipush (v := (nI 11)) hx hb dX7_digitOf_20 (by decide) ?_
      refine ln_irem hx hb dX7_digitOf_22 (by omega) (by decide) (by decide) ?_
      refine lv_goto (tgt := 30) hx hb dX7_digitOf_23 (by decide) ?_
      exact ro_iret hx hb hr hlk dX7_digitOf_30 (congrArg nI (by unfold k_dg; (repeat' split) <;> omega))
  · refine lv_iload_n hx hb dX7_digitOf_4 rfl (lv_at hl 0 rfl) ?_
    refine lv_bipush (v := (nI 121)) hx hb dX7_digitOf_5 (by decide) ?_
    refine ln_idiv hx hb dX7_digitOf_7 (by omega) (by decide) (by decide) ?_
    refine lv_goto (tgt := 30) hx hb dX7_digitOf_8 (by decide) ?_
    exact ro_iret hx hb hr hlk dX7_digitOf_30 (congrArg nI (by unfold k_dg; (repeat' split) <;> omega))
set_option maxHeartbeats 4000000 in
set_option maxRecDepth 100000 in
theorem c7_isFree (l : Launch) (D : va_G) (tc : Nat → ClassId) (zb : Nat) (x cc9 : Nat) (hx9 : x < 1331) (hc : cc9 < 3) : RO l yX7_isFree wsX7_isFree 1 21 D tc zb [] [.int (nI x), .int (nI cc9)] (.int (bI (decide (k_dg x cc9 = 10)))) := by
  refine RO.of (cc := cX7_isFree) (maxL := 2) (ret := (some .boolean)) (by decide) rfl (Nat.le_of_ble_eq_true rfl) ?_
  intro p e s m args below meth c hx hb hr hml hlk hts hown hM hS hP ls hl
  have hl : lv_has ls 2 [(0, .int (nI x)), (1, .int (nI cc9))] := hl
  refine lv_iload_n hx hb dX7_isFree_0 rfl (lv_at hl 0 rfl) ?_
  refine lv_iload_n hx hb dX7_isFree_1 rfl (lv_at hl 1 rfl) ?_
  refine ro_S (n := 2) ⟨hx, hb, hml, hown, hts⟩ hM hS hP (c7_digitOf l D tc zb x cc9 (by first | omega | exact ok5 _ (by omega)) (by first | omega | exact byf_lt _)) gX7_isFree_X7_digitOf rfl (by decide +kernel) ⟨Nat.le_of_ble_eq_true rfl, Nat.le_of_ble_eq_true rfl⟩ [] rfl rfl hl.1 rfl (Nat.le_of_ble_eq_true rfl) dX7_isFree_2 ⟨Nat.le_refl _, Nat.le_refl _⟩ ?_
  have hf1 := show k_dg x cc9 ≤ 10 from k_dg_le (by first | omega | exact ok5 _ (by omega))
  refine lv_bipush (v := (nI 10)) hx hb dX7_isFree_5 (by decide) ?_
  refine ln_icmp_ne (tgt := 14) hx hb dX7_isFree_7 (by decide) (by omega) (by decide) (fun h2 => ?_) (fun h2 => ?_)
  · refine lv_iconst (v := (nI 0)) hx hb dX7_isFree_14 (by decide) ?_
    exact ro_zret hx hb hr hlk dX7_isFree_15 (show bI false = _ from congrArg bI (by simp [*]))
  · refine lv_iconst (v := (nI 1)) hx hb dX7_isFree_10 (by decide) ?_
    refine lv_goto (tgt := 15) hx hb dX7_isFree_11 (by decide) ?_
    exact ro_zret hx hb hr hlk dX7_isFree_15 (show bI true = _ from congrArg bI (by simp [*]))
set_option maxHeartbeats 4000000 in
set_option maxRecDepth 100000 in
theorem c7_boundOf (l : Launch) (D : va_G) (tc : Nat → ClassId) (zb : Nat) (x : Nat) (hx9 : x < 1331) : RO l yX7_boundOf wsX7_boundOf 2 42 D tc zb [] [.int (nI x)] (.int (nI (k_bnd x))) := by
  refine RO.of (cc := cX7_boundOf) (maxL := 3) (ret := (some .int)) (by decide) rfl (Nat.le_of_ble_eq_true rfl) ?_
  intro p e s m args below meth c hx hb hr hml hlk hts hown hM hS hP ls hl
  have hl : lv_has ls 3 [(0, .int (nI x))] := hl
  refine lv_iconst (v := (nI 0)) hx hb dX7_boundOf_0 (by decide) ?_
  refine lv_istore_n (lv' := [(1, .int (nI 0)), (0, .int (nI x))]) hx hb dX7_boundOf_1 rfl hl (by decide) rfl (fun ls hl => ?_)
  refine lv_iconst (v := (nI 0)) hx hb dX7_boundOf_2 (by decide) ?_
  refine lv_istore_n (lv' := [(2, .int (nI 0)), (1, .int (nI 0)), (0, .int (nI x))]) hx hb dX7_boundOf_3 rfl hl (by decide) rfl (fun ls hl => ?_)
  refine lv_iload_n hx hb dX7_boundOf_4 rfl (lv_at hl 0 rfl) ?_
  refine lv_iconst (v := (nI 3)) hx hb dX7_boundOf_5 (by decide) ?_
  refine lv_icmp_ge (tgt := 31) hx hb dX7_boundOf_6 (by decide) (fun h9 => False.elim (by revert h9; decide)) (fun _ => ?_)
  refine lv_iload_n hx hb dX7_boundOf_9 rfl (lv_at hl 1 rfl) ?_
  refine lv_iload_n hx hb dX7_boundOf_10 rfl (lv_at hl 2 rfl) ?_
  refine lv_iload_n hx hb dX7_boundOf_11 rfl (lv_at hl 0 rfl) ?_
  refine ro_S (n := 2) ⟨hx, hb, hml, hown, hts⟩ hM hS hP (c7_isFree l D tc zb x 0 (by first | omega | exact ok5 _ (by omega)) (by first | omega | exact byf_lt _)) gX7_boundOf_X7_isFree rfl (by decide +kernel) ⟨Nat.le_of_ble_eq_true rfl, Nat.le_of_ble_eq_true rfl⟩ [] rfl rfl hl.1 rfl (Nat.le_of_ble_eq_true rfl) dX7_boundOf_12 ⟨Nat.le_refl _, Nat.le_refl _⟩ ?_
  refine ln_if_eqB (tgt := 22) hx hb dX7_boundOf_15 (by decide) (fun h1 => ?_) (fun h1 => ?_)
  · have h1 := of_decide_eq_false h1
    refine lv_iconst (v := (nI 1)) hx hb dX7_boundOf_22 (by decide) ?_
    refine lv_iadd hx hb dX7_boundOf_23 ?_
    refine ln_eq (x' := (nI 1)) (by decide) ?_
    refine lv_istore_n (lv' := [(1, .int (nI 1)), (2, .int (nI 0)), (0, .int (nI x))]) hx hb dX7_boundOf_24 rfl hl (by decide) rfl (fun ls hl => ?_)
    refine lv_iinc (v := (nI 1)) (lv' := [(2, .int (nI 1)), (1, .int (nI 1)), (0, .int (nI x))]) hx hb dX7_boundOf_25 hl (k := 1) rfl (by decide) (by decide) rfl (fun ls hl => ?_)
    refine lv_goto (tgt := 4) hx hb dX7_boundOf_28 (by decide) ?_
    refine lv_iload_n hx hb dX7_boundOf_4 rfl (lv_at hl 0 rfl) ?_
    refine lv_iconst (v := (nI 3)) hx hb dX7_boundOf_5 (by decide) ?_
    refine lv_icmp_ge (tgt := 31) hx hb dX7_boundOf_6 (by decide) (fun h9 => False.elim (by revert h9; decide)) (fun _ => ?_)
    refine lv_iload_n hx hb dX7_boundOf_9 rfl (lv_at hl 1 rfl) ?_
    refine lv_iload_n hx hb dX7_boundOf_10 rfl (lv_at hl 2 rfl) ?_
    refine lv_iload_n hx hb dX7_boundOf_11 rfl (lv_at hl 0 rfl) ?_
    refine ro_S (n := 2) ⟨hx, hb, hml, hown, hts⟩ hM hS hP (c7_isFree l D tc zb x 1 (by first | omega | exact ok5 _ (by omega)) (by first | omega | exact byf_lt _)) gX7_boundOf_X7_isFree rfl (by decide +kernel) ⟨Nat.le_of_ble_eq_true rfl, Nat.le_of_ble_eq_true rfl⟩ [] rfl rfl hl.1 rfl (Nat.le_of_ble_eq_true rfl) dX7_boundOf_12 ⟨Nat.le_refl _, Nat.le_refl _⟩ ?_
    refine ln_if_eqB (tgt := 22) hx hb dX7_boundOf_15 (by decide) (fun h2 => ?_) (fun h2 => ?_)
    · have h2 := of_decide_eq_false h2
      refine lv_iconst (v := (nI 1)) hx hb dX7_boundOf_22 (by decide) ?_
      refine lv_iadd hx hb dX7_boundOf_23 ?_
      refine ln_eq (x' := (nI 2)) (by decide) ?_
      refine lv_istore_n (lv' := [(1, .int (nI 2)), (2, .int (nI 1)), (0, .int (nI x))]) hx hb dX7_boundOf_24 rfl hl (by decide) rfl (fun ls hl => ?_)
      refine lv_iinc (v := (nI 2)) (lv' := [(2, .int (nI 2)), (1, .int (nI 2)), (0, .int (nI x))]) hx hb dX7_boundOf_25 hl (k := 1) rfl (by decide) (by decide) rfl (fun ls hl => ?_)
      refine lv_goto (tgt := 4) hx hb dX7_boundOf_28 (by decide) ?_
      refine lv_iload_n hx hb dX7_boundOf_4 rfl (lv_at hl 0 rfl) ?_
      refine lv_iconst (v := (nI 3)) hx hb dX7_boundOf_5 (by decide) ?_
      refine lv_icmp_ge (tgt := 31) hx hb dX7_boundOf_6 (by decide) (fun h9 => False.elim (by revert h9; decide)) (fun _ => ?_)
      refine lv_iload_n hx hb dX7_boundOf_9 rfl (lv_at hl 1 rfl) ?_
      refine lv_iload_n hx hb dX7_boundOf_10 rfl (lv_at hl 2 rfl) ?_
      refine lv_iload_n hx hb dX7_boundOf_11 rfl (lv_at hl 0 rfl) ?_
      refine ro_S (n := 2) ⟨hx, hb, hml, hown, hts⟩ hM hS hP (c7_isFree l D tc zb x 2 (by first | omega | exact ok5 _ (by omega)) (by first | omega | exact byf_lt _)) gX7_boundOf_X7_isFree rfl (by decide +kernel) ⟨Nat.le_of_ble_eq_true rfl, Nat.le_of_ble_eq_true rfl⟩ [] rfl rfl hl.1 rfl (Nat.le_of_ble_eq_true rfl) dX7_boundOf_12 ⟨Nat.le_refl _, Nat.le_refl _⟩ ?_
      refine ln_if_eqB (tgt := 22) hx hb dX7_boundOf_15 (by decide) (fun h3 => ?_) (fun h3 => ?_)
      · have h3 := of_decide_eq_false h3
        refine lv_iconst (v := (nI 1)) hx hb dX7_boundOf_22 (by decide) ?_
        refine lv_iadd hx hb dX7_boundOf_23 ?_
        refine ln_eq (x' := (nI 3)) (by decide) ?_
        refine lv_istore_n (lv' := [(1, .int (nI 3)), (2, .int (nI 2)), (0, .int (nI x))]) hx hb dX7_boundOf_24 rfl hl (by decide) rfl (fun ls hl => ?_)
        refine lv_iinc (v := (nI 3)) (lv' := [(2, .int (nI 3)), (1, .int (nI 3)), (0, .int (nI x))]) hx hb dX7_boundOf_25 hl (k := 1) rfl (by decide) (by decide) rfl (fun ls hl => ?_)
        refine lv_goto (tgt := 4) hx hb dX7_boundOf_28 (by decide) ?_
        refine lv_iload_n hx hb dX7_boundOf_4 rfl (lv_at hl 0 rfl) ?_
        refine lv_iconst (v := (nI 3)) hx hb dX7_boundOf_5 (by decide) ?_
        refine lv_icmp_ge (tgt := 31) hx hb dX7_boundOf_6 (by decide) (fun _ => ?_) (fun h9 => False.elim (by revert h9; decide))
        refine lv_iload_n hx hb dX7_boundOf_31 rfl (lv_at hl 1 rfl) ?_
        exact ro_iret hx hb hr hlk dX7_boundOf_32 (congrArg nI (by simp [k_bnd, k_f, *]))
      · have h3 := of_decide_eq_true h3
        refine lv_iconst (v := (nI 0)) hx hb dX7_boundOf_18 (by decide) ?_
        refine lv_goto (tgt := 23) hx hb dX7_boundOf_19 (by decide) ?_
        refine lv_iadd hx hb dX7_boundOf_23 ?_
        refine ln_eq (x' := (nI 2)) (by decide) ?_
        refine lv_istore_n (lv' := [(1, .int (nI 2)), (2, .int (nI 2)), (0, .int (nI x))]) hx hb dX7_boundOf_24 rfl hl (by decide) rfl (fun ls hl => ?_)
        refine lv_iinc (v := (nI 3)) (lv' := [(2, .int (nI 3)), (1, .int (nI 2)), (0, .int (nI x))]) hx hb dX7_boundOf_25 hl (k := 1) rfl (by decide) (by decide) rfl (fun ls hl => ?_)
        refine lv_goto (tgt := 4) hx hb dX7_boundOf_28 (by decide) ?_
        refine lv_iload_n hx hb dX7_boundOf_4 rfl (lv_at hl 0 rfl) ?_
        refine lv_iconst (v := (nI 3)) hx hb dX7_boundOf_5 (by decide) ?_
        refine lv_icmp_ge (tgt := 31) hx hb dX7_boundOf_6 (by decide) (fun _ => ?_) (fun h9 => False.elim (by revert h9; decide))
        refine lv_iload_n hx hb dX7_boundOf_31 rfl (lv_at hl 1 rfl) ?_
        exact ro_iret hx hb hr hlk dX7_boundOf_32 (congrArg nI (by simp [k_bnd, k_f, *]))
    · have h2 := of_decide_eq_true h2
      refine lv_iconst (v := (nI 0)) hx hb dX7_boundOf_18 (by decide) ?_
      refine lv_goto (tgt := 23) hx hb dX7_boundOf_19 (by decide) ?_
      refine lv_iadd hx hb dX7_boundOf_23 ?_
      refine ln_eq (x' := (nI 1)) (by decide) ?_
      refine lv_istore_n (lv' := [(1, .int (nI 1)), (2, .int (nI 1)), (0, .int (nI x))]) hx hb dX7_boundOf_24 rfl hl (by decide) rfl (fun ls hl => ?_)
      refine lv_iinc (v := (nI 2)) (lv' := [(2, .int (nI 2)), (1, .int (nI 1)), (0, .int (nI x))]) hx hb dX7_boundOf_25 hl (k := 1) rfl (by decide) (by decide) rfl (fun ls hl => ?_)
      refine lv_goto (tgt := 4) hx hb dX7_boundOf_28 (by decide) ?_
      refine lv_iload_n hx hb dX7_boundOf_4 rfl (lv_at hl 0 rfl) ?_
      refine lv_iconst (v := (nI 3)) hx hb dX7_boundOf_5 (by decide) ?_
      refine lv_icmp_ge (tgt := 31) hx hb dX7_boundOf_6 (by decide) (fun h9 => False.elim (by revert h9; decide)) (fun _ => ?_)
      refine lv_iload_n hx hb dX7_boundOf_9 rfl (lv_at hl 1 rfl) ?_
      refine lv_iload_n hx hb dX7_boundOf_10 rfl (lv_at hl 2 rfl) ?_
      refine lv_iload_n hx hb dX7_boundOf_11 rfl (lv_at hl 0 rfl) ?_
      refine ro_S (n := 2) ⟨hx, hb, hml, hown, hts⟩ hM hS hP (c7_isFree l D tc zb x 2 (by first | omega | exact ok5 _ (by omega)) (by first | omega | exact byf_lt _)) gX7_boundOf_X7_isFree rfl (by decide +kernel) ⟨Nat.le_of_ble_eq_true rfl, Nat.le_of_ble_eq_true rfl⟩ [] rfl rfl hl.1 rfl (Nat.le_of_ble_eq_true rfl) dX7_boundOf_12 ⟨Nat.le_refl _, Nat.le_refl _⟩ ?_
      refine ln_if_eqB (tgt := 22) hx hb dX7_boundOf_15 (by decide) (fun h4 => ?_) (fun h4 => ?_)
      · have h4 := of_decide_eq_false h4
        refine lv_iconst (v := (nI 1)) hx hb dX7_boundOf_22 (by decide) ?_
        refine lv_iadd hx hb dX7_boundOf_23 ?_
        refine ln_eq (x' := (nI 2)) (by decide) ?_
        refine lv_istore_n (lv' := [(1, .int (nI 2)), (2, .int (nI 2)), (0, .int (nI x))]) hx hb dX7_boundOf_24 rfl hl (by decide) rfl (fun ls hl => ?_)
        refine lv_iinc (v := (nI 3)) (lv' := [(2, .int (nI 3)), (1, .int (nI 2)), (0, .int (nI x))]) hx hb dX7_boundOf_25 hl (k := 1) rfl (by decide) (by decide) rfl (fun ls hl => ?_)
        refine lv_goto (tgt := 4) hx hb dX7_boundOf_28 (by decide) ?_
        refine lv_iload_n hx hb dX7_boundOf_4 rfl (lv_at hl 0 rfl) ?_
        refine lv_iconst (v := (nI 3)) hx hb dX7_boundOf_5 (by decide) ?_
        refine lv_icmp_ge (tgt := 31) hx hb dX7_boundOf_6 (by decide) (fun _ => ?_) (fun h9 => False.elim (by revert h9; decide))
        refine lv_iload_n hx hb dX7_boundOf_31 rfl (lv_at hl 1 rfl) ?_
        exact ro_iret hx hb hr hlk dX7_boundOf_32 (congrArg nI (by simp [k_bnd, k_f, *]))
      · have h4 := of_decide_eq_true h4
        refine lv_iconst (v := (nI 0)) hx hb dX7_boundOf_18 (by decide) ?_
        refine lv_goto (tgt := 23) hx hb dX7_boundOf_19 (by decide) ?_
        refine lv_iadd hx hb dX7_boundOf_23 ?_
        refine ln_eq (x' := (nI 1)) (by decide) ?_
        refine lv_istore_n (lv' := [(1, .int (nI 1)), (2, .int (nI 2)), (0, .int (nI x))]) hx hb dX7_boundOf_24 rfl hl (by decide) rfl (fun ls hl => ?_)
        refine lv_iinc (v := (nI 3)) (lv' := [(2, .int (nI 3)), (1, .int (nI 1)), (0, .int (nI x))]) hx hb dX7_boundOf_25 hl (k := 1) rfl (by decide) (by decide) rfl (fun ls hl => ?_)
        refine lv_goto (tgt := 4) hx hb dX7_boundOf_28 (by decide) ?_
        refine lv_iload_n hx hb dX7_boundOf_4 rfl (lv_at hl 0 rfl) ?_
        refine lv_iconst (v := (nI 3)) hx hb dX7_boundOf_5 (by decide) ?_
        refine lv_icmp_ge (tgt := 31) hx hb dX7_boundOf_6 (by decide) (fun _ => ?_) (fun h9 => False.elim (by revert h9; decide))
        refine lv_iload_n hx hb dX7_boundOf_31 rfl (lv_at hl 1 rfl) ?_
        exact ro_iret hx hb hr hlk dX7_boundOf_32 (congrArg nI (by simp [k_bnd, k_f, *]))
  · have h1 := of_decide_eq_true h1
    refine lv_iconst (v := (nI 0)) hx hb dX7_boundOf_18 (by decide) ?_
    refine lv_goto (tgt := 23) hx hb dX7_boundOf_19 (by decide) ?_
    refine lv_iadd hx hb dX7_boundOf_23 ?_
    refine ln_eq (x' := (nI 0)) (by decide) ?_
    refine lv_istore_n (lv' := [(1, .int (nI 0)), (2, .int (nI 0)), (0, .int (nI x))]) hx hb dX7_boundOf_24 rfl hl (by decide) rfl (fun ls hl => ?_)
    refine lv_iinc (v := (nI 1)) (lv' := [(2, .int (nI 1)), (1, .int (nI 0)), (0, .int (nI x))]) hx hb dX7_boundOf_25 hl (k := 1) rfl (by decide) (by decide) rfl (fun ls hl => ?_)
    refine lv_goto (tgt := 4) hx hb dX7_boundOf_28 (by decide) ?_
    refine lv_iload_n hx hb dX7_boundOf_4 rfl (lv_at hl 0 rfl) ?_
    refine lv_iconst (v := (nI 3)) hx hb dX7_boundOf_5 (by decide) ?_
    refine lv_icmp_ge (tgt := 31) hx hb dX7_boundOf_6 (by decide) (fun h9 => False.elim (by revert h9; decide)) (fun _ => ?_)
    refine lv_iload_n hx hb dX7_boundOf_9 rfl (lv_at hl 1 rfl) ?_
    refine lv_iload_n hx hb dX7_boundOf_10 rfl (lv_at hl 2 rfl) ?_
    refine lv_iload_n hx hb dX7_boundOf_11 rfl (lv_at hl 0 rfl) ?_
    refine ro_S (n := 2) ⟨hx, hb, hml, hown, hts⟩ hM hS hP (c7_isFree l D tc zb x 1 (by first | omega | exact ok5 _ (by omega)) (by first | omega | exact byf_lt _)) gX7_boundOf_X7_isFree rfl (by decide +kernel) ⟨Nat.le_of_ble_eq_true rfl, Nat.le_of_ble_eq_true rfl⟩ [] rfl rfl hl.1 rfl (Nat.le_of_ble_eq_true rfl) dX7_boundOf_12 ⟨Nat.le_refl _, Nat.le_refl _⟩ ?_
    refine ln_if_eqB (tgt := 22) hx hb dX7_boundOf_15 (by decide) (fun h5 => ?_) (fun h5 => ?_)
    · have h5 := of_decide_eq_false h5
      refine lv_iconst (v := (nI 1)) hx hb dX7_boundOf_22 (by decide) ?_
      refine lv_iadd hx hb dX7_boundOf_23 ?_
      refine ln_eq (x' := (nI 1)) (by decide) ?_
      refine lv_istore_n (lv' := [(1, .int (nI 1)), (2, .int (nI 1)), (0, .int (nI x))]) hx hb dX7_boundOf_24 rfl hl (by decide) rfl (fun ls hl => ?_)
      refine lv_iinc (v := (nI 2)) (lv' := [(2, .int (nI 2)), (1, .int (nI 1)), (0, .int (nI x))]) hx hb dX7_boundOf_25 hl (k := 1) rfl (by decide) (by decide) rfl (fun ls hl => ?_)
      refine lv_goto (tgt := 4) hx hb dX7_boundOf_28 (by decide) ?_
      refine lv_iload_n hx hb dX7_boundOf_4 rfl (lv_at hl 0 rfl) ?_
      refine lv_iconst (v := (nI 3)) hx hb dX7_boundOf_5 (by decide) ?_
      refine lv_icmp_ge (tgt := 31) hx hb dX7_boundOf_6 (by decide) (fun h9 => False.elim (by revert h9; decide)) (fun _ => ?_)
      refine lv_iload_n hx hb dX7_boundOf_9 rfl (lv_at hl 1 rfl) ?_
      refine lv_iload_n hx hb dX7_boundOf_10 rfl (lv_at hl 2 rfl) ?_
      refine lv_iload_n hx hb dX7_boundOf_11 rfl (lv_at hl 0 rfl) ?_
      refine ro_S (n := 2) ⟨hx, hb, hml, hown, hts⟩ hM hS hP (c7_isFree l D tc zb x 2 (by first | omega | exact ok5 _ (by omega)) (by first | omega | exact byf_lt _)) gX7_boundOf_X7_isFree rfl (by decide +kernel) ⟨Nat.le_of_ble_eq_true rfl, Nat.le_of_ble_eq_true rfl⟩ [] rfl rfl hl.1 rfl (Nat.le_of_ble_eq_true rfl) dX7_boundOf_12 ⟨Nat.le_refl _, Nat.le_refl _⟩ ?_
      refine ln_if_eqB (tgt := 22) hx hb dX7_boundOf_15 (by decide) (fun h6 => ?_) (fun h6 => ?_)
      · have h6 := of_decide_eq_false h6
        refine lv_iconst (v := (nI 1)) hx hb dX7_boundOf_22 (by decide) ?_
        refine lv_iadd hx hb dX7_boundOf_23 ?_
        refine ln_eq (x' := (nI 2)) (by decide) ?_
        refine lv_istore_n (lv' := [(1, .int (nI 2)), (2, .int (nI 2)), (0, .int (nI x))]) hx hb dX7_boundOf_24 rfl hl (by decide) rfl (fun ls hl => ?_)
        refine lv_iinc (v := (nI 3)) (lv' := [(2, .int (nI 3)), (1, .int (nI 2)), (0, .int (nI x))]) hx hb dX7_boundOf_25 hl (k := 1) rfl (by decide) (by decide) rfl (fun ls hl => ?_)
        refine lv_goto (tgt := 4) hx hb dX7_boundOf_28 (by decide) ?_
        refine lv_iload_n hx hb dX7_boundOf_4 rfl (lv_at hl 0 rfl) ?_
        refine lv_iconst (v := (nI 3)) hx hb dX7_boundOf_5 (by decide) ?_
        refine lv_icmp_ge (tgt := 31) hx hb dX7_boundOf_6 (by decide) (fun _ => ?_) (fun h9 => False.elim (by revert h9; decide))
        refine lv_iload_n hx hb dX7_boundOf_31 rfl (lv_at hl 1 rfl) ?_
        exact ro_iret hx hb hr hlk dX7_boundOf_32 (congrArg nI (by simp [k_bnd, k_f, *]))
      · have h6 := of_decide_eq_true h6
        refine lv_iconst (v := (nI 0)) hx hb dX7_boundOf_18 (by decide) ?_
        refine lv_goto (tgt := 23) hx hb dX7_boundOf_19 (by decide) ?_
        refine lv_iadd hx hb dX7_boundOf_23 ?_
        refine ln_eq (x' := (nI 1)) (by decide) ?_
        refine lv_istore_n (lv' := [(1, .int (nI 1)), (2, .int (nI 2)), (0, .int (nI x))]) hx hb dX7_boundOf_24 rfl hl (by decide) rfl (fun ls hl => ?_)
        refine lv_iinc (v := (nI 3)) (lv' := [(2, .int (nI 3)), (1, .int (nI 1)), (0, .int (nI x))]) hx hb dX7_boundOf_25 hl (k := 1) rfl (by decide) (by decide) rfl (fun ls hl => ?_)
        refine lv_goto (tgt := 4) hx hb dX7_boundOf_28 (by decide) ?_
        refine lv_iload_n hx hb dX7_boundOf_4 rfl (lv_at hl 0 rfl) ?_
        refine lv_iconst (v := (nI 3)) hx hb dX7_boundOf_5 (by decide) ?_
        refine lv_icmp_ge (tgt := 31) hx hb dX7_boundOf_6 (by decide) (fun _ => ?_) (fun h9 => False.elim (by revert h9; decide))
        refine lv_iload_n hx hb dX7_boundOf_31 rfl (lv_at hl 1 rfl) ?_
        exact ro_iret hx hb hr hlk dX7_boundOf_32 (congrArg nI (by simp [k_bnd, k_f, *]))
    · have h5 := of_decide_eq_true h5
      refine lv_iconst (v := (nI 0)) hx hb dX7_boundOf_18 (by decide) ?_
      refine lv_goto (tgt := 23) hx hb dX7_boundOf_19 (by decide) ?_
      refine lv_iadd hx hb dX7_boundOf_23 ?_
      refine ln_eq (x' := (nI 0)) (by decide) ?_
      refine lv_istore_n (lv' := [(1, .int (nI 0)), (2, .int (nI 1)), (0, .int (nI x))]) hx hb dX7_boundOf_24 rfl hl (by decide) rfl (fun ls hl => ?_)
      refine lv_iinc (v := (nI 2)) (lv' := [(2, .int (nI 2)), (1, .int (nI 0)), (0, .int (nI x))]) hx hb dX7_boundOf_25 hl (k := 1) rfl (by decide) (by decide) rfl (fun ls hl => ?_)
      refine lv_goto (tgt := 4) hx hb dX7_boundOf_28 (by decide) ?_
      refine lv_iload_n hx hb dX7_boundOf_4 rfl (lv_at hl 0 rfl) ?_
      refine lv_iconst (v := (nI 3)) hx hb dX7_boundOf_5 (by decide) ?_
      refine lv_icmp_ge (tgt := 31) hx hb dX7_boundOf_6 (by decide) (fun h9 => False.elim (by revert h9; decide)) (fun _ => ?_)
      refine lv_iload_n hx hb dX7_boundOf_9 rfl (lv_at hl 1 rfl) ?_
      refine lv_iload_n hx hb dX7_boundOf_10 rfl (lv_at hl 2 rfl) ?_
      refine lv_iload_n hx hb dX7_boundOf_11 rfl (lv_at hl 0 rfl) ?_
      refine ro_S (n := 2) ⟨hx, hb, hml, hown, hts⟩ hM hS hP (c7_isFree l D tc zb x 2 (by first | omega | exact ok5 _ (by omega)) (by first | omega | exact byf_lt _)) gX7_boundOf_X7_isFree rfl (by decide +kernel) ⟨Nat.le_of_ble_eq_true rfl, Nat.le_of_ble_eq_true rfl⟩ [] rfl rfl hl.1 rfl (Nat.le_of_ble_eq_true rfl) dX7_boundOf_12 ⟨Nat.le_refl _, Nat.le_refl _⟩ ?_
      refine ln_if_eqB (tgt := 22) hx hb dX7_boundOf_15 (by decide) (fun h7 => ?_) (fun h7 => ?_)
      · have h7 := of_decide_eq_false h7
        refine lv_iconst (v := (nI 1)) hx hb dX7_boundOf_22 (by decide) ?_
        refine lv_iadd hx hb dX7_boundOf_23 ?_
        refine ln_eq (x' := (nI 1)) (by decide) ?_
        refine lv_istore_n (lv' := [(1, .int (nI 1)), (2, .int (nI 2)), (0, .int (nI x))]) hx hb dX7_boundOf_24 rfl hl (by decide) rfl (fun ls hl => ?_)
        refine lv_iinc (v := (nI 3)) (lv' := [(2, .int (nI 3)), (1, .int (nI 1)), (0, .int (nI x))]) hx hb dX7_boundOf_25 hl (k := 1) rfl (by decide) (by decide) rfl (fun ls hl => ?_)
        refine lv_goto (tgt := 4) hx hb dX7_boundOf_28 (by decide) ?_
        refine lv_iload_n hx hb dX7_boundOf_4 rfl (lv_at hl 0 rfl) ?_
        refine lv_iconst (v := (nI 3)) hx hb dX7_boundOf_5 (by decide) ?_
        refine lv_icmp_ge (tgt := 31) hx hb dX7_boundOf_6 (by decide) (fun _ => ?_) (fun h9 => False.elim (by revert h9; decide))
        refine lv_iload_n hx hb dX7_boundOf_31 rfl (lv_at hl 1 rfl) ?_
        exact ro_iret hx hb hr hlk dX7_boundOf_32 (congrArg nI (by simp [k_bnd, k_f, *]))
      · have h7 := of_decide_eq_true h7
        refine lv_iconst (v := (nI 0)) hx hb dX7_boundOf_18 (by decide) ?_
        refine lv_goto (tgt := 23) hx hb dX7_boundOf_19 (by decide) ?_
        refine lv_iadd hx hb dX7_boundOf_23 ?_
        refine ln_eq (x' := (nI 0)) (by decide) ?_
        refine lv_istore_n (lv' := [(1, .int (nI 0)), (2, .int (nI 2)), (0, .int (nI x))]) hx hb dX7_boundOf_24 rfl hl (by decide) rfl (fun ls hl => ?_)
        refine lv_iinc (v := (nI 3)) (lv' := [(2, .int (nI 3)), (1, .int (nI 0)), (0, .int (nI x))]) hx hb dX7_boundOf_25 hl (k := 1) rfl (by decide) (by decide) rfl (fun ls hl => ?_)
        refine lv_goto (tgt := 4) hx hb dX7_boundOf_28 (by decide) ?_
        refine lv_iload_n hx hb dX7_boundOf_4 rfl (lv_at hl 0 rfl) ?_
        refine lv_iconst (v := (nI 3)) hx hb dX7_boundOf_5 (by decide) ?_
        refine lv_icmp_ge (tgt := 31) hx hb dX7_boundOf_6 (by decide) (fun _ => ?_) (fun h9 => False.elim (by revert h9; decide))
        refine lv_iload_n hx hb dX7_boundOf_31 rfl (lv_at hl 1 rfl) ?_
        exact ro_iret hx hb hr hlk dX7_boundOf_32 (congrArg nI (by simp [k_bnd, k_f, *]))
set_option maxHeartbeats 4000000 in
set_option maxRecDepth 100000 in
theorem c7_isAnswer (l : Launch) (D : va_G) (tc : Nat → ClassId) (zb : Nat) (x t : Nat) (hx9 : x < 1331) (ht : t < 1000) : RO l yX7_isAnswer wsX7_isAnswer 2 42 D tc zb [] [.int (nI x), .int (nI t)] (.int (bI (k_isA x t))) := by
  refine RO.of (cc := cX7_isAnswer) (maxL := 4) (ret := (some .boolean)) (by decide) rfl (Nat.le_of_ble_eq_true rfl) ?_
  intro p e s m args below meth c hx hb hr hml hlk hts hown hM hS hP ls hl
  have hl : lv_has ls 4 [(0, .int (nI x)), (1, .int (nI t))] := hl
  refine lv_iconst (v := (nI 1)) hx hb dX7_isAnswer_0 (by decide) ?_
  refine lv_istore_n (lv' := [(2, .int (nI 1)), (0, .int (nI x)), (1, .int (nI t))]) hx hb dX7_isAnswer_1 rfl hl (by decide) rfl (fun ls hl => ?_)
  refine lv_iconst (v := (nI 0)) hx hb dX7_isAnswer_2 (by decide) ?_
  refine lv_istore_n (lv' := [(3, .int (nI 0)), (2, .int (nI 1)), (0, .int (nI x)), (1, .int (nI t))]) hx hb dX7_isAnswer_3 rfl hl (by decide) rfl (fun ls hl => ?_)
  have lp4 : ∀ (n9 : Nat) (ib : Bool) (i : Nat), (3 - i) < n9 → (i ≤ 3) → (ib = k_isU x t i) → ∀ ls : Array Slot, lv_has ls 4 [(3, .int (nI i)), (2, .int (bI (ib))), (0, .int (nI x)), (1, .int (nI t))] → W p l e ({ frames := 2, cells := 0, slots := 0, locals := 42 } : Room) s m args below meth c s.heap [] 0 0 (MQ below (roQ (.int (bI (k_isA x t)))) args s 0 0 (fun _ => False)) (F0 m 4 ls []) := by
    intro n9
    induction n9 with
    | zero => intro ib i hmu; exact absurd hmu (Nat.not_lt_zero _)
    | succ n9 ih4 =>
      intro ib i hmu hi hv ls hl
      refine lv_iload_n hx hb dX7_isAnswer_4 rfl (lv_at hl 0 rfl) ?_
      refine lv_iconst (v := (nI 3)) hx hb dX7_isAnswer_5 (by decide) ?_
      refine ln_icmp_ge (tgt := 46) hx hb dX7_isAnswer_6 (by decide) (by omega) (by decide) (fun h1 => ?_) (fun h1 => ?_)
      · refine lv_iload_n hx hb dX7_isAnswer_46 rfl (lv_at hl 1 rfl) ?_
        exact ro_zret hx hb hr hlk dX7_isAnswer_47 (congrArg bI (by have e9 : i = 3 := (by omega); subst e9; rw [hv]; exact k_isU3 x t))
      · refine lv_iload_n hx hb dX7_isAnswer_9 rfl (lv_at hl 1 rfl) ?_
        refine ln_if_eqB (tgt := 38) hx hb dX7_isAnswer_10 (by decide) (fun h2 => ?_) (fun h2 => ?_)
        · refine lv_iconst (v := (nI 0)) hx hb dX7_isAnswer_38 (by decide) ?_
          refine lv_istore_n (lv' := [(2, .int (nI 0)), (3, .int (nI i)), (0, .int (nI x)), (1, .int (nI t))]) hx hb dX7_isAnswer_39 rfl hl (by decide) rfl (fun ls hl => ?_)
          refine lv_iinc (v := (nI (i + 1))) (lv' := [(3, .int (nI (i + 1))), (2, .int (nI 0)), (0, .int (nI x)), (1, .int (nI t))]) hx hb dX7_isAnswer_40 hl (k := 1) rfl (nI_add i 1) (by decide) rfl (fun ls hl => ?_)
          refine lv_goto (tgt := 4) hx hb dX7_isAnswer_43 (by decide) ?_
          exact ih4 false (i + 1) (by omega) (by omega) (by subst hv; simp [k_isU, *]) _ (lv_sub hl [0, 1, 2, 3] rfl)
        · refine lv_iload_n hx hb dX7_isAnswer_13 rfl (lv_at hl 2 rfl) ?_
          refine lv_iload_n hx hb dX7_isAnswer_14 rfl (lv_at hl 0 rfl) ?_
          refine ro_S (n := 2) ⟨hx, hb, hml, hown, hts⟩ hM hS hP (c7_isFree l D tc zb x i (by first | omega | exact ok5 _ (by omega)) (by first | omega | exact byf_lt _)) gX7_isAnswer_X7_isFree rfl (by decide +kernel) ⟨Nat.le_of_ble_eq_true rfl, Nat.le_of_ble_eq_true rfl⟩ [] rfl rfl hl.1 rfl (Nat.le_of_ble_eq_true rfl) dX7_isAnswer_15 ⟨Nat.le_refl _, Nat.le_refl _⟩ ?_
          refine ln_if_neB (tgt := 34) hx hb dX7_isAnswer_18 (by decide) (fun h3 => ?_) (fun h3 => ?_)
          · have h3 := of_decide_eq_true h3
            refine lv_iconst (v := (nI 1)) hx hb dX7_isAnswer_34 (by decide) ?_
            refine lv_goto (tgt := 39) hx hb dX7_isAnswer_35 (by decide) ?_
            refine lv_istore_n (lv' := [(2, .int (nI 1)), (3, .int (nI i)), (0, .int (nI x)), (1, .int (nI t))]) hx hb dX7_isAnswer_39 rfl hl (by decide) rfl (fun ls hl => ?_)
            refine lv_iinc (v := (nI (i + 1))) (lv' := [(3, .int (nI (i + 1))), (2, .int (nI 1)), (0, .int (nI x)), (1, .int (nI t))]) hx hb dX7_isAnswer_40 hl (k := 1) rfl (nI_add i 1) (by decide) rfl (fun ls hl => ?_)
            refine lv_goto (tgt := 4) hx hb dX7_isAnswer_43 (by decide) ?_
            exact ih4 true (i + 1) (by omega) (by omega) (by subst hv; simp [k_isU, *]) _ (lv_sub hl [0, 1, 2, 3] rfl)
          · have h3 := of_decide_eq_false h3
            refine lv_iload_n hx hb dX7_isAnswer_21 rfl (lv_at hl 2 rfl) ?_
            refine lv_iload_n hx hb dX7_isAnswer_22 rfl (lv_at hl 0 rfl) ?_
            refine ro_S (n := 2) ⟨hx, hb, hml, hown, hts⟩ hM hS hP (c7_digitOf l D tc zb x i (by first | omega | exact ok5 _ (by omega)) (by first | omega | exact byf_lt _)) gX7_isAnswer_X7_digitOf rfl (by decide +kernel) ⟨Nat.le_of_ble_eq_true rfl, Nat.le_of_ble_eq_true rfl⟩ [] rfl rfl hl.1 rfl (Nat.le_of_ble_eq_true rfl) dX7_isAnswer_23 ⟨Nat.le_refl _, Nat.le_refl _⟩ ?_
            have hf4 := show k_dg x i ≤ 10 from k_dg_le (by first | omega | exact ok5 _ (by omega))
            refine lv_iload_n hx hb dX7_isAnswer_26 rfl (lv_at hl 3 rfl) ?_
            refine lv_iload_n hx hb dX7_isAnswer_27 rfl (lv_at hl 0 rfl) ?_
            refine ro_S (n := 2) ⟨hx, hb, hml, hown, hts⟩ hM hS hP (c7_partOf l D tc zb t i (by first | omega | exact ok4 _ (by omega)) (by first | omega | exact byf_lt _)) gX7_isAnswer_X7_partOf rfl (by decide +kernel) ⟨Nat.le_of_ble_eq_true rfl, Nat.le_of_ble_eq_true rfl⟩ [] rfl rfl hl.1 rfl (Nat.le_of_ble_eq_true rfl) dX7_isAnswer_28 ⟨Nat.le_refl _, Nat.le_refl _⟩ ?_
            have hf5 := show k_pt t i ≤ 9 from k_pt_le (by first | omega | exact ok4 _ (by omega))
            refine ln_icmp_ne (tgt := 38) hx hb dX7_isAnswer_31 (by decide) (by omega) (by omega) (fun h6 => ?_) (fun h6 => ?_)
            · refine lv_iconst (v := (nI 0)) hx hb dX7_isAnswer_38 (by decide) ?_
              refine lv_istore_n (lv' := [(2, .int (nI 0)), (3, .int (nI i)), (0, .int (nI x)), (1, .int (nI t))]) hx hb dX7_isAnswer_39 rfl hl (by decide) rfl (fun ls hl => ?_)
              refine lv_iinc (v := (nI (i + 1))) (lv' := [(3, .int (nI (i + 1))), (2, .int (nI 0)), (0, .int (nI x)), (1, .int (nI t))]) hx hb dX7_isAnswer_40 hl (k := 1) rfl (nI_add i 1) (by decide) rfl (fun ls hl => ?_)
              refine lv_goto (tgt := 4) hx hb dX7_isAnswer_43 (by decide) ?_
              exact ih4 false (i + 1) (by omega) (by omega) (by subst hv; simp [k_isU, *]) _ (lv_sub hl [0, 1, 2, 3] rfl)
            · refine lv_iconst (v := (nI 1)) hx hb dX7_isAnswer_34 (by decide) ?_
              refine lv_goto (tgt := 39) hx hb dX7_isAnswer_35 (by decide) ?_
              refine lv_istore_n (lv' := [(2, .int (nI 1)), (3, .int (nI i)), (0, .int (nI x)), (1, .int (nI t))]) hx hb dX7_isAnswer_39 rfl hl (by decide) rfl (fun ls hl => ?_)
              refine lv_iinc (v := (nI (i + 1))) (lv' := [(3, .int (nI (i + 1))), (2, .int (nI 1)), (0, .int (nI x)), (1, .int (nI t))]) hx hb dX7_isAnswer_40 hl (k := 1) rfl (nI_add i 1) (by decide) rfl (fun ls hl => ?_)
              refine lv_goto (tgt := 4) hx hb dX7_isAnswer_43 (by decide) ?_
              exact ih4 true (i + 1) (by omega) (by omega) (by subst hv; simp [k_isU, *]) _ (lv_sub hl [0, 1, 2, 3] rfl)
  exact lp4 _ true 0 (Nat.lt_succ_self _) (by omega) (by rfl) _ (lv_sub hl [0, 1, 2, 3] rfl)
set_option maxHeartbeats 4000000 in
set_option maxRecDepth 100000 in
theorem c7_isIn (l : Launch) (D : va_G) (tc : Nat → ClassId) (zb : Nat) (set q : Nat) (hs : set < 64) (hq : q < 6) : RO l yX7_isIn wsX7_isIn 0 0 D tc zb [] [.int (nI set), .int (nI q)] (.int (bI (k_in set q))) := by
  refine RO.of (cc := cX7_isIn) (maxL := 2) (ret := (some .boolean)) (by decide) rfl (Nat.le_of_ble_eq_true rfl) ?_
  intro p e s m args below meth c hx hb hr hml hlk hts hown hM hS hP ls hl
  have hl : lv_has ls 2 [(0, .int (nI set)), (1, .int (nI q))] := hl
  refine lv_iload_n hx hb dX7_isIn_0 rfl (lv_at hl 0 rfl) ?_
  refine lv_iload_n hx hb dX7_isIn_1 rfl (lv_at hl 1 rfl) ?_
  refine ln_ishr hx hb dX7_isIn_2 (by omega) (by omega) ?_
  refine lv_iconst (v := (nI 1)) hx hb dX7_isIn_3 (by decide) ?_
  refine ln_iand1 hx hb dX7_isIn_4 (Nat.lt_of_le_of_lt (Nat.div_le_self _ _) (by omega)) ?_
  refine lv_iconst (v := (nI 1)) hx hb dX7_isIn_5 (by decide) ?_
  refine ln_icmp_ne (tgt := 13) hx hb dX7_isIn_6 (by decide) (by omega) (by decide) (fun h1 => ?_) (fun h1 => ?_)
  · refine lv_iconst (v := (nI 0)) hx hb dX7_isIn_13 (by decide) ?_
    exact ro_zret hx hb hr hlk dX7_isIn_14 (show bI false = _ from congrArg bI (by simp [k_in, *]))
  · refine lv_iconst (v := (nI 1)) hx hb dX7_isIn_9 (by decide) ?_
    refine lv_goto (tgt := 14) hx hb dX7_isIn_10 (by decide) ?_
    exact ro_zret hx hb hr hlk dX7_isIn_14 (show bI true = _ from congrArg bI (by simp [k_in, *]))
set_option maxHeartbeats 4000000 in
set_option maxRecDepth 100000 in
theorem c7_bitsOf (l : Launch) (D : va_G) (tc : Nat → ClassId) (zb : Nat) (set : Nat) (hs : set < 64) : RO l yX7_bitsOf wsX7_bitsOf 0 0 D tc zb [] [.int (nI set)] (.int (nI (k_pc set))) := by
  refine RO.of (cc := cX7_bitsOf) (maxL := 3) (ret := (some .int)) (by decide) rfl (Nat.le_of_ble_eq_true rfl) ?_
  intro p e s m args below meth c hx hb hr hml hlk hts hown hM hS hP ls hl
  have hl : lv_has ls 3 [(0, .int (nI set))] := hl
  refine lv_iconst (v := (nI 0)) hx hb dX7_bitsOf_0 (by decide) ?_
  refine lv_istore_n (lv' := [(1, .int (nI 0)), (0, .int (nI set))]) hx hb dX7_bitsOf_1 rfl hl (by decide) rfl (fun ls hl => ?_)
  refine lv_iconst (v := (nI 0)) hx hb dX7_bitsOf_2 (by decide) ?_
  refine lv_istore_n (lv' := [(2, .int (nI 0)), (1, .int (nI 0)), (0, .int (nI set))]) hx hb dX7_bitsOf_3 rfl hl (by decide) rfl (fun ls hl => ?_)
  refine lv_iload_n hx hb dX7_bitsOf_4 rfl (lv_at hl 0 rfl) ?_
  refine lv_bipush (v := (nI 6)) hx hb dX7_bitsOf_5 (by decide) ?_
  refine lv_icmp_ge (tgt := 24) hx hb dX7_bitsOf_7 (by decide) (fun h9 => False.elim (by revert h9; decide)) (fun _ => ?_)
  refine lv_iload_n hx hb dX7_bitsOf_10 rfl (lv_at hl 1 rfl) ?_
  refine lv_iload_n hx hb dX7_bitsOf_11 rfl (lv_at hl 2 rfl) ?_
  refine lv_iload_n hx hb dX7_bitsOf_12 rfl (lv_at hl 0 rfl) ?_
  refine ln_ishr hx hb dX7_bitsOf_13 (by omega) (by omega) ?_
  refine lv_iconst (v := (nI 1)) hx hb dX7_bitsOf_14 (by decide) ?_
  refine ln_iand1 hx hb dX7_bitsOf_15 (Nat.lt_of_le_of_lt (Nat.div_le_self _ _) (by omega)) ?_
  refine ln_iadd hx hb dX7_bitsOf_16 ?_
  refine lv_istore_n (lv' := [(1, .int (nI (0 + ((set / 2 ^ 0) % 2)))), (2, .int (nI 0)), (0, .int (nI set))]) hx hb dX7_bitsOf_17 rfl hl (by decide) rfl (fun ls hl => ?_)
  refine lv_iinc (v := (nI 1)) (lv' := [(2, .int (nI 1)), (1, .int (nI (0 + ((set / 2 ^ 0) % 2)))), (0, .int (nI set))]) hx hb dX7_bitsOf_18 hl (k := 1) rfl (by decide) (by decide) rfl (fun ls hl => ?_)
  refine lv_goto (tgt := 4) hx hb dX7_bitsOf_21 (by decide) ?_
  refine lv_iload_n hx hb dX7_bitsOf_4 rfl (lv_at hl 0 rfl) ?_
  refine lv_bipush (v := (nI 6)) hx hb dX7_bitsOf_5 (by decide) ?_
  refine lv_icmp_ge (tgt := 24) hx hb dX7_bitsOf_7 (by decide) (fun h9 => False.elim (by revert h9; decide)) (fun _ => ?_)
  refine lv_iload_n hx hb dX7_bitsOf_10 rfl (lv_at hl 1 rfl) ?_
  refine lv_iload_n hx hb dX7_bitsOf_11 rfl (lv_at hl 2 rfl) ?_
  refine lv_iload_n hx hb dX7_bitsOf_12 rfl (lv_at hl 0 rfl) ?_
  refine ln_ishr hx hb dX7_bitsOf_13 (by omega) (by omega) ?_
  refine lv_iconst (v := (nI 1)) hx hb dX7_bitsOf_14 (by decide) ?_
  refine ln_iand1 hx hb dX7_bitsOf_15 (Nat.lt_of_le_of_lt (Nat.div_le_self _ _) (by omega)) ?_
  refine ln_iadd hx hb dX7_bitsOf_16 ?_
  refine lv_istore_n (lv' := [(1, .int (nI ((0 + ((set / 2 ^ 0) % 2)) + ((set / 2 ^ 1) % 2)))), (2, .int (nI 1)), (0, .int (nI set))]) hx hb dX7_bitsOf_17 rfl hl (by decide) rfl (fun ls hl => ?_)
  refine lv_iinc (v := (nI 2)) (lv' := [(2, .int (nI 2)), (1, .int (nI ((0 + ((set / 2 ^ 0) % 2)) + ((set / 2 ^ 1) % 2)))), (0, .int (nI set))]) hx hb dX7_bitsOf_18 hl (k := 1) rfl (by decide) (by decide) rfl (fun ls hl => ?_)
  refine lv_goto (tgt := 4) hx hb dX7_bitsOf_21 (by decide) ?_
  refine lv_iload_n hx hb dX7_bitsOf_4 rfl (lv_at hl 0 rfl) ?_
  refine lv_bipush (v := (nI 6)) hx hb dX7_bitsOf_5 (by decide) ?_
  refine lv_icmp_ge (tgt := 24) hx hb dX7_bitsOf_7 (by decide) (fun h9 => False.elim (by revert h9; decide)) (fun _ => ?_)
  refine lv_iload_n hx hb dX7_bitsOf_10 rfl (lv_at hl 1 rfl) ?_
  refine lv_iload_n hx hb dX7_bitsOf_11 rfl (lv_at hl 2 rfl) ?_
  refine lv_iload_n hx hb dX7_bitsOf_12 rfl (lv_at hl 0 rfl) ?_
  refine ln_ishr hx hb dX7_bitsOf_13 (by omega) (by omega) ?_
  refine lv_iconst (v := (nI 1)) hx hb dX7_bitsOf_14 (by decide) ?_
  refine ln_iand1 hx hb dX7_bitsOf_15 (Nat.lt_of_le_of_lt (Nat.div_le_self _ _) (by omega)) ?_
  refine ln_iadd hx hb dX7_bitsOf_16 ?_
  refine lv_istore_n (lv' := [(1, .int (nI (((0 + ((set / 2 ^ 0) % 2)) + ((set / 2 ^ 1) % 2)) + ((set / 2 ^ 2) % 2)))), (2, .int (nI 2)), (0, .int (nI set))]) hx hb dX7_bitsOf_17 rfl hl (by decide) rfl (fun ls hl => ?_)
  refine lv_iinc (v := (nI 3)) (lv' := [(2, .int (nI 3)), (1, .int (nI (((0 + ((set / 2 ^ 0) % 2)) + ((set / 2 ^ 1) % 2)) + ((set / 2 ^ 2) % 2)))), (0, .int (nI set))]) hx hb dX7_bitsOf_18 hl (k := 1) rfl (by decide) (by decide) rfl (fun ls hl => ?_)
  refine lv_goto (tgt := 4) hx hb dX7_bitsOf_21 (by decide) ?_
  refine lv_iload_n hx hb dX7_bitsOf_4 rfl (lv_at hl 0 rfl) ?_
  refine lv_bipush (v := (nI 6)) hx hb dX7_bitsOf_5 (by decide) ?_
  refine lv_icmp_ge (tgt := 24) hx hb dX7_bitsOf_7 (by decide) (fun h9 => False.elim (by revert h9; decide)) (fun _ => ?_)
  refine lv_iload_n hx hb dX7_bitsOf_10 rfl (lv_at hl 1 rfl) ?_
  refine lv_iload_n hx hb dX7_bitsOf_11 rfl (lv_at hl 2 rfl) ?_
  refine lv_iload_n hx hb dX7_bitsOf_12 rfl (lv_at hl 0 rfl) ?_
  refine ln_ishr hx hb dX7_bitsOf_13 (by omega) (by omega) ?_
  refine lv_iconst (v := (nI 1)) hx hb dX7_bitsOf_14 (by decide) ?_
  refine ln_iand1 hx hb dX7_bitsOf_15 (Nat.lt_of_le_of_lt (Nat.div_le_self _ _) (by omega)) ?_
  refine ln_iadd hx hb dX7_bitsOf_16 ?_
  refine lv_istore_n (lv' := [(1, .int (nI ((((0 + ((set / 2 ^ 0) % 2)) + ((set / 2 ^ 1) % 2)) + ((set / 2 ^ 2) % 2)) + ((set / 2 ^ 3) % 2)))), (2, .int (nI 3)), (0, .int (nI set))]) hx hb dX7_bitsOf_17 rfl hl (by decide) rfl (fun ls hl => ?_)
  refine lv_iinc (v := (nI 4)) (lv' := [(2, .int (nI 4)), (1, .int (nI ((((0 + ((set / 2 ^ 0) % 2)) + ((set / 2 ^ 1) % 2)) + ((set / 2 ^ 2) % 2)) + ((set / 2 ^ 3) % 2)))), (0, .int (nI set))]) hx hb dX7_bitsOf_18 hl (k := 1) rfl (by decide) (by decide) rfl (fun ls hl => ?_)
  refine lv_goto (tgt := 4) hx hb dX7_bitsOf_21 (by decide) ?_
  refine lv_iload_n hx hb dX7_bitsOf_4 rfl (lv_at hl 0 rfl) ?_
  refine lv_bipush (v := (nI 6)) hx hb dX7_bitsOf_5 (by decide) ?_
  refine lv_icmp_ge (tgt := 24) hx hb dX7_bitsOf_7 (by decide) (fun h9 => False.elim (by revert h9; decide)) (fun _ => ?_)
  refine lv_iload_n hx hb dX7_bitsOf_10 rfl (lv_at hl 1 rfl) ?_
  refine lv_iload_n hx hb dX7_bitsOf_11 rfl (lv_at hl 2 rfl) ?_
  refine lv_iload_n hx hb dX7_bitsOf_12 rfl (lv_at hl 0 rfl) ?_
  refine ln_ishr hx hb dX7_bitsOf_13 (by omega) (by omega) ?_
  refine lv_iconst (v := (nI 1)) hx hb dX7_bitsOf_14 (by decide) ?_
  refine ln_iand1 hx hb dX7_bitsOf_15 (Nat.lt_of_le_of_lt (Nat.div_le_self _ _) (by omega)) ?_
  refine ln_iadd hx hb dX7_bitsOf_16 ?_
  refine lv_istore_n (lv' := [(1, .int (nI (((((0 + ((set / 2 ^ 0) % 2)) + ((set / 2 ^ 1) % 2)) + ((set / 2 ^ 2) % 2)) + ((set / 2 ^ 3) % 2)) + ((set / 2 ^ 4) % 2)))), (2, .int (nI 4)), (0, .int (nI set))]) hx hb dX7_bitsOf_17 rfl hl (by decide) rfl (fun ls hl => ?_)
  refine lv_iinc (v := (nI 5)) (lv' := [(2, .int (nI 5)), (1, .int (nI (((((0 + ((set / 2 ^ 0) % 2)) + ((set / 2 ^ 1) % 2)) + ((set / 2 ^ 2) % 2)) + ((set / 2 ^ 3) % 2)) + ((set / 2 ^ 4) % 2)))), (0, .int (nI set))]) hx hb dX7_bitsOf_18 hl (k := 1) rfl (by decide) (by decide) rfl (fun ls hl => ?_)
  refine lv_goto (tgt := 4) hx hb dX7_bitsOf_21 (by decide) ?_
  refine lv_iload_n hx hb dX7_bitsOf_4 rfl (lv_at hl 0 rfl) ?_
  refine lv_bipush (v := (nI 6)) hx hb dX7_bitsOf_5 (by decide) ?_
  refine lv_icmp_ge (tgt := 24) hx hb dX7_bitsOf_7 (by decide) (fun h9 => False.elim (by revert h9; decide)) (fun _ => ?_)
  refine lv_iload_n hx hb dX7_bitsOf_10 rfl (lv_at hl 1 rfl) ?_
  refine lv_iload_n hx hb dX7_bitsOf_11 rfl (lv_at hl 2 rfl) ?_
  refine lv_iload_n hx hb dX7_bitsOf_12 rfl (lv_at hl 0 rfl) ?_
  refine ln_ishr hx hb dX7_bitsOf_13 (by omega) (by omega) ?_
  refine lv_iconst (v := (nI 1)) hx hb dX7_bitsOf_14 (by decide) ?_
  refine ln_iand1 hx hb dX7_bitsOf_15 (Nat.lt_of_le_of_lt (Nat.div_le_self _ _) (by omega)) ?_
  refine ln_iadd hx hb dX7_bitsOf_16 ?_
  refine lv_istore_n (lv' := [(1, .int (nI ((((((0 + ((set / 2 ^ 0) % 2)) + ((set / 2 ^ 1) % 2)) + ((set / 2 ^ 2) % 2)) + ((set / 2 ^ 3) % 2)) + ((set / 2 ^ 4) % 2)) + ((set / 2 ^ 5) % 2)))), (2, .int (nI 5)), (0, .int (nI set))]) hx hb dX7_bitsOf_17 rfl hl (by decide) rfl (fun ls hl => ?_)
  refine lv_iinc (v := (nI 6)) (lv' := [(2, .int (nI 6)), (1, .int (nI ((((((0 + ((set / 2 ^ 0) % 2)) + ((set / 2 ^ 1) % 2)) + ((set / 2 ^ 2) % 2)) + ((set / 2 ^ 3) % 2)) + ((set / 2 ^ 4) % 2)) + ((set / 2 ^ 5) % 2)))), (0, .int (nI set))]) hx hb dX7_bitsOf_18 hl (k := 1) rfl (by decide) (by decide) rfl (fun ls hl => ?_)
  refine lv_goto (tgt := 4) hx hb dX7_bitsOf_21 (by decide) ?_
  refine lv_iload_n hx hb dX7_bitsOf_4 rfl (lv_at hl 0 rfl) ?_
  refine lv_bipush (v := (nI 6)) hx hb dX7_bitsOf_5 (by decide) ?_
  refine lv_icmp_ge (tgt := 24) hx hb dX7_bitsOf_7 (by decide) (fun _ => ?_) (fun h9 => False.elim (by revert h9; decide))
  refine lv_iload_n hx hb dX7_bitsOf_24 rfl (lv_at hl 1 rfl) ?_
  exact ro_iret hx hb hr hlk dX7_bitsOf_25 (congrArg nI (by unfold k_pc; omega))
set_option maxHeartbeats 4000000 in
set_option maxRecDepth 100000 in
theorem c7_look (l : Launch) (D : va_G) (tc : Nat → ClassId) (zb : Nat) (n : Nat) (hn : n ≤ 40) : RO l yX7_look wsX7_look 0 0 D tc zb [] [.int (nI n)] (.int (nI (k_lk n))) := by
  refine RO.of (cc := cX7_look) (maxL := 2) (ret := (some .int)) (by decide) rfl (Nat.le_of_ble_eq_true rfl) ?_
  intro p e s m args below meth c hx hb hr hml hlk hts hown hM hS hP ls hl
  have hl : lv_has ls 2 [(0, .int (nI n))] := hl
  refine lv_iconst (v := (nI 0)) hx hb dX7_look_0 (by decide) ?_
  refine lv_istore_n (lv' := [(1, .int (nI 0)), (0, .int (nI n))]) hx hb dX7_look_1 rfl hl (by decide) rfl (fun ls hl => ?_)
  have lp2 : ∀ (n9 : Nat) (k : Nat), (6 - k) < n9 → (k ≤ 6) → (k = 0 ∨ 2 ^ (k - 1) ≤ n) → ∀ ls : Array Slot, lv_has ls 2 [(1, .int (nI k)), (0, .int (nI n))] → W p l e ({ frames := 0, cells := 0, slots := 0, locals := 0 } : Room) s m args below meth c s.heap [] 0 0 (MQ below (roQ (.int (nI (k_lk n)))) args s 0 0 (fun _ => False)) (F0 m 2 ls []) := by
    intro n9
    induction n9 with
    | zero => intro k hmu; exact absurd hmu (Nat.not_lt_zero _)
    | succ n9 ih2 =>
      intro k hmu hi hv ls hl
      have hpw : 2 ^ k ≤ 2 ^ 6 := Nat.pow_le_pow_right (by decide) hi
      refine lv_iconst (v := (nI 1)) hx hb dX7_look_2 (by decide) ?_
      refine lv_iload_n hx hb dX7_look_3 rfl (lv_at hl 0 rfl) ?_
      refine ln_ishl1 hx hb dX7_look_4 (by omega) ?_
      refine lv_iload_n hx hb dX7_look_5 rfl (lv_at hl 1 rfl) ?_
      refine ln_icmp_gt (tgt := 15) hx hb dX7_look_6 (by decide) (by omega) (by omega) (fun h1 => ?_) (fun h1 => ?_)
      · refine lv_iload_n hx hb dX7_look_15 rfl (lv_at hl 0 rfl) ?_
        exact ro_iret hx hb hr hlk dX7_look_16 (congrArg nI (by exact (k_lk_c _ _ (by omega) (by omega) (by omega) (by omega)).symm))
      · have hkk := (k_lk_up hi (by assumption) hn).1
        refine lv_iinc (v := (nI (k + 1))) (lv' := [(1, .int (nI (k + 1))), (0, .int (nI n))]) hx hb dX7_look_9 hl (k := 0) rfl (nI_add k 1) (by decide) rfl (fun ls hl => ?_)
        refine lv_goto (tgt := 2) hx hb dX7_look_12 (by decide) ?_
        exact ih2 (k + 1) (by omega) (by exact (k_lk_up hi (by assumption) hn).1) (by exact (k_lk_up hi (by assumption) hn).2) _ (lv_sub hl [0, 1] rfl)
  exact lp2 _ 0 (Nat.lt_succ_self _) (by omega) (by exact Or.inl rfl) _ (lv_sub hl [0, 1] rfl)
set_option maxHeartbeats 4000000 in
set_option maxRecDepth 100000 in
theorem c7_answersOf (l : Launch) (D : va_G) (tc : Nat → ClassId) (zb : Nat) (b b1 : Nat) (o : Nat → Value) (g : Nat → Nat) (x : Nat) (hk : k_ok g) (hx9 : x < 1331) : RO l yX7_answersOf wsX7_answersOf 3 65 D tc zb (w_ms tc b b1 o g) [.ref b, .int (nI x)] (.int (nI (k_cnt g x))) := by
  refine RO.of (cc := cX7_answersOf) (maxL := 4) (ret := (some .int)) (by decide) rfl (Nat.le_of_ble_eq_true rfl) ?_
  intro p e s m args below meth c hx hb hr hml hlk hts hown hM hS hP ls hl
  have hl : lv_has ls 4 [(0, .ref b), (1, .int (nI x))] := hl
  have hinX7 : ∀ w ∈ u_ws RX7 TX7 9, w ∈ wsX7_answersOf := by decide +kernel
  obtain ⟨ok0, ok1, ok2, ok3, ok4, ok5, ok6⟩ := id hk
  refine lv_iconst (v := (nI 0)) hx hb dX7_answersOf_0 (by decide) ?_
  refine lv_istore_n (lv' := [(2, .int (nI 0)), (0, .ref b), (1, .int (nI x))]) hx hb dX7_answersOf_1 rfl hl (by decide) rfl (fun ls hl => ?_)
  refine lv_iconst (v := (nI 0)) hx hb dX7_answersOf_2 (by decide) ?_
  refine lv_istore_n (lv' := [(3, .int (nI 0)), (2, .int (nI 0)), (0, .ref b), (1, .int (nI x))]) hx hb dX7_answersOf_3 rfl hl (by decide) rfl (fun ls hl => ?_)
  have lp4 : ∀ (n9 : Nat) (acc : Nat) (i : Nat), (g 0 - i) < n9 → (i ≤ g 0) → (acc = k_cn g x i) → (acc ≤ i) → ∀ ls : Array Slot, lv_has ls 4 [(3, .int (nI i)), (2, .int (nI acc)), (0, .ref b), (1, .int (nI x))] → W p l e ({ frames := 3, cells := 0, slots := 0, locals := 65 } : Room) s m args below meth c s.heap [] 0 0 (MQ below (roQ (.int (nI (k_cnt g x)))) args s 0 0 (fun _ => False)) (F0 m 4 ls []) := by
    intro n9
    induction n9 with
    | zero => intro acc i hmu; exact absurd hmu (Nat.not_lt_zero _)
    | succ n9 ih4 =>
      intro acc i hmu hi hv hac ls hl
      refine lv_iload_n hx hb dX7_answersOf_4 rfl (lv_at hl 0 rfl) ?_
      refine lv_aload_n hx hb dX7_answersOf_5 rfl (lv_at hl 2 rfl) ?_
      refine va_get (D := D) (ci := 6) (v := .ref b1) (C := RX7) (T := TX7) (N := 9) hx hb hts hinX7 hown hM.1 hP 0 rfl rfl 1 (by decide) (hts (.fieldLink RX7 7 "TripleWaysModel" "s" "[I") (by decide +kernel)) (fun _ h9 => h9) rfl dX7_answersOf_6 ?_
      refine lv_iconst (v := (nI 0)) hx hb dX7_answersOf_9 (by decide) ?_
      refine ln_iald hx hb hM.1 hP 1 0 rfl rfl dX7_answersOf_10 (by decide) (by omega) (rfl) ?_
      refine ln_icmp_ge (tgt := 43) hx hb dX7_answersOf_11 (by decide) (by omega) (by omega) (fun h1 => ?_) (fun h1 => ?_)
      · refine lv_iload_n hx hb dX7_answersOf_43 rfl (lv_at hl 1 rfl) ?_
        exact ro_iret hx hb hr hlk dX7_answersOf_44 (congrArg nI (by have e9 : i = g 0 := (by omega); subst e9; exact hv))
      · refine lv_iload_n hx hb dX7_answersOf_14 rfl (lv_at hl 1 rfl) ?_
        refine lv_iload_n hx hb dX7_answersOf_15 rfl (lv_at hl 3 rfl) ?_
        refine lv_aload_n hx hb dX7_answersOf_16 rfl (lv_at hl 2 rfl) ?_
        refine va_get (D := D) (ci := 6) (v := .ref b1) (C := RX7) (T := TX7) (N := 9) hx hb hts hinX7 hown hM.1 hP 0 rfl rfl 1 (by decide) (hts (.fieldLink RX7 7 "TripleWaysModel" "s" "[I") (by decide +kernel)) (fun _ h9 => h9) rfl dX7_answersOf_17 ?_
        refine lv_iconst (v := (nI 1)) hx hb dX7_answersOf_20 (by decide) ?_
        refine lv_iload_n hx hb dX7_answersOf_21 rfl (lv_at hl 0 rfl) ?_
        refine ln_iadd hx hb dX7_answersOf_22 ?_
        refine ln_iald hx hb hM.1 hP 1 0 rfl rfl dX7_answersOf_23 (by decide) (by omega) (rfl) ?_
        refine ro_S (n := 2) ⟨hx, hb, hml, hown, hts⟩ hM hS hP (c7_isAnswer l D tc zb x (g (1 + i)) (by first | omega | exact ok5 _ (by omega)) (by first | omega | exact ok4 _ (by omega))) gX7_answersOf_X7_isAnswer rfl (by decide +kernel) ⟨Nat.le_of_ble_eq_true rfl, Nat.le_of_ble_eq_true rfl⟩ [] rfl rfl hl.1 rfl (Nat.le_of_ble_eq_true rfl) dX7_answersOf_24 ⟨Nat.le_refl _, Nat.le_refl _⟩ ?_
        refine ln_if_eqB (tgt := 34) hx hb dX7_answersOf_27 (by decide) (fun h2 => ?_) (fun h2 => ?_)
        · refine lv_iconst (v := (nI 0)) hx hb dX7_answersOf_34 (by decide) ?_
          refine ln_iadd hx hb dX7_answersOf_35 ?_
          refine lv_istore_n (lv' := [(2, .int (nI (acc + 0))), (3, .int (nI i)), (0, .ref b), (1, .int (nI x))]) hx hb dX7_answersOf_36 rfl hl (by decide) rfl (fun ls hl => ?_)
          refine lv_iinc (v := (nI (i + 1))) (lv' := [(3, .int (nI (i + 1))), (2, .int (nI (acc + 0))), (0, .ref b), (1, .int (nI x))]) hx hb dX7_answersOf_37 hl (k := 1) rfl (nI_add i 1) (by decide) rfl (fun ls hl => ?_)
          refine lv_goto (tgt := 4) hx hb dX7_answersOf_40 (by decide) ?_
          exact ih4 (acc + 0) (i + 1) (by omega) (by omega) (by simp [k_cn, *]) (by omega) _ (lv_sub hl [0, 1, 2, 3] rfl)
        · refine lv_iconst (v := (nI 1)) hx hb dX7_answersOf_30 (by decide) ?_
          refine lv_goto (tgt := 35) hx hb dX7_answersOf_31 (by decide) ?_
          refine ln_iadd hx hb dX7_answersOf_35 ?_
          refine lv_istore_n (lv' := [(2, .int (nI (acc + 1))), (3, .int (nI i)), (0, .ref b), (1, .int (nI x))]) hx hb dX7_answersOf_36 rfl hl (by decide) rfl (fun ls hl => ?_)
          refine lv_iinc (v := (nI (i + 1))) (lv' := [(3, .int (nI (i + 1))), (2, .int (nI (acc + 1))), (0, .ref b), (1, .int (nI x))]) hx hb dX7_answersOf_37 hl (k := 1) rfl (nI_add i 1) (by decide) rfl (fun ls hl => ?_)
          refine lv_goto (tgt := 4) hx hb dX7_answersOf_40 (by decide) ?_
          exact ih4 (acc + 1) (i + 1) (by omega) (by omega) (by simp [k_cn, *]) (by omega) _ (lv_sub hl [0, 1, 2, 3] rfl)
  exact lp4 _ 0 0 (Nat.lt_succ_self _) (by omega) (by rfl) (by omega) _ (lv_sub hl [0, 1, 2, 3] rfl)
set_option maxHeartbeats 4000000 in
set_option maxRecDepth 100000 in
theorem c7_reachOf (l : Launch) (D : va_G) (tc : Nat → ClassId) (zb : Nat) (x q : Nat) (hx9 : x < 1331) (hq : q < 6) : RO l yX7_reachOf wsX7_reachOf 2 42 D tc zb [] [.int (nI x), .int (nI q)] (.int (nI (k_rch x q))) := by
  refine RO.of (cc := cX7_reachOf) (maxL := 3) (ret := (some .int)) (by decide) rfl (Nat.le_of_ble_eq_true rfl) ?_
  intro p e s m args below meth c hx hb hr hml hlk hts hown hM hS hP ls hl
  have hl : lv_has ls 3 [(0, .int (nI x)), (1, .int (nI q))] := hl
  refine lv_iconst (v := (nI 0)) hx hb dX7_reachOf_0 (by decide) ?_
  refine lv_istore_n (lv' := [(2, .int (nI 0)), (0, .int (nI x)), (1, .int (nI q))]) hx hb dX7_reachOf_1 rfl hl (by decide) rfl (fun ls hl => ?_)
  refine lv_iload_n hx hb dX7_reachOf_2 rfl (lv_at hl 0 rfl) ?_
  refine lv_iconst (v := (nI 3)) hx hb dX7_reachOf_3 (by decide) ?_
  refine lv_icmp_ge (tgt := 25) hx hb dX7_reachOf_4 (by decide) (fun h9 => False.elim (by revert h9; decide)) (fun _ => ?_)
  refine lv_iload_n hx hb dX7_reachOf_7 rfl (lv_at hl 1 rfl) ?_
  refine lv_iload_n hx hb dX7_reachOf_8 rfl (lv_at hl 2 rfl) ?_
  refine lv_iload_n hx hb dX7_reachOf_9 rfl (lv_at hl 0 rfl) ?_
  refine ro_S (n := 2) ⟨hx, hb, hml, hown, hts⟩ hM hS hP (c7_compared l D tc zb q 0 (by omega) (by omega)) gX7_reachOf_X7_compared rfl (by decide +kernel) ⟨Nat.le_of_ble_eq_true rfl, Nat.le_of_ble_eq_true rfl⟩ [] rfl rfl hl.1 rfl (Nat.le_of_ble_eq_true rfl) dX7_reachOf_10 ⟨Nat.le_refl _, Nat.le_refl _⟩ ?_
  have hf1 := byf_lt (3 * q + 0)
  refine ro_S (n := 2) ⟨hx, hb, hml, hown, hts⟩ hM hS hP (c7_isFree l D tc zb x (byf (3 * q + 0)) (by first | omega | exact ok5 _ (by omega)) (by first | omega | exact byf_lt _)) gX7_reachOf_X7_isFree rfl (by decide +kernel) ⟨Nat.le_of_ble_eq_true rfl, Nat.le_of_ble_eq_true rfl⟩ [] rfl rfl hl.1 rfl (Nat.le_of_ble_eq_true rfl) dX7_reachOf_13 ⟨Nat.le_refl _, Nat.le_refl _⟩ ?_
  refine ln_if_neB (tgt := 25) hx hb dX7_reachOf_16 (by decide) (fun h2 => ?_) (fun h2 => ?_)
  · have h2 := of_decide_eq_true h2
    refine lv_iload_n hx hb dX7_reachOf_25 rfl (lv_at hl 0 rfl) ?_
    exact ro_iret hx hb hr hlk dX7_reachOf_26 (congrArg nI (by unfold k_rch; (repeat' split) <;> omega))
  · have h2 := of_decide_eq_false h2
    refine lv_iinc (v := (nI 1)) (lv' := [(2, .int (nI 1)), (0, .int (nI x)), (1, .int (nI q))]) hx hb dX7_reachOf_19 hl (k := 0) rfl (by decide) (by decide) rfl (fun ls hl => ?_)
    refine lv_goto (tgt := 2) hx hb dX7_reachOf_22 (by decide) ?_
    refine lv_iload_n hx hb dX7_reachOf_2 rfl (lv_at hl 0 rfl) ?_
    refine lv_iconst (v := (nI 3)) hx hb dX7_reachOf_3 (by decide) ?_
    refine lv_icmp_ge (tgt := 25) hx hb dX7_reachOf_4 (by decide) (fun h9 => False.elim (by revert h9; decide)) (fun _ => ?_)
    refine lv_iload_n hx hb dX7_reachOf_7 rfl (lv_at hl 1 rfl) ?_
    refine lv_iload_n hx hb dX7_reachOf_8 rfl (lv_at hl 2 rfl) ?_
    refine lv_iload_n hx hb dX7_reachOf_9 rfl (lv_at hl 0 rfl) ?_
    refine ro_S (n := 2) ⟨hx, hb, hml, hown, hts⟩ hM hS hP (c7_compared l D tc zb q 1 (by omega) (by omega)) gX7_reachOf_X7_compared rfl (by decide +kernel) ⟨Nat.le_of_ble_eq_true rfl, Nat.le_of_ble_eq_true rfl⟩ [] rfl rfl hl.1 rfl (Nat.le_of_ble_eq_true rfl) dX7_reachOf_10 ⟨Nat.le_refl _, Nat.le_refl _⟩ ?_
    have hf3 := byf_lt (3 * q + 1)
    refine ro_S (n := 2) ⟨hx, hb, hml, hown, hts⟩ hM hS hP (c7_isFree l D tc zb x (byf (3 * q + 1)) (by first | omega | exact ok5 _ (by omega)) (by first | omega | exact byf_lt _)) gX7_reachOf_X7_isFree rfl (by decide +kernel) ⟨Nat.le_of_ble_eq_true rfl, Nat.le_of_ble_eq_true rfl⟩ [] rfl rfl hl.1 rfl (Nat.le_of_ble_eq_true rfl) dX7_reachOf_13 ⟨Nat.le_refl _, Nat.le_refl _⟩ ?_
    refine ln_if_neB (tgt := 25) hx hb dX7_reachOf_16 (by decide) (fun h4 => ?_) (fun h4 => ?_)
    · have h4 := of_decide_eq_true h4
      refine lv_iload_n hx hb dX7_reachOf_25 rfl (lv_at hl 0 rfl) ?_
      exact ro_iret hx hb hr hlk dX7_reachOf_26 (congrArg nI (by unfold k_rch; (repeat' split) <;> omega))
    · have h4 := of_decide_eq_false h4
      refine lv_iinc (v := (nI 2)) (lv' := [(2, .int (nI 2)), (0, .int (nI x)), (1, .int (nI q))]) hx hb dX7_reachOf_19 hl (k := 0) rfl (by decide) (by decide) rfl (fun ls hl => ?_)
      refine lv_goto (tgt := 2) hx hb dX7_reachOf_22 (by decide) ?_
      refine lv_iload_n hx hb dX7_reachOf_2 rfl (lv_at hl 0 rfl) ?_
      refine lv_iconst (v := (nI 3)) hx hb dX7_reachOf_3 (by decide) ?_
      refine lv_icmp_ge (tgt := 25) hx hb dX7_reachOf_4 (by decide) (fun h9 => False.elim (by revert h9; decide)) (fun _ => ?_)
      refine lv_iload_n hx hb dX7_reachOf_7 rfl (lv_at hl 1 rfl) ?_
      refine lv_iload_n hx hb dX7_reachOf_8 rfl (lv_at hl 2 rfl) ?_
      refine lv_iload_n hx hb dX7_reachOf_9 rfl (lv_at hl 0 rfl) ?_
      refine ro_S (n := 2) ⟨hx, hb, hml, hown, hts⟩ hM hS hP (c7_compared l D tc zb q 2 (by omega) (by omega)) gX7_reachOf_X7_compared rfl (by decide +kernel) ⟨Nat.le_of_ble_eq_true rfl, Nat.le_of_ble_eq_true rfl⟩ [] rfl rfl hl.1 rfl (Nat.le_of_ble_eq_true rfl) dX7_reachOf_10 ⟨Nat.le_refl _, Nat.le_refl _⟩ ?_
      have hf5 := byf_lt (3 * q + 2)
      refine ro_S (n := 2) ⟨hx, hb, hml, hown, hts⟩ hM hS hP (c7_isFree l D tc zb x (byf (3 * q + 2)) (by first | omega | exact ok5 _ (by omega)) (by first | omega | exact byf_lt _)) gX7_reachOf_X7_isFree rfl (by decide +kernel) ⟨Nat.le_of_ble_eq_true rfl, Nat.le_of_ble_eq_true rfl⟩ [] rfl rfl hl.1 rfl (Nat.le_of_ble_eq_true rfl) dX7_reachOf_13 ⟨Nat.le_refl _, Nat.le_refl _⟩ ?_
      refine ln_if_neB (tgt := 25) hx hb dX7_reachOf_16 (by decide) (fun h6 => ?_) (fun h6 => ?_)
      · have h6 := of_decide_eq_true h6
        refine lv_iload_n hx hb dX7_reachOf_25 rfl (lv_at hl 0 rfl) ?_
        exact ro_iret hx hb hr hlk dX7_reachOf_26 (congrArg nI (by unfold k_rch; (repeat' split) <;> omega))
      · have h6 := of_decide_eq_false h6
        refine lv_iinc (v := (nI 3)) (lv' := [(2, .int (nI 3)), (0, .int (nI x)), (1, .int (nI q))]) hx hb dX7_reachOf_19 hl (k := 0) rfl (by decide) (by decide) rfl (fun ls hl => ?_)
        refine lv_goto (tgt := 2) hx hb dX7_reachOf_22 (by decide) ?_
        refine lv_iload_n hx hb dX7_reachOf_2 rfl (lv_at hl 0 rfl) ?_
        refine lv_iconst (v := (nI 3)) hx hb dX7_reachOf_3 (by decide) ?_
        refine lv_icmp_ge (tgt := 25) hx hb dX7_reachOf_4 (by decide) (fun _ => ?_) (fun h9 => False.elim (by revert h9; decide))
        refine lv_iload_n hx hb dX7_reachOf_25 rfl (lv_at hl 0 rfl) ?_
        exact ro_iret hx hb hr hlk dX7_reachOf_26 (congrArg nI (by unfold k_rch; (repeat' split) <;> omega))
set_option maxHeartbeats 4000000 in
set_option maxRecDepth 100000 in
theorem c7_reached (l : Launch) (D : va_G) (tc : Nat → ClassId) (zb : Nat) (x q : Nat) (hx9 : x < 1331) (hq : q < 6) : RO l yX7_reached wsX7_reached 3 64 D tc zb [] [.int (nI x), .int (nI q)] (.int (nI (k_red x q (k_rch x q)))) := by
  refine RO.of (cc := cX7_reached) (maxL := 6) (ret := (some .int)) (by decide) rfl (Nat.le_of_ble_eq_true rfl) ?_
  intro p e s m args below meth c hx hb hr hml hlk hts hown hM hS hP ls hl
  have hl : lv_has ls 6 [(0, .int (nI x)), (1, .int (nI q))] := hl
  refine lv_iconst (v := (nI 0)) hx hb dX7_reached_0 (by decide) ?_
  refine lv_istore_n (lv' := [(2, .int (nI 0)), (0, .int (nI x)), (1, .int (nI q))]) hx hb dX7_reached_1 rfl hl (by decide) rfl (fun ls hl => ?_)
  refine lv_iconst (v := (nI 0)) hx hb dX7_reached_2 (by decide) ?_
  refine lv_istore_n (lv' := [(3, .int (nI 0)), (2, .int (nI 0)), (0, .int (nI x)), (1, .int (nI q))]) hx hb dX7_reached_3 rfl hl (by decide) rfl (fun ls hl => ?_)
  have lp4 : ∀ (n9 : Nat) (dd : Nat) (i : Nat), (3 - i) < n9 → (i ≤ 3) → (dd = k_rd x q (k_rch x q) i) → ∀ ls : Array Slot, lv_has ls 6 [(3, .int (nI i)), (2, .int (nI dd)), (0, .int (nI x)), (1, .int (nI q))] → W p l e ({ frames := 3, cells := 0, slots := 0, locals := 64 } : Room) s m args below meth c s.heap [] 0 0 (MQ below (roQ (.int (nI (k_red x q (k_rch x q))))) args s 0 0 (fun _ => False)) (F0 m 4 ls []) := by
    intro n9
    induction n9 with
    | zero => intro dd i hmu; exact absurd hmu (Nat.not_lt_zero _)
    | succ n9 ih4 =>
      intro dd i hmu hi hv ls hl
      have hdd := k_rd_lt (q := q) (r := k_rch x q) hx9 i hi
      have hp11 : 11 ^ i ≤ 11 ^ 3 := Nat.pow_le_pow_right (by decide) hi
      refine lv_iload_n hx hb dX7_reached_4 rfl (lv_at hl 0 rfl) ?_
      refine lv_iconst (v := (nI 3)) hx hb dX7_reached_5 (by decide) ?_
      refine ln_icmp_ge (tgt := 80) hx hb dX7_reached_6 (by decide) (by omega) (by decide) (fun h1 => ?_) (fun h1 => ?_)
      · refine lv_iload_n hx hb dX7_reached_80 rfl (lv_at hl 1 rfl) ?_
        exact ro_iret hx hb hr hlk dX7_reached_81 (congrArg nI (by have e9 : i = 3 := (by omega); subst e9; rw [hv]; exact k_rd_red hx9 hq (k_rch_le x q)))
      · refine lv_iconst (v := (nI 0)) hx hb dX7_reached_9 (by decide) ?_
        refine lv_istore (lv' := [(4, .int (nI 0)), (3, .int (nI i)), (2, .int (nI dd)), (0, .int (nI x)), (1, .int (nI q))]) hx hb dX7_reached_10 hl (by decide) rfl (fun ls hl => ?_)
        refine lv_iconst (v := (nI 0)) hx hb dX7_reached_12 (by decide) ?_
        refine lv_istore (lv' := [(5, .int (nI 0)), (4, .int (nI 0)), (3, .int (nI i)), (2, .int (nI dd)), (0, .int (nI x)), (1, .int (nI q))]) hx hb dX7_reached_13 hl (by decide) rfl (fun ls hl => ?_)
        have lp15 : ∀ (n9 : Nat) (ib : Bool) (k : Nat), (k_rch x q - k) < n9 → (k ≤ k_rch x q) → (ib = k_isn q i k) → ∀ ls : Array Slot, lv_has ls 6 [(5, .int (nI k)), (4, .int (bI (ib))), (3, .int (nI i)), (2, .int (nI dd)), (0, .int (nI x)), (1, .int (nI q))] → W p l e ({ frames := 3, cells := 0, slots := 0, locals := 64 } : Room) s m args below meth c s.heap [] 0 0 (MQ below (roQ (.int (nI (k_red x q (k_rch x q))))) args s 0 0 (fun _ => False)) (F0 m 15 ls []) := by
          intro n9
          induction n9 with
          | zero => intro ib k hmu; exact absurd hmu (Nat.not_lt_zero _)
          | succ n9 ih15 =>
            intro ib k hmu hk9 hv2 ls hl
            have hrl := k_rch_le x q
            refine lv_iload hx hb dX7_reached_15 (lv_at hl 0 rfl) ?_
            refine lv_iload_n hx hb dX7_reached_17 rfl (lv_at hl 4 rfl) ?_
            refine lv_iload_n hx hb dX7_reached_18 rfl (lv_at hl 5 rfl) ?_
            refine ro_S (n := 2) ⟨hx, hb, hml, hown, hts⟩ hM hS hP (c7_reachOf l D tc zb x q (by first | omega | exact ok5 _ (by omega)) (by omega)) gX7_reached_X7_reachOf rfl (by decide +kernel) ⟨Nat.le_of_ble_eq_true rfl, Nat.le_of_ble_eq_true rfl⟩ [] rfl rfl hl.1 rfl (Nat.le_of_ble_eq_true rfl) dX7_reached_19 ⟨Nat.le_refl _, Nat.le_refl _⟩ ?_
            have hf2 := k_rch_le x q
            refine ln_icmp_ge (tgt := 53) hx hb dX7_reached_22 (by decide) (by omega) (by omega) (fun h3 => ?_) (fun h3 => ?_)
            · have e8 : k = k_rch x q := by omega
              have hv3 := hv2
              rw [e8] at hv3
              refine lv_bipush (v := (nI 11)) hx hb dX7_reached_53 (by decide) ?_
              refine lv_iload_n hx hb dX7_reached_55 rfl (lv_at hl 3 rfl) ?_
              refine ln_imul hx hb dX7_reached_56 ?_
              refine lv_iload hx hb dX7_reached_57 (lv_at hl 1 rfl) ?_
              refine ln_if_eqB (tgt := 70) hx hb dX7_reached_59 (by decide) (fun h4 => ?_) (fun h4 => ?_)
              · refine lv_bipush (v := (nI 10)) hx hb dX7_reached_70 (by decide) ?_
                refine ln_iadd hx hb dX7_reached_72 ?_
                refine lv_istore_n (lv' := [(2, .int (nI ((11 * dd) + 10))), (5, .int (nI k)), (4, .int (bI (ib))), (3, .int (nI i)), (0, .int (nI x)), (1, .int (nI q))]) hx hb dX7_reached_73 rfl hl (by decide) rfl (fun ls hl => ?_)
                refine lv_iinc (v := (nI (i + 1))) (lv' := [(3, .int (nI (i + 1))), (2, .int (nI ((11 * dd) + 10))), (5, .int (nI k)), (4, .int (bI (ib))), (0, .int (nI x)), (1, .int (nI q))]) hx hb dX7_reached_74 hl (k := 3) rfl (nI_add i 1) (by decide) rfl (fun ls hl => ?_)
                refine lv_goto (tgt := 4) hx hb dX7_reached_77 (by decide) ?_
                exact ih4 ((11 * dd) + 10) (i + 1) (by omega) (by omega) (by first | (rw [k_rd, ← hv3, if_pos (by assumption), ← hv]) | (rw [k_rd, ← hv3, if_neg (fun h9 => by have h8 : ib = false := (by assumption); rw [h9] at h8; cases h8), ← hv])) _ (lv_sub hl [0, 1, 4, 5] rfl)
              · refine lv_iload_n hx hb dX7_reached_62 rfl (lv_at hl 4 rfl) ?_
                refine lv_iload_n hx hb dX7_reached_63 rfl (lv_at hl 2 rfl) ?_
                refine ro_S (n := 2) ⟨hx, hb, hml, hown, hts⟩ hM hS hP (c7_digitOf l D tc zb x i (by first | omega | exact ok5 _ (by omega)) (by first | omega | exact byf_lt _)) gX7_reached_X7_digitOf rfl (by decide +kernel) ⟨Nat.le_of_ble_eq_true rfl, Nat.le_of_ble_eq_true rfl⟩ [] rfl rfl hl.1 rfl (Nat.le_of_ble_eq_true rfl) dX7_reached_64 ⟨Nat.le_refl _, Nat.le_refl _⟩ ?_
                have hf5 := show k_dg x i ≤ 10 from k_dg_le (by first | omega | exact ok5 _ (by omega))
                refine lv_goto (tgt := 72) hx hb dX7_reached_67 (by decide) ?_
                refine ln_iadd hx hb dX7_reached_72 ?_
                refine lv_istore_n (lv' := [(2, .int (nI ((11 * dd) + (k_dg x i)))), (5, .int (nI k)), (4, .int (bI (ib))), (3, .int (nI i)), (0, .int (nI x)), (1, .int (nI q))]) hx hb dX7_reached_73 rfl hl (by decide) rfl (fun ls hl => ?_)
                refine lv_iinc (v := (nI (i + 1))) (lv' := [(3, .int (nI (i + 1))), (2, .int (nI ((11 * dd) + (k_dg x i)))), (5, .int (nI k)), (4, .int (bI (ib))), (0, .int (nI x)), (1, .int (nI q))]) hx hb dX7_reached_74 hl (k := 3) rfl (nI_add i 1) (by decide) rfl (fun ls hl => ?_)
                refine lv_goto (tgt := 4) hx hb dX7_reached_77 (by decide) ?_
                exact ih4 ((11 * dd) + (k_dg x i)) (i + 1) (by omega) (by omega) (by first | (rw [k_rd, ← hv3, if_pos (by assumption), ← hv]) | (rw [k_rd, ← hv3, if_neg (fun h9 => by have h8 : ib = false := (by assumption); rw [h9] at h8; cases h8), ← hv])) _ (lv_sub hl [0, 1, 4, 5] rfl)
            · refine lv_iload hx hb dX7_reached_25 (lv_at hl 1 rfl) ?_
              refine ln_if_neB (tgt := 40) hx hb dX7_reached_27 (by decide) (fun h6 => ?_) (fun h6 => ?_)
              · refine lv_iconst (v := (nI 1)) hx hb dX7_reached_40 (by decide) ?_
                refine lv_goto (tgt := 45) hx hb dX7_reached_41 (by decide) ?_
                refine lv_istore (lv' := [(4, .int (nI 1)), (5, .int (nI k)), (3, .int (nI i)), (2, .int (nI dd)), (0, .int (nI x)), (1, .int (nI q))]) hx hb dX7_reached_45 hl (by decide) rfl (fun ls hl => ?_)
                refine lv_iinc (v := (nI (k + 1))) (lv' := [(5, .int (nI (k + 1))), (4, .int (nI 1)), (3, .int (nI i)), (2, .int (nI dd)), (0, .int (nI x)), (1, .int (nI q))]) hx hb dX7_reached_47 hl (k := 1) rfl (nI_add k 1) (by decide) rfl (fun ls hl => ?_)
                refine lv_goto (tgt := 15) hx hb dX7_reached_50 (by decide) ?_
                exact ih15 true (k + 1) (by omega) (by omega) (by subst hv2; simp [k_isn, *]) _ (lv_sub hl [0, 1, 2, 3, 4, 5] rfl)
              · refine lv_iload_n hx hb dX7_reached_30 rfl (lv_at hl 5 rfl) ?_
                refine lv_iload hx hb dX7_reached_31 (lv_at hl 0 rfl) ?_
                refine ro_S (n := 2) ⟨hx, hb, hml, hown, hts⟩ hM hS hP (c7_compared l D tc zb q k (by omega) (by omega)) gX7_reached_X7_compared rfl (by decide +kernel) ⟨Nat.le_of_ble_eq_true rfl, Nat.le_of_ble_eq_true rfl⟩ [] rfl rfl hl.1 rfl (Nat.le_of_ble_eq_true rfl) dX7_reached_33 ⟨Nat.le_refl _, Nat.le_refl _⟩ ?_
                have hf7 := byf_lt (3 * q + k)
                refine lv_iload_n hx hb dX7_reached_36 rfl (lv_at hl 2 rfl) ?_
                refine ln_icmp_ne (tgt := 44) hx hb dX7_reached_37 (by decide) (by omega) (by omega) (fun h8 => ?_) (fun h8 => ?_)
                · refine lv_iconst (v := (nI 0)) hx hb dX7_reached_44 (by decide) ?_
                  refine lv_istore (lv' := [(4, .int (nI 0)), (5, .int (nI k)), (3, .int (nI i)), (2, .int (nI dd)), (0, .int (nI x)), (1, .int (nI q))]) hx hb dX7_reached_45 hl (by decide) rfl (fun ls hl => ?_)
                  refine lv_iinc (v := (nI (k + 1))) (lv' := [(5, .int (nI (k + 1))), (4, .int (nI 0)), (3, .int (nI i)), (2, .int (nI dd)), (0, .int (nI x)), (1, .int (nI q))]) hx hb dX7_reached_47 hl (k := 1) rfl (nI_add k 1) (by decide) rfl (fun ls hl => ?_)
                  refine lv_goto (tgt := 15) hx hb dX7_reached_50 (by decide) ?_
                  exact ih15 false (k + 1) (by omega) (by omega) (by subst hv2; simp [k_isn, *]) _ (lv_sub hl [0, 1, 2, 3, 4, 5] rfl)
                · refine lv_iconst (v := (nI 1)) hx hb dX7_reached_40 (by decide) ?_
                  refine lv_goto (tgt := 45) hx hb dX7_reached_41 (by decide) ?_
                  refine lv_istore (lv' := [(4, .int (nI 1)), (5, .int (nI k)), (3, .int (nI i)), (2, .int (nI dd)), (0, .int (nI x)), (1, .int (nI q))]) hx hb dX7_reached_45 hl (by decide) rfl (fun ls hl => ?_)
                  refine lv_iinc (v := (nI (k + 1))) (lv' := [(5, .int (nI (k + 1))), (4, .int (nI 1)), (3, .int (nI i)), (2, .int (nI dd)), (0, .int (nI x)), (1, .int (nI q))]) hx hb dX7_reached_47 hl (k := 1) rfl (nI_add k 1) (by decide) rfl (fun ls hl => ?_)
                  refine lv_goto (tgt := 15) hx hb dX7_reached_50 (by decide) ?_
                  exact ih15 true (k + 1) (by omega) (by omega) (by subst hv2; simp [k_isn, *]) _ (lv_sub hl [0, 1, 2, 3, 4, 5] rfl)
        exact lp15 _ false 0 (Nat.lt_succ_self _) (by omega) (by rfl) _ (lv_sub hl [0, 1, 2, 3, 4, 5] rfl)
  exact lp4 _ 0 0 (Nat.lt_succ_self _) (by omega) (by rfl) _ (lv_sub hl [0, 1, 2, 3] rfl)
set_option maxHeartbeats 4000000 in
set_option maxRecDepth 100000 in
theorem c7_costBy (l : Launch) (D : va_G) (tc : Nat → ClassId) (zb : Nat) (b b1 : Nat) (o : Nat → Value) (g : Nat → Nat) (x q : Nat) (hk : k_ok g) (hx9 : x < 1331) (hq : q < 6) : RO l yX7_costBy wsX7_costBy 4 89 D tc zb (w_ms tc b b1 o g) [.ref b, .int (nI x), .int (nI q)] (.int (nI (k_cb g x q))) := by
  refine RO.of (cc := cX7_costBy) (maxL := 3) (ret := (some .int)) (by decide) rfl (Nat.le_of_ble_eq_true rfl) ?_
  intro p e s m args below meth c hx hb hr hml hlk hts hown hM hS hP ls hl
  have hl : lv_has ls 3 [(0, .ref b), (1, .int (nI x)), (2, .int (nI q))] := hl
  have hinX7 : ∀ w ∈ u_ws RX7 TX7 9, w ∈ wsX7_costBy := by decide +kernel
  obtain ⟨ok0, ok1, ok2, ok3, ok4, ok5, ok6⟩ := id hk
  refine lv_iload_n hx hb dX7_costBy_0 rfl (lv_at hl 1 rfl) ?_
  refine lv_iload_n hx hb dX7_costBy_1 rfl (lv_at hl 2 rfl) ?_
  refine ro_S (n := 2) ⟨hx, hb, hml, hown, hts⟩ hM hS hP (c7_reachOf l D tc zb x q (by first | omega | exact ok5 _ (by omega)) (by omega)) gX7_costBy_X7_reachOf rfl (by decide +kernel) ⟨Nat.le_of_ble_eq_true rfl, Nat.le_of_ble_eq_true rfl⟩ [] rfl rfl hl.1 rfl (Nat.le_of_ble_eq_true rfl) dX7_costBy_2 ⟨Nat.le_refl _, Nat.le_refl _⟩ ?_
  have hf1 := k_rch_le x q
  refine ln_if_ne (tgt := 17) hx hb dX7_costBy_5 (by decide) (by omega) (fun h2 => ?_) (fun h2 => ?_)
  · refine lv_aload_n hx hb dX7_costBy_17 rfl (lv_at hl 0 rfl) ?_
    refine va_get (D := D) (ci := 6) (v := .ref b1) (C := RX7) (T := TX7) (N := 9) hx hb hts hinX7 hown hM.1 hP 0 rfl rfl 1 (by decide) (hts (.fieldLink RX7 7 "TripleWaysModel" "s" "[I") (by decide +kernel)) (fun _ h9 => h9) rfl dX7_costBy_18 ?_
    refine lv_iconst (v := (nI 0)) hx hb dX7_costBy_21 (by decide) ?_
    refine ln_iald hx hb hM.1 hP 1 0 rfl rfl dX7_costBy_22 (by decide) (by omega) (rfl) ?_
    refine ro_S (n := 1) ⟨hx, hb, hml, hown, hts⟩ hM hS hP (c7_look l D tc zb (g 0) (by omega)) gX7_costBy_X7_look rfl (by decide +kernel) ⟨Nat.le_of_ble_eq_true rfl, Nat.le_of_ble_eq_true rfl⟩ [] rfl rfl hl.1 rfl (Nat.le_of_ble_eq_true rfl) dX7_costBy_23 ⟨Nat.le_refl _, Nat.le_refl _⟩ ?_
    have hf3 := k_lk_le ((g 0))
    refine lv_aload_n hx hb dX7_costBy_26 rfl (lv_at hl 0 rfl) ?_
    refine lv_iload_n hx hb dX7_costBy_27 rfl (lv_at hl 1 rfl) ?_
    refine lv_iload_n hx hb dX7_costBy_28 rfl (lv_at hl 2 rfl) ?_
    refine ro_S (n := 2) ⟨hx, hb, hml, hown, hts⟩ hM hS hP (c7_reached l D tc zb x q (by first | omega | exact ok5 _ (by omega)) (by omega)) gX7_costBy_X7_reached rfl (by decide +kernel) ⟨Nat.le_of_ble_eq_true rfl, Nat.le_of_ble_eq_true rfl⟩ [] rfl rfl hl.1 rfl (Nat.le_of_ble_eq_true rfl) dX7_costBy_29 ⟨Nat.le_refl _, Nat.le_refl _⟩ ?_
    have hf4 := show k_red x q (k_rch x q) < 1331 from k_red_lt (by first | omega | exact ok5 _ (by omega)) (by omega)
    refine ro_V (C := RX7) (n := 1) ⟨hx, hb, hml, hown, hts⟩ hM hS hP (c7_answersOf l D tc zb b b1 o g (k_red x q (k_rch x q)) hk (by first | omega | exact ok5 _ (by omega))) gX7_costBy_X7_answersOf rfl (by decide +kernel) ⟨Nat.le_of_ble_eq_true rfl, Nat.le_of_ble_eq_true rfl⟩ [0, 1] rfl (va_recv hM.1 hP (ci := 6) (q0 := 0) rfl rfl) rfl hl.1 rfl (Nat.le_of_ble_eq_true rfl) dX7_costBy_32 ⟨Nat.le_refl _, Nat.le_refl _⟩ ?_
    have hf5 := k_cnt_le g (k_red x q (k_rch x q))
    refine ln_iadd hx hb dX7_costBy_35 ?_
    exact ro_iret hx hb hr hlk dX7_costBy_36 (congrArg nI (by unfold k_cb; (repeat' split) <;> omega))
  · refine lv_aload_n hx hb dX7_costBy_8 rfl (lv_at hl 0 rfl) ?_
    refine va_get (D := D) (ci := 6) (v := .ref b1) (C := RX7) (T := TX7) (N := 9) hx hb hts hinX7 hown hM.1 hP 0 rfl rfl 1 (by decide) (hts (.fieldLink RX7 7 "TripleWaysModel" "s" "[I") (by decide +kernel)) (fun _ h9 => h9) rfl dX7_costBy_9 ?_
    refine lv_iconst (v := (nI 0)) hx hb dX7_costBy_12 (by decide) ?_
    refine ln_iald hx hb hM.1 hP 1 0 rfl rfl dX7_costBy_13 (by decide) (by omega) (rfl) ?_
    refine lv_goto (tgt := 36) hx hb dX7_costBy_14 (by decide) ?_
    exact ro_iret hx hb hr hlk dX7_costBy_36 (congrArg nI (by unfold k_cb; (repeat' split) <;> omega))
set_option maxHeartbeats 4000000 in
set_option maxRecDepth 100000 in
theorem c7_orderOf (l : Launch) (D : va_G) (tc : Nat → ClassId) (zb : Nat) (b b1 : Nat) (o : Nat → Value) (g : Nat → Nat) (x set : Nat) (hk : k_ok g) (hx9 : x < 1331) (hs : set < 64) : RO l yX7_orderOf wsX7_orderOf 5 111 D tc zb (w_ms tc b b1 o g) [.ref b, .int (nI x), .int (nI set)] (.int (oI (k_or g x set 6))) := by
  refine RO.of (cc := cX7_orderOf) (maxL := 7) (ret := (some .int)) (by decide) rfl (Nat.le_of_ble_eq_true rfl) ?_
  intro p e s m args below meth c hx hb hr hml hlk hts hown hM hS hP ls hl
  have hl : lv_has ls 7 [(0, .ref b), (1, .int (nI x)), (2, .int (nI set))] := hl
  have hinX7 : ∀ w ∈ u_ws RX7 TX7 9, w ∈ wsX7_orderOf := by decide +kernel
  obtain ⟨ok0, ok1, ok2, ok3, ok4, ok5, ok6⟩ := id hk
  refine lv_iconst (v := (-1)) hx hb dX7_orderOf_0 (by decide) ?_
  refine lv_istore_n (lv' := [(3, .int (-1)), (0, .ref b), (1, .int (nI x)), (2, .int (nI set))]) hx hb dX7_orderOf_1 rfl hl (by decide) rfl (fun ls hl => ?_)
  refine lv_aload_n hx hb dX7_orderOf_2 rfl (lv_at hl 1 rfl) ?_
  refine va_get (D := D) (ci := 6) (v := .ref b1) (C := RX7) (T := TX7) (N := 9) hx hb hts hinX7 hown hM.1 hP 0 rfl rfl 1 (by decide) (hts (.fieldLink RX7 7 "TripleWaysModel" "s" "[I") (by decide +kernel)) (fun _ h9 => h9) rfl dX7_orderOf_3 ?_
  refine lv_iconst (v := (nI 0)) hx hb dX7_orderOf_6 (by decide) ?_
  refine ln_iald hx hb hM.1 hP 1 0 rfl rfl dX7_orderOf_7 (by decide) (by omega) (rfl) ?_
  refine lv_istore (lv' := [(4, .int (nI (g 0))), (3, .int (-1)), (0, .ref b), (1, .int (nI x)), (2, .int (nI set))]) hx hb dX7_orderOf_8 hl (by decide) rfl (fun ls hl => ?_)
  refine lv_iconst (v := (nI 0)) hx hb dX7_orderOf_10 (by decide) ?_
  refine lv_istore (lv' := [(5, .int (nI 0)), (4, .int (nI (g 0))), (3, .int (-1)), (0, .ref b), (1, .int (nI x)), (2, .int (nI set))]) hx hb dX7_orderOf_11 hl (by decide) rfl (fun ls hl => ?_)
  have lp13 : ∀ (n9 : Nat) (bo : Option Nat) (v : Nat) (i : Nat), (6 - i) < n9 → (i ≤ 6) → (v = k_mn g x set i) → (v ≤ g 0) → (bo = k_or g x set i) → ∀ ls : Array Slot, lv_has ls 7 [(5, .int (nI i)), (4, .int (nI v)), (3, .int (oI (bo))), (0, .ref b), (1, .int (nI x)), (2, .int (nI set))] → W p l e ({ frames := 5, cells := 0, slots := 0, locals := 111 } : Room) s m args below meth c s.heap [] 0 0 (MQ below (roQ (.int (oI (k_or g x set 6)))) args s 0 0 (fun _ => False)) (F0 m 13 ls []) := by
    intro n9
    induction n9 with
    | zero => intro bo v i hmu; exact absurd hmu (Nat.not_lt_zero _)
    | succ n9 ih13 =>
      intro bo v i hmu hi hv hvb hb9 ls hl
      refine lv_iload hx hb dX7_orderOf_13 (lv_at hl 0 rfl) ?_
      refine lv_bipush (v := (nI 6)) hx hb dX7_orderOf_15 (by decide) ?_
      refine ln_icmp_ge (tgt := 83) hx hb dX7_orderOf_17 (by decide) (by omega) (by decide) (fun h1 => ?_) (fun h1 => ?_)
      · refine lv_iload_n hx hb dX7_orderOf_83 rfl (lv_at hl 2 rfl) ?_
        exact ro_iret hx hb hr hlk dX7_orderOf_84 (congrArg oI (by have e9 : i = 6 := (by omega); subst e9; exact hb9))
      · refine lv_iload_n hx hb dX7_orderOf_20 rfl (lv_at hl 5 rfl) ?_
        refine lv_iload hx hb dX7_orderOf_21 (lv_at hl 0 rfl) ?_
        refine ro_S (n := 2) ⟨hx, hb, hml, hown, hts⟩ hM hS hP (c7_isIn l D tc zb set i (by omega) (by omega)) gX7_orderOf_X7_isIn rfl (by decide +kernel) ⟨Nat.le_of_ble_eq_true rfl, Nat.le_of_ble_eq_true rfl⟩ [] rfl rfl hl.1 rfl (Nat.le_of_ble_eq_true rfl) dX7_orderOf_23 ⟨Nat.le_refl _, Nat.le_refl _⟩ ?_
        refine ln_if_eqB (tgt := 39) hx hb dX7_orderOf_26 (by decide) (fun h2 => ?_) (fun h2 => ?_)
        · refine lv_aload_n hx hb dX7_orderOf_39 rfl (lv_at hl 3 rfl) ?_
          refine va_get (D := D) (ci := 6) (v := .ref b1) (C := RX7) (T := TX7) (N := 9) hx hb hts hinX7 hown hM.1 hP 0 rfl rfl 1 (by decide) (hts (.fieldLink RX7 7 "TripleWaysModel" "s" "[I") (by decide +kernel)) (fun _ h9 => h9) rfl dX7_orderOf_40 ?_
          refine lv_iconst (v := (nI 0)) hx hb dX7_orderOf_43 (by decide) ?_
          refine ln_iald hx hb hM.1 hP 1 0 rfl rfl dX7_orderOf_44 (by decide) (by omega) (rfl) ?_
          refine lv_istore (lv' := [(6, .int (nI (g 0))), (5, .int (nI i)), (4, .int (nI v)), (3, .int (oI (bo))), (0, .ref b), (1, .int (nI x)), (2, .int (nI set))]) hx hb dX7_orderOf_45 hl (by decide) rfl (fun ls hl => ?_)
          refine lv_iload hx hb dX7_orderOf_47 (lv_at hl 0 rfl) ?_
          refine lv_iload hx hb dX7_orderOf_49 (lv_at hl 2 rfl) ?_
          refine ln_icmp_ge (tgt := 59) hx hb dX7_orderOf_51 (by decide) (by omega) (by omega) (fun h3 => ?_) (fun h3 => ?_)
          · refine lv_iload_n hx hb dX7_orderOf_59 rfl (lv_at hl 3 rfl) ?_
            refine lv_istore_n (lv' := [(3, .int (oI (bo))), (6, .int (nI (g 0))), (5, .int (nI i)), (4, .int (nI v)), (0, .ref b), (1, .int (nI x)), (2, .int (nI set))]) hx hb dX7_orderOf_60 rfl hl (by decide) rfl (fun ls hl => ?_)
            refine lv_iload hx hb dX7_orderOf_61 (lv_at hl 1 rfl) ?_
            refine lv_iload hx hb dX7_orderOf_63 (lv_at hl 3 rfl) ?_
            refine ln_icmp_ge (tgt := 73) hx hb dX7_orderOf_65 (by decide) (by omega) (by omega) (fun h4 => ?_) (fun h4 => ?_)
            · refine lv_iload hx hb dX7_orderOf_73 (lv_at hl 3 rfl) ?_
              refine lv_istore (lv' := [(4, .int (nI v)), (3, .int (oI (bo))), (6, .int (nI (g 0))), (5, .int (nI i)), (0, .ref b), (1, .int (nI x)), (2, .int (nI set))]) hx hb dX7_orderOf_75 hl (by decide) rfl (fun ls hl => ?_)
              refine lv_iinc (v := (nI (i + 1))) (lv' := [(5, .int (nI (i + 1))), (4, .int (nI v)), (3, .int (oI (bo))), (6, .int (nI (g 0))), (0, .ref b), (1, .int (nI x)), (2, .int (nI set))]) hx hb dX7_orderOf_77 hl (k := 3) rfl (nI_add i 1) (by decide) rfl (fun ls hl => ?_)
              refine lv_goto (tgt := 13) hx hb dX7_orderOf_80 (by decide) ?_
              exact ih13 bo v (i + 1) (by omega) (by omega) (by first | (exfalso; omega) | (rw [k_mn, if_pos (by assumption), ← hv, Nat.min_eq_right (by omega)]) | (rw [k_mn, if_pos (by assumption), ← hv, Nat.min_eq_left (by omega)]) | (rw [k_mn, if_neg (by simp [*])]; exact hv) | (exfalso; omega)) (by omega) (by first | (exfalso; omega) | (rw [k_or, if_pos ⟨by assumption, by omega⟩]) | (rw [k_or, if_neg (fun h9 => by have := h9.2; omega)]; exact hb9) | (rw [k_or, if_neg (fun h9 => by have := h9.1; simp_all)]; exact hb9) | (exfalso; omega)) _ (lv_sub hl [0, 1, 2, 4, 5, 6] rfl)
            · refine lv_iload hx hb dX7_orderOf_68 (lv_at hl 1 rfl) ?_
              refine lv_goto (tgt := 75) hx hb dX7_orderOf_70 (by decide) ?_
              refine lv_istore (lv' := [(4, .int (nI (g 0))), (3, .int (oI (bo))), (6, .int (nI (g 0))), (5, .int (nI i)), (0, .ref b), (1, .int (nI x)), (2, .int (nI set))]) hx hb dX7_orderOf_75 hl (by decide) rfl (fun ls hl => ?_)
              refine lv_iinc (v := (nI (i + 1))) (lv' := [(5, .int (nI (i + 1))), (4, .int (nI (g 0))), (3, .int (oI (bo))), (6, .int (nI (g 0))), (0, .ref b), (1, .int (nI x)), (2, .int (nI set))]) hx hb dX7_orderOf_77 hl (k := 3) rfl (nI_add i 1) (by decide) rfl (fun ls hl => ?_)
              refine lv_goto (tgt := 13) hx hb dX7_orderOf_80 (by decide) ?_
              exact ih13 bo (g 0) (i + 1) (by omega) (by omega) (by first | (exfalso; omega) | (rw [k_mn, if_pos (by assumption), ← hv, Nat.min_eq_right (by omega)]) | (rw [k_mn, if_pos (by assumption), ← hv, Nat.min_eq_left (by omega)]) | (rw [k_mn, if_neg (by simp [*])]; exact hv) | (exfalso; omega)) (by omega) (by first | (exfalso; omega) | (rw [k_or, if_pos ⟨by assumption, by omega⟩]) | (rw [k_or, if_neg (fun h9 => by have := h9.2; omega)]; exact hb9) | (rw [k_or, if_neg (fun h9 => by have := h9.1; simp_all)]; exact hb9) | (exfalso; omega)) _ (lv_sub hl [0, 1, 2, 4, 5, 6] rfl)
          · refine lv_iload hx hb dX7_orderOf_54 (lv_at hl 1 rfl) ?_
            refine lv_goto (tgt := 60) hx hb dX7_orderOf_56 (by decide) ?_
            refine lv_istore_n (lv' := [(3, .int (nI i)), (6, .int (nI (g 0))), (5, .int (nI i)), (4, .int (nI v)), (0, .ref b), (1, .int (nI x)), (2, .int (nI set))]) hx hb dX7_orderOf_60 rfl hl (by decide) rfl (fun ls hl => ?_)
            refine lv_iload hx hb dX7_orderOf_61 (lv_at hl 1 rfl) ?_
            refine lv_iload hx hb dX7_orderOf_63 (lv_at hl 3 rfl) ?_
            refine ln_icmp_ge (tgt := 73) hx hb dX7_orderOf_65 (by decide) (by omega) (by omega) (fun h5 => ?_) (fun h5 => ?_)
            · refine lv_iload hx hb dX7_orderOf_73 (lv_at hl 3 rfl) ?_
              refine lv_istore (lv' := [(4, .int (nI v)), (3, .int (nI i)), (6, .int (nI (g 0))), (5, .int (nI i)), (0, .ref b), (1, .int (nI x)), (2, .int (nI set))]) hx hb dX7_orderOf_75 hl (by decide) rfl (fun ls hl => ?_)
              refine lv_iinc (v := (nI (i + 1))) (lv' := [(5, .int (nI (i + 1))), (4, .int (nI v)), (3, .int (nI i)), (6, .int (nI (g 0))), (0, .ref b), (1, .int (nI x)), (2, .int (nI set))]) hx hb dX7_orderOf_77 hl (k := 3) rfl (nI_add i 1) (by decide) rfl (fun ls hl => ?_)
              refine lv_goto (tgt := 13) hx hb dX7_orderOf_80 (by decide) ?_
              exact ih13 (some i) v (i + 1) (by omega) (by omega) (by first | (exfalso; omega) | (rw [k_mn, if_pos (by assumption), ← hv, Nat.min_eq_right (by omega)]) | (rw [k_mn, if_pos (by assumption), ← hv, Nat.min_eq_left (by omega)]) | (rw [k_mn, if_neg (by simp [*])]; exact hv) | (exfalso; omega)) (by omega) (by first | (exfalso; omega) | (rw [k_or, if_pos ⟨by assumption, by omega⟩]) | (rw [k_or, if_neg (fun h9 => by have := h9.2; omega)]; exact hb9) | (rw [k_or, if_neg (fun h9 => by have := h9.1; simp_all)]; exact hb9) | (exfalso; omega)) _ (lv_sub hl [0, 1, 2, 4, 5, 6] rfl)
            · refine lv_iload hx hb dX7_orderOf_68 (lv_at hl 1 rfl) ?_
              refine lv_goto (tgt := 75) hx hb dX7_orderOf_70 (by decide) ?_
              refine lv_istore (lv' := [(4, .int (nI (g 0))), (3, .int (nI i)), (6, .int (nI (g 0))), (5, .int (nI i)), (0, .ref b), (1, .int (nI x)), (2, .int (nI set))]) hx hb dX7_orderOf_75 hl (by decide) rfl (fun ls hl => ?_)
              refine lv_iinc (v := (nI (i + 1))) (lv' := [(5, .int (nI (i + 1))), (4, .int (nI (g 0))), (3, .int (nI i)), (6, .int (nI (g 0))), (0, .ref b), (1, .int (nI x)), (2, .int (nI set))]) hx hb dX7_orderOf_77 hl (k := 3) rfl (nI_add i 1) (by decide) rfl (fun ls hl => ?_)
              refine lv_goto (tgt := 13) hx hb dX7_orderOf_80 (by decide) ?_
              exact ih13 (some i) (g 0) (i + 1) (by omega) (by omega) (by first | (exfalso; omega) | (rw [k_mn, if_pos (by assumption), ← hv, Nat.min_eq_right (by omega)]) | (rw [k_mn, if_pos (by assumption), ← hv, Nat.min_eq_left (by omega)]) | (rw [k_mn, if_neg (by simp [*])]; exact hv) | (exfalso; omega)) (by omega) (by first | (exfalso; omega) | (rw [k_or, if_pos ⟨by assumption, by omega⟩]) | (rw [k_or, if_neg (fun h9 => by have := h9.2; omega)]; exact hb9) | (rw [k_or, if_neg (fun h9 => by have := h9.1; simp_all)]; exact hb9) | (exfalso; omega)) _ (lv_sub hl [0, 1, 2, 4, 5, 6] rfl)
        · refine lv_aload_n hx hb dX7_orderOf_29 rfl (lv_at hl 3 rfl) ?_
          refine lv_iload_n hx hb dX7_orderOf_30 rfl (lv_at hl 4 rfl) ?_
          refine lv_iload hx hb dX7_orderOf_31 (lv_at hl 0 rfl) ?_
          refine ro_V (C := RX7) (n := 2) ⟨hx, hb, hml, hown, hts⟩ hM hS hP (c7_costBy l D tc zb b b1 o g x i hk (by first | omega | exact ok5 _ (by omega)) (by omega)) gX7_orderOf_X7_costBy rfl (by decide +kernel) ⟨Nat.le_of_ble_eq_true rfl, Nat.le_of_ble_eq_true rfl⟩ [0, 1] rfl (va_recv hM.1 hP (ci := 6) (q0 := 0) rfl rfl) rfl hl.1 rfl (Nat.le_of_ble_eq_true rfl) dX7_orderOf_33 ⟨Nat.le_refl _, Nat.le_refl _⟩ ?_
          have hf6 := k_cb_le g x i
          refine lv_goto (tgt := 45) hx hb dX7_orderOf_36 (by decide) ?_
          refine lv_istore (lv' := [(6, .int (nI (k_cb g x i))), (5, .int (nI i)), (4, .int (nI v)), (3, .int (oI (bo))), (0, .ref b), (1, .int (nI x)), (2, .int (nI set))]) hx hb dX7_orderOf_45 hl (by decide) rfl (fun ls hl => ?_)
          refine lv_iload hx hb dX7_orderOf_47 (lv_at hl 0 rfl) ?_
          refine lv_iload hx hb dX7_orderOf_49 (lv_at hl 2 rfl) ?_
          refine ln_icmp_ge (tgt := 59) hx hb dX7_orderOf_51 (by decide) (by omega) (by omega) (fun h7 => ?_) (fun h7 => ?_)
          · refine lv_iload_n hx hb dX7_orderOf_59 rfl (lv_at hl 3 rfl) ?_
            refine lv_istore_n (lv' := [(3, .int (oI (bo))), (6, .int (nI (k_cb g x i))), (5, .int (nI i)), (4, .int (nI v)), (0, .ref b), (1, .int (nI x)), (2, .int (nI set))]) hx hb dX7_orderOf_60 rfl hl (by decide) rfl (fun ls hl => ?_)
            refine lv_iload hx hb dX7_orderOf_61 (lv_at hl 1 rfl) ?_
            refine lv_iload hx hb dX7_orderOf_63 (lv_at hl 3 rfl) ?_
            refine ln_icmp_ge (tgt := 73) hx hb dX7_orderOf_65 (by decide) (by omega) (by omega) (fun h8 => ?_) (fun h8 => ?_)
            · refine lv_iload hx hb dX7_orderOf_73 (lv_at hl 3 rfl) ?_
              refine lv_istore (lv' := [(4, .int (nI v)), (3, .int (oI (bo))), (6, .int (nI (k_cb g x i))), (5, .int (nI i)), (0, .ref b), (1, .int (nI x)), (2, .int (nI set))]) hx hb dX7_orderOf_75 hl (by decide) rfl (fun ls hl => ?_)
              refine lv_iinc (v := (nI (i + 1))) (lv' := [(5, .int (nI (i + 1))), (4, .int (nI v)), (3, .int (oI (bo))), (6, .int (nI (k_cb g x i))), (0, .ref b), (1, .int (nI x)), (2, .int (nI set))]) hx hb dX7_orderOf_77 hl (k := 3) rfl (nI_add i 1) (by decide) rfl (fun ls hl => ?_)
              refine lv_goto (tgt := 13) hx hb dX7_orderOf_80 (by decide) ?_
              exact ih13 bo v (i + 1) (by omega) (by omega) (by first | (exfalso; omega) | (rw [k_mn, if_pos (by assumption), ← hv, Nat.min_eq_right (by omega)]) | (rw [k_mn, if_pos (by assumption), ← hv, Nat.min_eq_left (by omega)]) | (rw [k_mn, if_neg (by simp [*])]; exact hv) | (exfalso; omega)) (by omega) (by first | (exfalso; omega) | (rw [k_or, if_pos ⟨by assumption, by omega⟩]) | (rw [k_or, if_neg (fun h9 => by have := h9.2; omega)]; exact hb9) | (rw [k_or, if_neg (fun h9 => by have := h9.1; simp_all)]; exact hb9) | (exfalso; omega)) _ (lv_sub hl [0, 1, 2, 4, 5, 6] rfl)
            · refine lv_iload hx hb dX7_orderOf_68 (lv_at hl 1 rfl) ?_
              refine lv_goto (tgt := 75) hx hb dX7_orderOf_70 (by decide) ?_
              refine lv_istore (lv' := [(4, .int (nI (k_cb g x i))), (3, .int (oI (bo))), (6, .int (nI (k_cb g x i))), (5, .int (nI i)), (0, .ref b), (1, .int (nI x)), (2, .int (nI set))]) hx hb dX7_orderOf_75 hl (by decide) rfl (fun ls hl => ?_)
              refine lv_iinc (v := (nI (i + 1))) (lv' := [(5, .int (nI (i + 1))), (4, .int (nI (k_cb g x i))), (3, .int (oI (bo))), (6, .int (nI (k_cb g x i))), (0, .ref b), (1, .int (nI x)), (2, .int (nI set))]) hx hb dX7_orderOf_77 hl (k := 3) rfl (nI_add i 1) (by decide) rfl (fun ls hl => ?_)
              refine lv_goto (tgt := 13) hx hb dX7_orderOf_80 (by decide) ?_
              exact ih13 bo (k_cb g x i) (i + 1) (by omega) (by omega) (by first | (exfalso; omega) | (rw [k_mn, if_pos (by assumption), ← hv, Nat.min_eq_right (by omega)]) | (rw [k_mn, if_pos (by assumption), ← hv, Nat.min_eq_left (by omega)]) | (rw [k_mn, if_neg (by simp [*])]; exact hv) | (exfalso; omega)) (by omega) (by first | (exfalso; omega) | (rw [k_or, if_pos ⟨by assumption, by omega⟩]) | (rw [k_or, if_neg (fun h9 => by have := h9.2; omega)]; exact hb9) | (rw [k_or, if_neg (fun h9 => by have := h9.1; simp_all)]; exact hb9) | (exfalso; omega)) _ (lv_sub hl [0, 1, 2, 4, 5, 6] rfl)
          · refine lv_iload hx hb dX7_orderOf_54 (lv_at hl 1 rfl) ?_
            refine lv_goto (tgt := 60) hx hb dX7_orderOf_56 (by decide) ?_
            refine lv_istore_n (lv' := [(3, .int (nI i)), (6, .int (nI (k_cb g x i))), (5, .int (nI i)), (4, .int (nI v)), (0, .ref b), (1, .int (nI x)), (2, .int (nI set))]) hx hb dX7_orderOf_60 rfl hl (by decide) rfl (fun ls hl => ?_)
            refine lv_iload hx hb dX7_orderOf_61 (lv_at hl 1 rfl) ?_
            refine lv_iload hx hb dX7_orderOf_63 (lv_at hl 3 rfl) ?_
            refine ln_icmp_ge (tgt := 73) hx hb dX7_orderOf_65 (by decide) (by omega) (by omega) (fun h9 => ?_) (fun h9 => ?_)
            · refine lv_iload hx hb dX7_orderOf_73 (lv_at hl 3 rfl) ?_
              refine lv_istore (lv' := [(4, .int (nI v)), (3, .int (nI i)), (6, .int (nI (k_cb g x i))), (5, .int (nI i)), (0, .ref b), (1, .int (nI x)), (2, .int (nI set))]) hx hb dX7_orderOf_75 hl (by decide) rfl (fun ls hl => ?_)
              refine lv_iinc (v := (nI (i + 1))) (lv' := [(5, .int (nI (i + 1))), (4, .int (nI v)), (3, .int (nI i)), (6, .int (nI (k_cb g x i))), (0, .ref b), (1, .int (nI x)), (2, .int (nI set))]) hx hb dX7_orderOf_77 hl (k := 3) rfl (nI_add i 1) (by decide) rfl (fun ls hl => ?_)
              refine lv_goto (tgt := 13) hx hb dX7_orderOf_80 (by decide) ?_
              exact ih13 (some i) v (i + 1) (by omega) (by omega) (by first | (exfalso; omega) | (rw [k_mn, if_pos (by assumption), ← hv, Nat.min_eq_right (by omega)]) | (rw [k_mn, if_pos (by assumption), ← hv, Nat.min_eq_left (by omega)]) | (rw [k_mn, if_neg (by simp [*])]; exact hv) | (exfalso; omega)) (by omega) (by first | (exfalso; omega) | (rw [k_or, if_pos ⟨by assumption, by omega⟩]) | (rw [k_or, if_neg (fun h9 => by have := h9.2; omega)]; exact hb9) | (rw [k_or, if_neg (fun h9 => by have := h9.1; simp_all)]; exact hb9) | (exfalso; omega)) _ (lv_sub hl [0, 1, 2, 4, 5, 6] rfl)
            · refine lv_iload hx hb dX7_orderOf_68 (lv_at hl 1 rfl) ?_
              refine lv_goto (tgt := 75) hx hb dX7_orderOf_70 (by decide) ?_
              refine lv_istore (lv' := [(4, .int (nI (k_cb g x i))), (3, .int (nI i)), (6, .int (nI (k_cb g x i))), (5, .int (nI i)), (0, .ref b), (1, .int (nI x)), (2, .int (nI set))]) hx hb dX7_orderOf_75 hl (by decide) rfl (fun ls hl => ?_)
              refine lv_iinc (v := (nI (i + 1))) (lv' := [(5, .int (nI (i + 1))), (4, .int (nI (k_cb g x i))), (3, .int (nI i)), (6, .int (nI (k_cb g x i))), (0, .ref b), (1, .int (nI x)), (2, .int (nI set))]) hx hb dX7_orderOf_77 hl (k := 3) rfl (nI_add i 1) (by decide) rfl (fun ls hl => ?_)
              refine lv_goto (tgt := 13) hx hb dX7_orderOf_80 (by decide) ?_
              exact ih13 (some i) (k_cb g x i) (i + 1) (by omega) (by omega) (by first | (exfalso; omega) | (rw [k_mn, if_pos (by assumption), ← hv, Nat.min_eq_right (by omega)]) | (rw [k_mn, if_pos (by assumption), ← hv, Nat.min_eq_left (by omega)]) | (rw [k_mn, if_neg (by simp [*])]; exact hv) | (exfalso; omega)) (by omega) (by first | (exfalso; omega) | (rw [k_or, if_pos ⟨by assumption, by omega⟩]) | (rw [k_or, if_neg (fun h9 => by have := h9.2; omega)]; exact hb9) | (rw [k_or, if_neg (fun h9 => by have := h9.1; simp_all)]; exact hb9) | (exfalso; omega)) _ (lv_sub hl [0, 1, 2, 4, 5, 6] rfl)
  exact lp13 _ none (g 0) 0 (Nat.lt_succ_self _) (by omega) (by rfl) (by omega) (by rfl) _ (lv_sub hl [0, 1, 2, 3, 4, 5] rfl)
set_option maxHeartbeats 4000000 in
set_option maxRecDepth 100000 in
theorem c7_costOf (l : Launch) (D : va_G) (tc : Nat → ClassId) (zb : Nat) (b b1 : Nat) (o : Nat → Value) (g : Nat → Nat) (x set : Nat) (hk : k_ok g) (hx9 : x < 1331) (hs : set < 64) : RO l yX7_costOf wsX7_costOf 6 137 D tc zb (w_ms tc b b1 o g) [.ref b, .int (nI x), .int (nI set)] (.int (nI (k_mn g x set 6))) := by
  refine RO.of (cc := cX7_costOf) (maxL := 4) (ret := (some .int)) (by decide) rfl (Nat.le_of_ble_eq_true rfl) ?_
  intro p e s m args below meth c hx hb hr hml hlk hts hown hM hS hP ls hl
  have hl : lv_has ls 4 [(0, .ref b), (1, .int (nI x)), (2, .int (nI set))] := hl
  have hinX7 : ∀ w ∈ u_ws RX7 TX7 9, w ∈ wsX7_costOf := by decide +kernel
  obtain ⟨ok0, ok1, ok2, ok3, ok4, ok5, ok6⟩ := id hk
  refine lv_aload_n hx hb dX7_costOf_0 rfl (lv_at hl 0 rfl) ?_
  refine lv_iload_n hx hb dX7_costOf_1 rfl (lv_at hl 1 rfl) ?_
  refine lv_iload_n hx hb dX7_costOf_2 rfl (lv_at hl 2 rfl) ?_
  refine ro_V (C := RX7) (n := 2) ⟨hx, hb, hml, hown, hts⟩ hM hS hP (c7_orderOf l D tc zb b b1 o g x set hk (by first | omega | exact ok5 _ (by omega)) (by omega)) gX7_costOf_X7_orderOf rfl (by decide +kernel) ⟨Nat.le_of_ble_eq_true rfl, Nat.le_of_ble_eq_true rfl⟩ [0, 1] rfl (va_recv hM.1 hP (ci := 6) (q0 := 0) rfl rfl) rfl hl.1 rfl (Nat.le_of_ble_eq_true rfl) dX7_costOf_3 ⟨Nat.le_refl _, Nat.le_refl _⟩ ?_
  cases ho3 : k_or g x set 6 with
  | none =>
    refine ln_eq (x' := -1) rfl ?_
    have hr9 := k_or_none ho3
    refine lv_istore_n (lv' := [(3, .int (-1)), (0, .ref b), (1, .int (nI x)), (2, .int (nI set))]) hx hb dX7_costOf_6 rfl hl (by decide) rfl (fun ls hl => ?_)
    refine lv_iload_n hx hb dX7_costOf_7 rfl (lv_at hl 0 rfl) ?_
    refine lv_iconst (v := (-1)) hx hb dX7_costOf_8 (by decide) ?_
    refine lv_icmp_ne (tgt := 21) hx hb dX7_costOf_9 (by decide) (fun h9 => False.elim (by revert h9; decide)) (fun _ => ?_)
    refine lv_aload_n hx hb dX7_costOf_12 rfl (lv_at hl 1 rfl) ?_
    refine va_get (D := D) (ci := 6) (v := .ref b1) (C := RX7) (T := TX7) (N := 9) hx hb hts hinX7 hown hM.1 hP 0 rfl rfl 1 (by decide) (hts (.fieldLink RX7 7 "TripleWaysModel" "s" "[I") (by decide +kernel)) (fun _ h9 => h9) rfl dX7_costOf_13 ?_
    refine lv_iconst (v := (nI 0)) hx hb dX7_costOf_16 (by decide) ?_
    refine ln_iald hx hb hM.1 hP 1 0 rfl rfl dX7_costOf_17 (by decide) (by omega) (rfl) ?_
    refine lv_goto (tgt := 27) hx hb dX7_costOf_18 (by decide) ?_
    exact ro_iret hx hb hr hlk dX7_costOf_27 (congrArg nI (by omega))
  | some r3 =>
    refine ln_eq (x' := nI r3) rfl ?_
    have hr9 := k_or_lt ho3
    refine lv_istore_n (lv' := [(3, .int (nI r3)), (0, .ref b), (1, .int (nI x)), (2, .int (nI set))]) hx hb dX7_costOf_6 rfl hl (by decide) rfl (fun ls hl => ?_)
    refine lv_iload_n hx hb dX7_costOf_7 rfl (lv_at hl 0 rfl) ?_
    refine lv_iconst (v := (-1)) hx hb dX7_costOf_8 (by decide) ?_
    refine ln_ne_m1 (tgt := 21) hx hb dX7_costOf_9 (by decide) (by omega) ?_
    refine lv_aload_n hx hb dX7_costOf_21 rfl (lv_at hl 1 rfl) ?_
    refine lv_iload_n hx hb dX7_costOf_22 rfl (lv_at hl 2 rfl) ?_
    refine lv_iload_n hx hb dX7_costOf_23 rfl (lv_at hl 0 rfl) ?_
    refine ro_V (C := RX7) (n := 2) ⟨hx, hb, hml, hown, hts⟩ hM hS hP (c7_costBy l D tc zb b b1 o g x r3 hk (by first | omega | exact ok5 _ (by omega)) (by omega)) gX7_costOf_X7_costBy rfl (by decide +kernel) ⟨Nat.le_of_ble_eq_true rfl, Nat.le_of_ble_eq_true rfl⟩ [0, 1] rfl (va_recv hM.1 hP (ci := 6) (q0 := 0) rfl rfl) rfl hl.1 rfl (Nat.le_of_ble_eq_true rfl) dX7_costOf_24 ⟨Nat.le_refl _, Nat.le_refl _⟩ ?_
    have hf1 := k_cb_le g x r3
    exact ro_iret hx hb hr hlk dX7_costOf_27 (congrArg nI (by omega))
set_option maxHeartbeats 4000000 in
set_option maxRecDepth 100000 in
theorem c7_placeOf (l : Launch) (D : va_G) (tc : Nat → ClassId) (zb : Nat) (b b1 : Nat) (o : Nat → Value) (g : Nat → Nat) (t : Nat) (hk : k_ok g) (ht : t < 1000) : RO l yX7_placeOf wsX7_placeOf 0 0 D tc zb (w_ms tc b b1 o g) [.ref b, .int (nI t)] (.int (oI (k_ix g t))) := by
  refine RO.of (cc := cX7_placeOf) (maxL := 4) (ret := (some .int)) (by decide) rfl (Nat.le_of_ble_eq_true rfl) ?_
  intro p e s m args below meth c hx hb hr hml hlk hts hown hM hS hP ls hl
  have hl : lv_has ls 4 [(0, .ref b), (1, .int (nI t))] := hl
  have hinX7 : ∀ w ∈ u_ws RX7 TX7 9, w ∈ wsX7_placeOf := by decide +kernel
  obtain ⟨ok0, ok1, ok2, ok3, ok4, ok5, ok6⟩ := id hk
  refine lv_iconst (v := (-1)) hx hb dX7_placeOf_0 (by decide) ?_
  refine lv_istore_n (lv' := [(2, .int (-1)), (0, .ref b), (1, .int (nI t))]) hx hb dX7_placeOf_1 rfl hl (by decide) rfl (fun ls hl => ?_)
  refine lv_iconst (v := (nI 0)) hx hb dX7_placeOf_2 (by decide) ?_
  refine lv_istore_n (lv' := [(3, .int (nI 0)), (2, .int (-1)), (0, .ref b), (1, .int (nI t))]) hx hb dX7_placeOf_3 rfl hl (by decide) rfl (fun ls hl => ?_)
  have lp4 : ∀ (n9 : Nat) (fo : Option Nat) (i : Nat), (g 0 - i) < n9 → (i ≤ g 0) → (fo = k_ix0 g t i) → ∀ ls : Array Slot, lv_has ls 4 [(3, .int (nI i)), (2, .int (oI (fo))), (0, .ref b), (1, .int (nI t))] → W p l e ({ frames := 0, cells := 0, slots := 0, locals := 0 } : Room) s m args below meth c s.heap [] 0 0 (MQ below (roQ (.int (oI (k_ix g t)))) args s 0 0 (fun _ => False)) (F0 m 4 ls []) := by
    intro n9
    induction n9 with
    | zero => intro fo i hmu; exact absurd hmu (Nat.not_lt_zero _)
    | succ n9 ih4 =>
      intro fo i hmu hi hv ls hl
      refine lv_iload_n hx hb dX7_placeOf_4 rfl (lv_at hl 0 rfl) ?_
      refine lv_aload_n hx hb dX7_placeOf_5 rfl (lv_at hl 2 rfl) ?_
      refine va_get (D := D) (ci := 6) (v := .ref b1) (C := RX7) (T := TX7) (N := 9) hx hb hts hinX7 hown hM.1 hP 0 rfl rfl 1 (by decide) (hts (.fieldLink RX7 7 "TripleWaysModel" "s" "[I") (by decide +kernel)) (fun _ h9 => h9) rfl dX7_placeOf_6 ?_
      refine lv_iconst (v := (nI 0)) hx hb dX7_placeOf_9 (by decide) ?_
      refine ln_iald hx hb hM.1 hP 1 0 rfl rfl dX7_placeOf_10 (by decide) (by omega) (rfl) ?_
      refine ln_icmp_ge (tgt := 38) hx hb dX7_placeOf_11 (by decide) (by omega) (by omega) (fun h1 => ?_) (fun h1 => ?_)
      · refine lv_iload_n hx hb dX7_placeOf_38 rfl (lv_at hl 1 rfl) ?_
        exact ro_iret hx hb hr hlk dX7_placeOf_39 (congrArg oI (by have e9 : i = g 0 := (by omega); subst e9; exact hv))
      · refine lv_aload_n hx hb dX7_placeOf_14 rfl (lv_at hl 2 rfl) ?_
        refine va_get (D := D) (ci := 6) (v := .ref b1) (C := RX7) (T := TX7) (N := 9) hx hb hts hinX7 hown hM.1 hP 0 rfl rfl 1 (by decide) (hts (.fieldLink RX7 7 "TripleWaysModel" "s" "[I") (by decide +kernel)) (fun _ h9 => h9) rfl dX7_placeOf_15 ?_
        refine lv_iconst (v := (nI 1)) hx hb dX7_placeOf_18 (by decide) ?_
        refine lv_iload_n hx hb dX7_placeOf_19 rfl (lv_at hl 0 rfl) ?_
        refine ln_iadd hx hb dX7_placeOf_20 ?_
        refine ln_iald hx hb hM.1 hP 1 0 rfl rfl dX7_placeOf_21 (by decide) (by omega) (rfl) ?_
        refine lv_iload_n hx hb dX7_placeOf_22 rfl (lv_at hl 3 rfl) ?_
        have ht8 := ok4 i (by omega)
        refine ln_icmp_ne (tgt := 30) hx hb dX7_placeOf_23 (by decide) (by omega) (by omega) (fun h2 => ?_) (fun h2 => ?_)
        · refine lv_iload_n hx hb dX7_placeOf_30 rfl (lv_at hl 1 rfl) ?_
          refine lv_istore_n (lv' := [(2, .int (oI (fo))), (3, .int (nI i)), (0, .ref b), (1, .int (nI t))]) hx hb dX7_placeOf_31 rfl hl (by decide) rfl (fun ls hl => ?_)
          refine lv_iinc (v := (nI (i + 1))) (lv' := [(3, .int (nI (i + 1))), (2, .int (oI (fo))), (0, .ref b), (1, .int (nI t))]) hx hb dX7_placeOf_32 hl (k := 1) rfl (nI_add i 1) (by decide) rfl (fun ls hl => ?_)
          refine lv_goto (tgt := 4) hx hb dX7_placeOf_35 (by decide) ?_
          exact ih4 fo (i + 1) (by omega) (by omega) (by first | exact (k_ix_yes hk (by omega) (by assumption)).symm | (rw [k_ix_no (by assumption)]; exact hv)) _ (lv_sub hl [0, 1, 2, 3] rfl)
        · refine lv_iload_n hx hb dX7_placeOf_26 rfl (lv_at hl 0 rfl) ?_
          refine lv_goto (tgt := 31) hx hb dX7_placeOf_27 (by decide) ?_
          refine lv_istore_n (lv' := [(2, .int (nI i)), (3, .int (nI i)), (0, .ref b), (1, .int (nI t))]) hx hb dX7_placeOf_31 rfl hl (by decide) rfl (fun ls hl => ?_)
          refine lv_iinc (v := (nI (i + 1))) (lv' := [(3, .int (nI (i + 1))), (2, .int (nI i)), (0, .ref b), (1, .int (nI t))]) hx hb dX7_placeOf_32 hl (k := 1) rfl (nI_add i 1) (by decide) rfl (fun ls hl => ?_)
          refine lv_goto (tgt := 4) hx hb dX7_placeOf_35 (by decide) ?_
          exact ih4 (some i) (i + 1) (by omega) (by omega) (by first | exact (k_ix_yes hk (by omega) (by assumption)).symm | (rw [k_ix_no (by assumption)]; exact hv)) _ (lv_sub hl [0, 1, 2, 3] rfl)
  exact lp4 _ none 0 (Nat.lt_succ_self _) (by omega) (by rfl) _ (lv_sub hl [0, 1, 2, 3] rfl)
set_option maxHeartbeats 4000000 in
set_option maxRecDepth 100000 in
theorem c7_ith (l : Launch) (D : va_G) (tc : Nat → ClassId) (zb : Nat) (b b1 : Nat) (o : Nat → Value) (g : Nat → Nat) (x q pl : Nat) (hk : k_ok g) (hx9 : x < 1331) (hq : q < 6) (hpl : pl < 2 ^ 31) : RO l yX7_ith wsX7_ith 3 65 D tc zb (w_ms tc b b1 o g) [.ref b, .int (nI x), .int (nI q), .int (nI pl)] (.int (oI (k_aa g x (some q) pl (g 0)))) := by
  refine RO.of (cc := cX7_ith) (maxL := 9) (ret := (some .int)) (by decide) rfl (Nat.le_of_ble_eq_true rfl) ?_
  intro p e s m args below meth c hx hb hr hml hlk hts hown hM hS hP ls hl
  have hl : lv_has ls 9 [(0, .ref b), (1, .int (nI x)), (2, .int (nI q)), (3, .int (nI pl))] := hl
  have hinX7 : ∀ w ∈ u_ws RX7 TX7 9, w ∈ wsX7_ith := by decide +kernel
  obtain ⟨ok0, ok1, ok2, ok3, ok4, ok5, ok6⟩ := id hk
  refine lv_iconst (v := (nI 0)) hx hb dX7_ith_0 (by decide) ?_
  refine lv_istore (lv' := [(4, .int (nI 0)), (0, .ref b), (1, .int (nI x)), (2, .int (nI q)), (3, .int (nI pl))]) hx hb dX7_ith_1 hl (by decide) rfl (fun ls hl => ?_)
  refine lv_iconst (v := (nI 0)) hx hb dX7_ith_3 (by decide) ?_
  refine lv_istore (lv' := [(5, .int (nI 0)), (4, .int (nI 0)), (0, .ref b), (1, .int (nI x)), (2, .int (nI q)), (3, .int (nI pl))]) hx hb dX7_ith_4 hl (by decide) rfl (fun ls hl => ?_)
  have lp6 : ∀ (n9 : Nat) (cm : Nat) (i : Nat), (g 0 - i) < n9 → (i ≤ g 0) → (cm = k_cn g x i) → (k_aa g x (some q) pl i = none) → ∀ ls : Array Slot, lv_has ls 9 [(5, .int (nI i)), (4, .int (nI cm)), (0, .ref b), (1, .int (nI x)), (2, .int (nI q)), (3, .int (nI pl))] → W p l e ({ frames := 3, cells := 0, slots := 0, locals := 65 } : Room) s m args below meth c s.heap [] 0 0 (MQ below (roQ (.int (oI (k_aa g x (some q) pl (g 0))))) args s 0 0 (fun _ => False)) (F0 m 6 ls []) := by
    intro n9
    induction n9 with
    | zero => intro cm i hmu; exact absurd hmu (Nat.not_lt_zero _)
    | succ n9 ih6 =>
      intro cm i hmu hi hcm hv ls hl
      have hcl := k_cn_le g x i
      refine lv_iload hx hb dX7_ith_6 (lv_at hl 0 rfl) ?_
      refine lv_aload_n hx hb dX7_ith_8 rfl (lv_at hl 2 rfl) ?_
      refine va_get (D := D) (ci := 6) (v := .ref b1) (C := RX7) (T := TX7) (N := 9) hx hb hts hinX7 hown hM.1 hP 0 rfl rfl 1 (by decide) (hts (.fieldLink RX7 7 "TripleWaysModel" "s" "[I") (by decide +kernel)) (fun _ h9 => h9) rfl dX7_ith_9 ?_
      refine lv_iconst (v := (nI 0)) hx hb dX7_ith_12 (by decide) ?_
      refine ln_iald hx hb hM.1 hP 1 0 rfl rfl dX7_ith_13 (by decide) (by omega) (rfl) ?_
      refine ln_icmp_ge (tgt := 144) hx hb dX7_ith_14 (by decide) (by omega) (by omega) (fun h1 => ?_) (fun h1 => ?_)
      · refine lv_iconst (v := (-1)) hx hb dX7_ith_144 (by decide) ?_
        exact ro_iret hx hb hr hlk dX7_ith_145 (show oI none = _ from congrArg oI (by have e9 : i = g 0 := (by omega); subst e9; exact hv.symm))
      · refine lv_aload_n hx hb dX7_ith_17 rfl (lv_at hl 2 rfl) ?_
        refine va_get (D := D) (ci := 6) (v := .ref b1) (C := RX7) (T := TX7) (N := 9) hx hb hts hinX7 hown hM.1 hP 0 rfl rfl 1 (by decide) (hts (.fieldLink RX7 7 "TripleWaysModel" "s" "[I") (by decide +kernel)) (fun _ h9 => h9) rfl dX7_ith_18 ?_
        refine lv_iconst (v := (nI 1)) hx hb dX7_ith_21 (by decide) ?_
        refine lv_iload hx hb dX7_ith_22 (lv_at hl 0 rfl) ?_
        refine ln_iadd hx hb dX7_ith_24 ?_
        refine ln_iald hx hb hM.1 hP 1 0 rfl rfl dX7_ith_25 (by decide) (by omega) (rfl) ?_
        refine lv_istore (lv' := [(6, .int (nI (g (1 + i)))), (5, .int (nI i)), (4, .int (nI cm)), (0, .ref b), (1, .int (nI x)), (2, .int (nI q)), (3, .int (nI pl))]) hx hb dX7_ith_26 hl (by decide) rfl (fun ls hl => ?_)
        refine lv_iload hx hb dX7_ith_28 (lv_at hl 2 rfl) ?_
        refine lv_istore (lv' := [(7, .int (nI cm)), (6, .int (nI (g (1 + i)))), (5, .int (nI i)), (4, .int (nI cm)), (0, .ref b), (1, .int (nI x)), (2, .int (nI q)), (3, .int (nI pl))]) hx hb dX7_ith_30 hl (by decide) rfl (fun ls hl => ?_)
        refine lv_iconst (v := (nI 0)) hx hb dX7_ith_32 (by decide) ?_
        refine lv_istore (lv' := [(8, .int (nI 0)), (7, .int (nI cm)), (6, .int (nI (g (1 + i)))), (5, .int (nI i)), (4, .int (nI cm)), (0, .ref b), (1, .int (nI x)), (2, .int (nI q)), (3, .int (nI pl))]) hx hb dX7_ith_33 hl (by decide) rfl (fun ls hl => ?_)
        have lp35 : ∀ (n9 : Nat) (ah : Nat) (k : Nat), (g 0 - k) < n9 → (k ≤ g 0) → (ah = cm + k_bf g x (some q) i k) → ∀ ls : Array Slot, lv_has ls 9 [(8, .int (nI k)), (7, .int (nI ah)), (6, .int (nI (g (1 + i)))), (5, .int (nI i)), (4, .int (nI cm)), (0, .ref b), (1, .int (nI x)), (2, .int (nI q)), (3, .int (nI pl))] → W p l e ({ frames := 3, cells := 0, slots := 0, locals := 65 } : Room) s m args below meth c s.heap [] 0 0 (MQ below (roQ (.int (oI (k_aa g x (some q) pl (g 0))))) args s 0 0 (fun _ => False)) (F0 m 35 ls []) := by
          intro n9
          induction n9 with
          | zero => intro ah k hmu; exact absurd hmu (Nat.not_lt_zero _)
          | succ n9 ih35 =>
            intro ah k hmu hk9 hah ls hl
            have hbl := k_bf_le g x (some q) i k
            refine lv_iload hx hb dX7_ith_35 (lv_at hl 0 rfl) ?_
            refine lv_aload_n hx hb dX7_ith_37 rfl (lv_at hl 5 rfl) ?_
            refine va_get (D := D) (ci := 6) (v := .ref b1) (C := RX7) (T := TX7) (N := 9) hx hb hts hinX7 hown hM.1 hP 0 rfl rfl 1 (by decide) (hts (.fieldLink RX7 7 "TripleWaysModel" "s" "[I") (by decide +kernel)) (fun _ h9 => h9) rfl dX7_ith_38 ?_
            refine lv_iconst (v := (nI 0)) hx hb dX7_ith_41 (by decide) ?_
            refine ln_iald hx hb hM.1 hP 1 0 rfl rfl dX7_ith_42 (by decide) (by omega) (rfl) ?_
            refine ln_icmp_ge (tgt := 105) hx hb dX7_ith_43 (by decide) (by omega) (by omega) (fun h2 => ?_) (fun h2 => ?_)
            · have e8 : k = g 0 := by omega
              have hah2 := hah
              rw [e8] at hah2
              refine lv_iload_n hx hb dX7_ith_105 rfl (lv_at hl 6 rfl) ?_
              refine lv_iload hx hb dX7_ith_106 (lv_at hl 2 rfl) ?_
              refine ro_S (n := 2) ⟨hx, hb, hml, hown, hts⟩ hM hS hP (c7_isAnswer l D tc zb x (g (1 + i)) (by first | omega | exact ok5 _ (by omega)) (by first | omega | exact ok4 _ (by omega))) gX7_ith_X7_isAnswer rfl (by decide +kernel) ⟨Nat.le_of_ble_eq_true rfl, Nat.le_of_ble_eq_true rfl⟩ [] rfl rfl hl.1 rfl (Nat.le_of_ble_eq_true rfl) dX7_ith_108 ⟨Nat.le_refl _, Nat.le_refl _⟩ ?_
              refine ln_if_eqB (tgt := 138) hx hb dX7_ith_111 (by decide) (fun h3 => ?_) (fun h3 => ?_)
              · refine lv_iinc (v := (nI (i + 1))) (lv' := [(5, .int (nI (i + 1))), (8, .int (nI k)), (7, .int (nI ah)), (6, .int (nI (g (1 + i)))), (4, .int (nI cm)), (0, .ref b), (1, .int (nI x)), (2, .int (nI q)), (3, .int (nI pl))]) hx hb dX7_ith_138 hl (k := 3) rfl (nI_add i 1) (by decide) rfl (fun ls hl => ?_)
                refine lv_goto (tgt := 6) hx hb dX7_ith_141 (by decide) ?_
                exact ih6 cm (i + 1) (by omega) (by omega) (by simp [k_cn, *]) (by first | exact k_aa_miss hv (fun h9 => by have h8 := h9.2; omega) | exact k_aa_miss hv (fun h9 => by have h8 := h9.1; simp_all)) _ (lv_sub hl [0, 4, 5, 6, 7, 8] rfl)
              · refine lv_iload hx hb dX7_ith_114 (lv_at hl 1 rfl) ?_
                refine lv_iload_n hx hb dX7_ith_116 rfl (lv_at hl 7 rfl) ?_
                refine lv_iconst (v := (-1)) hx hb dX7_ith_117 (by decide) ?_
                refine ln_ne_m1 (tgt := 125) hx hb dX7_ith_118 (by decide) (by omega) ?_
                refine lv_iload hx hb dX7_ith_125 (lv_at hl 4 rfl) ?_
                refine ln_isub hx hb dX7_ith_127 (by omega) ?_
                refine lv_iload_n hx hb dX7_ith_128 rfl (lv_at hl 8 rfl) ?_
                refine ln_icmp_ne (tgt := 135) hx hb dX7_ith_129 (by decide) (by omega) (by omega) (fun h4 => ?_) (fun h4 => ?_)
                · refine lv_iinc (v := (nI (cm + 1))) (lv' := [(4, .int (nI (cm + 1))), (8, .int (nI k)), (7, .int (nI ah)), (6, .int (nI (g (1 + i)))), (5, .int (nI i)), (0, .ref b), (1, .int (nI x)), (2, .int (nI q)), (3, .int (nI pl))]) hx hb dX7_ith_135 hl (k := 4) rfl (nI_add cm 1) (by decide) rfl (fun ls hl => ?_)
                  refine lv_iinc (v := (nI (i + 1))) (lv' := [(5, .int (nI (i + 1))), (4, .int (nI (cm + 1))), (8, .int (nI k)), (7, .int (nI ah)), (6, .int (nI (g (1 + i)))), (0, .ref b), (1, .int (nI x)), (2, .int (nI q)), (3, .int (nI pl))]) hx hb dX7_ith_138 hl (k := 4) rfl (nI_add i 1) (by decide) rfl (fun ls hl => ?_)
                  refine lv_goto (tgt := 6) hx hb dX7_ith_141 (by decide) ?_
                  exact ih6 (cm + 1) (i + 1) (by omega) (by omega) (by simp [k_cn, *]) (by first | exact k_aa_miss hv (fun h9 => by have h8 := h9.2; omega) | exact k_aa_miss hv (fun h9 => by have h8 := h9.1; simp_all)) _ (lv_sub hl [0, 1, 5, 6, 7, 8] rfl)
                · refine lv_iload hx hb dX7_ith_132 (lv_at hl 2 rfl) ?_
                  exact ro_iret hx hb hr hlk dX7_ith_134 (show oI (some (g (1 + i))) = _ from congrArg oI (by exact (k_aa_hit hv (by assumption) (by omega) (by omega)).symm))
            · refine lv_iload_n hx hb dX7_ith_46 rfl (lv_at hl 7 rfl) ?_
              refine lv_iconst (v := (-1)) hx hb dX7_ith_47 (by decide) ?_
              refine ln_eq_m1 (tgt := 105) hx hb dX7_ith_48 (by decide) (by omega) ?_
              refine lv_iload hx hb dX7_ith_51 (lv_at hl 1 rfl) ?_
              refine lv_iload_n hx hb dX7_ith_53 rfl (lv_at hl 6 rfl) ?_
              refine lv_aload_n hx hb dX7_ith_54 rfl (lv_at hl 5 rfl) ?_
              refine va_get (D := D) (ci := 6) (v := .ref b1) (C := RX7) (T := TX7) (N := 9) hx hb hts hinX7 hown hM.1 hP 0 rfl rfl 1 (by decide) (hts (.fieldLink RX7 7 "TripleWaysModel" "s" "[I") (by decide +kernel)) (fun _ h9 => h9) rfl dX7_ith_55 ?_
              refine lv_iconst (v := (nI 1)) hx hb dX7_ith_58 (by decide) ?_
              refine lv_iload hx hb dX7_ith_59 (lv_at hl 0 rfl) ?_
              refine ln_iadd hx hb dX7_ith_61 ?_
              refine ln_iald hx hb hM.1 hP 1 0 rfl rfl dX7_ith_62 (by decide) (by omega) (rfl) ?_
              refine ro_S (n := 2) ⟨hx, hb, hml, hown, hts⟩ hM hS hP (c7_isAnswer l D tc zb x (g (1 + k)) (by first | omega | exact ok5 _ (by omega)) (by first | omega | exact ok4 _ (by omega))) gX7_ith_X7_isAnswer rfl (by decide +kernel) ⟨Nat.le_of_ble_eq_true rfl, Nat.le_of_ble_eq_true rfl⟩ [] rfl rfl hl.1 rfl (Nat.le_of_ble_eq_true rfl) dX7_ith_63 ⟨Nat.le_refl _, Nat.le_refl _⟩ ?_
              refine ln_if_eqB (tgt := 95) hx hb dX7_ith_66 (by decide) (fun h5 => ?_) (fun h5 => ?_)
              · refine lv_iconst (v := (nI 0)) hx hb dX7_ith_95 (by decide) ?_
                refine ln_iadd hx hb dX7_ith_96 ?_
                refine lv_istore (lv' := [(7, .int (nI (ah + 0))), (8, .int (nI k)), (6, .int (nI (g (1 + i)))), (5, .int (nI i)), (4, .int (nI cm)), (0, .ref b), (1, .int (nI x)), (2, .int (nI q)), (3, .int (nI pl))]) hx hb dX7_ith_97 hl (by decide) rfl (fun ls hl => ?_)
                refine lv_iinc (v := (nI (k + 1))) (lv' := [(8, .int (nI (k + 1))), (7, .int (nI (ah + 0))), (6, .int (nI (g (1 + i)))), (5, .int (nI i)), (4, .int (nI cm)), (0, .ref b), (1, .int (nI x)), (2, .int (nI q)), (3, .int (nI pl))]) hx hb dX7_ith_99 hl (k := 1) rfl (nI_add k 1) (by decide) rfl (fun ls hl => ?_)
                refine lv_goto (tgt := 35) hx hb dX7_ith_102 (by decide) ?_
                exact ih35 (ah + 0) (k + 1) (by omega) (by omega) (by first | (rw [k_bf, if_pos ⟨by assumption, by assumption⟩]; omega) | (rw [k_bf, if_neg (fun h9 => by have h8 : k_rk (g (1 + k)) q < k_rk (g (1 + i)) q := h9.2; omega)]; omega) | (rw [k_bf, if_neg (fun h9 => by have h8 := h9.1; simp_all)]; omega)) _ (lv_sub hl [0, 1, 2, 3, 4, 5, 6, 7, 8] rfl)
              · refine lv_aload_n hx hb dX7_ith_69 rfl (lv_at hl 5 rfl) ?_
                refine va_get (D := D) (ci := 6) (v := .ref b1) (C := RX7) (T := TX7) (N := 9) hx hb hts hinX7 hown hM.1 hP 0 rfl rfl 1 (by decide) (hts (.fieldLink RX7 7 "TripleWaysModel" "s" "[I") (by decide +kernel)) (fun _ h9 => h9) rfl dX7_ith_70 ?_
                refine lv_iconst (v := (nI 1)) hx hb dX7_ith_73 (by decide) ?_
                refine lv_iload hx hb dX7_ith_74 (lv_at hl 0 rfl) ?_
                refine ln_iadd hx hb dX7_ith_76 ?_
                refine ln_iald hx hb hM.1 hP 1 0 rfl rfl dX7_ith_77 (by decide) (by omega) (rfl) ?_
                refine lv_iload_n hx hb dX7_ith_78 rfl (lv_at hl 7 rfl) ?_
                refine ro_S (n := 2) ⟨hx, hb, hml, hown, hts⟩ hM hS hP (c7_keyOf l D tc zb (g (1 + k)) q (by first | omega | exact ok4 _ (by omega)) (by omega)) gX7_ith_X7_keyOf rfl (by decide +kernel) ⟨Nat.le_of_ble_eq_true rfl, Nat.le_of_ble_eq_true rfl⟩ [] rfl rfl hl.1 rfl (Nat.le_of_ble_eq_true rfl) dX7_ith_79 ⟨Nat.le_refl _, Nat.le_refl _⟩ ?_
                have hf6 := show k_rk (g (1 + k)) q < 1000 from k_rk_lt (by first | omega | exact ok4 _ (by omega))
                refine lv_iload hx hb dX7_ith_82 (lv_at hl 2 rfl) ?_
                refine lv_iload_n hx hb dX7_ith_84 rfl (lv_at hl 7 rfl) ?_
                refine ro_S (n := 2) ⟨hx, hb, hml, hown, hts⟩ hM hS hP (c7_keyOf l D tc zb (g (1 + i)) q (by first | omega | exact ok4 _ (by omega)) (by omega)) gX7_ith_X7_keyOf rfl (by decide +kernel) ⟨Nat.le_of_ble_eq_true rfl, Nat.le_of_ble_eq_true rfl⟩ [] rfl rfl hl.1 rfl (Nat.le_of_ble_eq_true rfl) dX7_ith_85 ⟨Nat.le_refl _, Nat.le_refl _⟩ ?_
                have hf7 := show k_rk (g (1 + i)) q < 1000 from k_rk_lt (by first | omega | exact ok4 _ (by omega))
                refine ln_icmp_ge (tgt := 95) hx hb dX7_ith_88 (by decide) (by omega) (by omega) (fun h8 => ?_) (fun h8 => ?_)
                · refine lv_iconst (v := (nI 0)) hx hb dX7_ith_95 (by decide) ?_
                  refine ln_iadd hx hb dX7_ith_96 ?_
                  refine lv_istore (lv' := [(7, .int (nI (ah + 0))), (8, .int (nI k)), (6, .int (nI (g (1 + i)))), (5, .int (nI i)), (4, .int (nI cm)), (0, .ref b), (1, .int (nI x)), (2, .int (nI q)), (3, .int (nI pl))]) hx hb dX7_ith_97 hl (by decide) rfl (fun ls hl => ?_)
                  refine lv_iinc (v := (nI (k + 1))) (lv' := [(8, .int (nI (k + 1))), (7, .int (nI (ah + 0))), (6, .int (nI (g (1 + i)))), (5, .int (nI i)), (4, .int (nI cm)), (0, .ref b), (1, .int (nI x)), (2, .int (nI q)), (3, .int (nI pl))]) hx hb dX7_ith_99 hl (k := 1) rfl (nI_add k 1) (by decide) rfl (fun ls hl => ?_)
                  refine lv_goto (tgt := 35) hx hb dX7_ith_102 (by decide) ?_
                  exact ih35 (ah + 0) (k + 1) (by omega) (by omega) (by first | (rw [k_bf, if_pos ⟨by assumption, by assumption⟩]; omega) | (rw [k_bf, if_neg (fun h9 => by have h8 : k_rk (g (1 + k)) q < k_rk (g (1 + i)) q := h9.2; omega)]; omega) | (rw [k_bf, if_neg (fun h9 => by have h8 := h9.1; simp_all)]; omega)) _ (lv_sub hl [0, 1, 2, 3, 4, 5, 6, 7, 8] rfl)
                · refine lv_iconst (v := (nI 1)) hx hb dX7_ith_91 (by decide) ?_
                  refine lv_goto (tgt := 96) hx hb dX7_ith_92 (by decide) ?_
                  refine ln_iadd hx hb dX7_ith_96 ?_
                  refine lv_istore (lv' := [(7, .int (nI (ah + 1))), (8, .int (nI k)), (6, .int (nI (g (1 + i)))), (5, .int (nI i)), (4, .int (nI cm)), (0, .ref b), (1, .int (nI x)), (2, .int (nI q)), (3, .int (nI pl))]) hx hb dX7_ith_97 hl (by decide) rfl (fun ls hl => ?_)
                  refine lv_iinc (v := (nI (k + 1))) (lv' := [(8, .int (nI (k + 1))), (7, .int (nI (ah + 1))), (6, .int (nI (g (1 + i)))), (5, .int (nI i)), (4, .int (nI cm)), (0, .ref b), (1, .int (nI x)), (2, .int (nI q)), (3, .int (nI pl))]) hx hb dX7_ith_99 hl (k := 1) rfl (nI_add k 1) (by decide) rfl (fun ls hl => ?_)
                  refine lv_goto (tgt := 35) hx hb dX7_ith_102 (by decide) ?_
                  exact ih35 (ah + 1) (k + 1) (by omega) (by omega) (by first | (rw [k_bf, if_pos ⟨by assumption, by assumption⟩]; omega) | (rw [k_bf, if_neg (fun h9 => by have h8 : k_rk (g (1 + k)) q < k_rk (g (1 + i)) q := h9.2; omega)]; omega) | (rw [k_bf, if_neg (fun h9 => by have h8 := h9.1; simp_all)]; omega)) _ (lv_sub hl [0, 1, 2, 3, 4, 5, 6, 7, 8] rfl)
        exact lp35 _ cm 0 (Nat.lt_succ_self _) (by omega) (by rfl) _ (lv_sub hl [0, 1, 2, 3, 4, 5, 6, 7, 8] rfl)
  exact lp6 _ 0 0 (Nat.lt_succ_self _) (by omega) (by rfl) (by rfl) _ (lv_sub hl [0, 1, 2, 3, 4, 5] rfl)
set_option maxHeartbeats 4000000 in
set_option maxRecDepth 100000 in
theorem c7_ithN (l : Launch) (D : va_G) (tc : Nat → ClassId) (zb : Nat) (b b1 : Nat) (o : Nat → Value) (g : Nat → Nat) (x pl : Nat) (hk : k_ok g) (hx9 : x < 1331) (hpl : pl < 2 ^ 31) : RO l yX7_ith wsX7_ith 3 65 D tc zb (w_ms tc b b1 o g) [.ref b, .int (nI x), .int (-1), .int (nI pl)] (.int (oI (k_aa g x none pl (g 0)))) := by
  refine RO.of (cc := cX7_ith) (maxL := 9) (ret := (some .int)) (by decide) rfl (Nat.le_of_ble_eq_true rfl) ?_
  intro p e s m args below meth c hx hb hr hml hlk hts hown hM hS hP ls hl
  have hl : lv_has ls 9 [(0, .ref b), (1, .int (nI x)), (2, .int (-1)), (3, .int (nI pl))] := hl
  have hinX7 : ∀ w ∈ u_ws RX7 TX7 9, w ∈ wsX7_ith := by decide +kernel
  obtain ⟨ok0, ok1, ok2, ok3, ok4, ok5, ok6⟩ := id hk
  refine lv_iconst (v := (nI 0)) hx hb dX7_ith_0 (by decide) ?_
  refine lv_istore (lv' := [(4, .int (nI 0)), (0, .ref b), (1, .int (nI x)), (2, .int (-1)), (3, .int (nI pl))]) hx hb dX7_ith_1 hl (by decide) rfl (fun ls hl => ?_)
  refine lv_iconst (v := (nI 0)) hx hb dX7_ith_3 (by decide) ?_
  refine lv_istore (lv' := [(5, .int (nI 0)), (4, .int (nI 0)), (0, .ref b), (1, .int (nI x)), (2, .int (-1)), (3, .int (nI pl))]) hx hb dX7_ith_4 hl (by decide) rfl (fun ls hl => ?_)
  have lp6 : ∀ (n9 : Nat) (cm : Nat) (i : Nat), (g 0 - i) < n9 → (i ≤ g 0) → (cm = k_cn g x i) → (k_aa g x none pl i = none) → ∀ ls : Array Slot, lv_has ls 9 [(5, .int (nI i)), (4, .int (nI cm)), (0, .ref b), (1, .int (nI x)), (2, .int (-1)), (3, .int (nI pl))] → W p l e ({ frames := 3, cells := 0, slots := 0, locals := 65 } : Room) s m args below meth c s.heap [] 0 0 (MQ below (roQ (.int (oI (k_aa g x none pl (g 0))))) args s 0 0 (fun _ => False)) (F0 m 6 ls []) := by
    intro n9
    induction n9 with
    | zero => intro cm i hmu; exact absurd hmu (Nat.not_lt_zero _)
    | succ n9 ih6 =>
      intro cm i hmu hi hcm hv ls hl
      have hcl := k_cn_le g x i
      refine lv_iload hx hb dX7_ith_6 (lv_at hl 0 rfl) ?_
      refine lv_aload_n hx hb dX7_ith_8 rfl (lv_at hl 2 rfl) ?_
      refine va_get (D := D) (ci := 6) (v := .ref b1) (C := RX7) (T := TX7) (N := 9) hx hb hts hinX7 hown hM.1 hP 0 rfl rfl 1 (by decide) (hts (.fieldLink RX7 7 "TripleWaysModel" "s" "[I") (by decide +kernel)) (fun _ h9 => h9) rfl dX7_ith_9 ?_
      refine lv_iconst (v := (nI 0)) hx hb dX7_ith_12 (by decide) ?_
      refine ln_iald hx hb hM.1 hP 1 0 rfl rfl dX7_ith_13 (by decide) (by omega) (rfl) ?_
      refine ln_icmp_ge (tgt := 144) hx hb dX7_ith_14 (by decide) (by omega) (by omega) (fun h1 => ?_) (fun h1 => ?_)
      · refine lv_iconst (v := (-1)) hx hb dX7_ith_144 (by decide) ?_
        exact ro_iret hx hb hr hlk dX7_ith_145 (show oI none = _ from congrArg oI (by have e9 : i = g 0 := (by omega); subst e9; exact hv.symm))
      · refine lv_aload_n hx hb dX7_ith_17 rfl (lv_at hl 2 rfl) ?_
        refine va_get (D := D) (ci := 6) (v := .ref b1) (C := RX7) (T := TX7) (N := 9) hx hb hts hinX7 hown hM.1 hP 0 rfl rfl 1 (by decide) (hts (.fieldLink RX7 7 "TripleWaysModel" "s" "[I") (by decide +kernel)) (fun _ h9 => h9) rfl dX7_ith_18 ?_
        refine lv_iconst (v := (nI 1)) hx hb dX7_ith_21 (by decide) ?_
        refine lv_iload hx hb dX7_ith_22 (lv_at hl 0 rfl) ?_
        refine ln_iadd hx hb dX7_ith_24 ?_
        refine ln_iald hx hb hM.1 hP 1 0 rfl rfl dX7_ith_25 (by decide) (by omega) (rfl) ?_
        refine lv_istore (lv' := [(6, .int (nI (g (1 + i)))), (5, .int (nI i)), (4, .int (nI cm)), (0, .ref b), (1, .int (nI x)), (2, .int (-1)), (3, .int (nI pl))]) hx hb dX7_ith_26 hl (by decide) rfl (fun ls hl => ?_)
        refine lv_iload hx hb dX7_ith_28 (lv_at hl 2 rfl) ?_
        refine lv_istore (lv' := [(7, .int (nI cm)), (6, .int (nI (g (1 + i)))), (5, .int (nI i)), (4, .int (nI cm)), (0, .ref b), (1, .int (nI x)), (2, .int (-1)), (3, .int (nI pl))]) hx hb dX7_ith_30 hl (by decide) rfl (fun ls hl => ?_)
        refine lv_iconst (v := (nI 0)) hx hb dX7_ith_32 (by decide) ?_
        refine lv_istore (lv' := [(8, .int (nI 0)), (7, .int (nI cm)), (6, .int (nI (g (1 + i)))), (5, .int (nI i)), (4, .int (nI cm)), (0, .ref b), (1, .int (nI x)), (2, .int (-1)), (3, .int (nI pl))]) hx hb dX7_ith_33 hl (by decide) rfl (fun ls hl => ?_)
        refine lv_iload hx hb dX7_ith_35 (lv_at hl 0 rfl) ?_
        refine lv_aload_n hx hb dX7_ith_37 rfl (lv_at hl 5 rfl) ?_
        refine va_get (D := D) (ci := 6) (v := .ref b1) (C := RX7) (T := TX7) (N := 9) hx hb hts hinX7 hown hM.1 hP 0 rfl rfl 1 (by decide) (hts (.fieldLink RX7 7 "TripleWaysModel" "s" "[I") (by decide +kernel)) (fun _ h9 => h9) rfl dX7_ith_38 ?_
        refine lv_iconst (v := (nI 0)) hx hb dX7_ith_41 (by decide) ?_
        refine ln_iald hx hb hM.1 hP 1 0 rfl rfl dX7_ith_42 (by decide) (by omega) (rfl) ?_
        refine ln_icmp_ge (tgt := 105) hx hb dX7_ith_43 (by decide) (by decide) (by omega) (fun h2 => ?_) (fun h2 => ?_)
        · refine lv_iload_n hx hb dX7_ith_105 rfl (lv_at hl 6 rfl) ?_
          refine lv_iload hx hb dX7_ith_106 (lv_at hl 2 rfl) ?_
          refine ro_S (n := 2) ⟨hx, hb, hml, hown, hts⟩ hM hS hP (c7_isAnswer l D tc zb x (g (1 + i)) (by first | omega | exact ok5 _ (by omega)) (by first | omega | exact ok4 _ (by omega))) gX7_ith_X7_isAnswer rfl (by decide +kernel) ⟨Nat.le_of_ble_eq_true rfl, Nat.le_of_ble_eq_true rfl⟩ [] rfl rfl hl.1 rfl (Nat.le_of_ble_eq_true rfl) dX7_ith_108 ⟨Nat.le_refl _, Nat.le_refl _⟩ ?_
          refine ln_if_eqB (tgt := 138) hx hb dX7_ith_111 (by decide) (fun h3 => ?_) (fun h3 => ?_)
          · refine lv_iinc (v := (nI (i + 1))) (lv' := [(5, .int (nI (i + 1))), (8, .int (nI 0)), (7, .int (nI cm)), (6, .int (nI (g (1 + i)))), (4, .int (nI cm)), (0, .ref b), (1, .int (nI x)), (2, .int (-1)), (3, .int (nI pl))]) hx hb dX7_ith_138 hl (k := 3) rfl (nI_add i 1) (by decide) rfl (fun ls hl => ?_)
            refine lv_goto (tgt := 6) hx hb dX7_ith_141 (by decide) ?_
            exact ih6 cm (i + 1) (by omega) (by omega) (by simp [k_cn, *]) (by first | exact k_aa_miss hv (fun h9 => by have h8 := h9.2; rw [k_bf_none (by omega)] at h8; omega) | exact k_aa_miss hv (fun h9 => by have h8 := h9.1; simp_all)) _ (lv_sub hl [0, 4, 5, 6, 7, 8] rfl)
          · refine lv_iload hx hb dX7_ith_114 (lv_at hl 1 rfl) ?_
            refine lv_iload_n hx hb dX7_ith_116 rfl (lv_at hl 7 rfl) ?_
            refine lv_iconst (v := (-1)) hx hb dX7_ith_117 (by decide) ?_
            refine lv_icmp_ne (tgt := 125) hx hb dX7_ith_118 (by decide) (fun h9 => False.elim (by revert h9; decide)) (fun _ => ?_)
            refine lv_iconst (v := (nI 0)) hx hb dX7_ith_121 (by decide) ?_
            refine lv_goto (tgt := 127) hx hb dX7_ith_122 (by decide) ?_
            refine ln_isub hx hb dX7_ith_127 (by omega) ?_
            refine lv_iload_n hx hb dX7_ith_128 rfl (lv_at hl 8 rfl) ?_
            refine ln_icmp_ne (tgt := 135) hx hb dX7_ith_129 (by decide) (by omega) (by omega) (fun h4 => ?_) (fun h4 => ?_)
            · refine lv_iinc (v := (nI (cm + 1))) (lv' := [(4, .int (nI (cm + 1))), (8, .int (nI 0)), (7, .int (nI cm)), (6, .int (nI (g (1 + i)))), (5, .int (nI i)), (0, .ref b), (1, .int (nI x)), (2, .int (-1)), (3, .int (nI pl))]) hx hb dX7_ith_135 hl (k := 4) rfl (nI_add cm 1) (by decide) rfl (fun ls hl => ?_)
              refine lv_iinc (v := (nI (i + 1))) (lv' := [(5, .int (nI (i + 1))), (4, .int (nI (cm + 1))), (8, .int (nI 0)), (7, .int (nI cm)), (6, .int (nI (g (1 + i)))), (0, .ref b), (1, .int (nI x)), (2, .int (-1)), (3, .int (nI pl))]) hx hb dX7_ith_138 hl (k := 4) rfl (nI_add i 1) (by decide) rfl (fun ls hl => ?_)
              refine lv_goto (tgt := 6) hx hb dX7_ith_141 (by decide) ?_
              exact ih6 (cm + 1) (i + 1) (by omega) (by omega) (by simp [k_cn, *]) (by first | exact k_aa_miss hv (fun h9 => by have h8 := h9.2; rw [k_bf_none (by omega)] at h8; omega) | exact k_aa_miss hv (fun h9 => by have h8 := h9.1; simp_all)) _ (lv_sub hl [0, 1, 5, 6, 7, 8] rfl)
            · refine lv_iload hx hb dX7_ith_132 (lv_at hl 2 rfl) ?_
              exact ro_iret hx hb hr hlk dX7_ith_134 (show oI (some (g (1 + i))) = _ from congrArg oI (by exact (k_aa_hit hv (by assumption) (by rw [k_bf_none (by omega)]; omega) (by omega)).symm))
        · refine lv_iload_n hx hb dX7_ith_46 rfl (lv_at hl 7 rfl) ?_
          refine lv_iconst (v := (-1)) hx hb dX7_ith_47 (by decide) ?_
          refine lv_icmp_eq (tgt := 105) hx hb dX7_ith_48 (by decide) (fun _ => ?_) (fun h9 => False.elim (by revert h9; decide))
          refine lv_iload_n hx hb dX7_ith_105 rfl (lv_at hl 6 rfl) ?_
          refine lv_iload hx hb dX7_ith_106 (lv_at hl 2 rfl) ?_
          refine ro_S (n := 2) ⟨hx, hb, hml, hown, hts⟩ hM hS hP (c7_isAnswer l D tc zb x (g (1 + i)) (by first | omega | exact ok5 _ (by omega)) (by first | omega | exact ok4 _ (by omega))) gX7_ith_X7_isAnswer rfl (by decide +kernel) ⟨Nat.le_of_ble_eq_true rfl, Nat.le_of_ble_eq_true rfl⟩ [] rfl rfl hl.1 rfl (Nat.le_of_ble_eq_true rfl) dX7_ith_108 ⟨Nat.le_refl _, Nat.le_refl _⟩ ?_
          refine ln_if_eqB (tgt := 138) hx hb dX7_ith_111 (by decide) (fun h5 => ?_) (fun h5 => ?_)
          · refine lv_iinc (v := (nI (i + 1))) (lv' := [(5, .int (nI (i + 1))), (8, .int (nI 0)), (7, .int (nI cm)), (6, .int (nI (g (1 + i)))), (4, .int (nI cm)), (0, .ref b), (1, .int (nI x)), (2, .int (-1)), (3, .int (nI pl))]) hx hb dX7_ith_138 hl (k := 3) rfl (nI_add i 1) (by decide) rfl (fun ls hl => ?_)
            refine lv_goto (tgt := 6) hx hb dX7_ith_141 (by decide) ?_
            exact ih6 cm (i + 1) (by omega) (by omega) (by simp [k_cn, *]) (by first | exact k_aa_miss hv (fun h9 => by have h8 := h9.2; rw [k_bf_none (by omega)] at h8; omega) | exact k_aa_miss hv (fun h9 => by have h8 := h9.1; simp_all)) _ (lv_sub hl [0, 4, 5, 6, 7, 8] rfl)
          · refine lv_iload hx hb dX7_ith_114 (lv_at hl 1 rfl) ?_
            refine lv_iload_n hx hb dX7_ith_116 rfl (lv_at hl 7 rfl) ?_
            refine lv_iconst (v := (-1)) hx hb dX7_ith_117 (by decide) ?_
            refine lv_icmp_ne (tgt := 125) hx hb dX7_ith_118 (by decide) (fun h9 => False.elim (by revert h9; decide)) (fun _ => ?_)
            refine lv_iconst (v := (nI 0)) hx hb dX7_ith_121 (by decide) ?_
            refine lv_goto (tgt := 127) hx hb dX7_ith_122 (by decide) ?_
            refine ln_isub hx hb dX7_ith_127 (by omega) ?_
            refine lv_iload_n hx hb dX7_ith_128 rfl (lv_at hl 8 rfl) ?_
            refine ln_icmp_ne (tgt := 135) hx hb dX7_ith_129 (by decide) (by omega) (by omega) (fun h6 => ?_) (fun h6 => ?_)
            · refine lv_iinc (v := (nI (cm + 1))) (lv' := [(4, .int (nI (cm + 1))), (8, .int (nI 0)), (7, .int (nI cm)), (6, .int (nI (g (1 + i)))), (5, .int (nI i)), (0, .ref b), (1, .int (nI x)), (2, .int (-1)), (3, .int (nI pl))]) hx hb dX7_ith_135 hl (k := 4) rfl (nI_add cm 1) (by decide) rfl (fun ls hl => ?_)
              refine lv_iinc (v := (nI (i + 1))) (lv' := [(5, .int (nI (i + 1))), (4, .int (nI (cm + 1))), (8, .int (nI 0)), (7, .int (nI cm)), (6, .int (nI (g (1 + i)))), (0, .ref b), (1, .int (nI x)), (2, .int (-1)), (3, .int (nI pl))]) hx hb dX7_ith_138 hl (k := 4) rfl (nI_add i 1) (by decide) rfl (fun ls hl => ?_)
              refine lv_goto (tgt := 6) hx hb dX7_ith_141 (by decide) ?_
              exact ih6 (cm + 1) (i + 1) (by omega) (by omega) (by simp [k_cn, *]) (by first | exact k_aa_miss hv (fun h9 => by have h8 := h9.2; rw [k_bf_none (by omega)] at h8; omega) | exact k_aa_miss hv (fun h9 => by have h8 := h9.1; simp_all)) _ (lv_sub hl [0, 1, 5, 6, 7, 8] rfl)
            · refine lv_iload hx hb dX7_ith_132 (lv_at hl 2 rfl) ?_
              exact ro_iret hx hb hr hlk dX7_ith_134 (show oI (some (g (1 + i))) = _ from congrArg oI (by exact (k_aa_hit hv (by assumption) (by rw [k_bf_none (by omega)]; omega) (by omega)).symm))
  exact lp6 _ 0 0 (Nat.lt_succ_self _) (by omega) (by rfl) (by rfl) _ (lv_sub hl [0, 1, 2, 3, 4, 5] rfl)
