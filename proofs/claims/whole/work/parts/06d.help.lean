def k_gi (n sc i : Nat) : Nat := (k_grs n sc).getD i 0
set_option maxHeartbeats 4000000 in
set_option maxRecDepth 100000 in
theorem c6_groupOf (l : Launch) (D : va_G) (tc : Nat → ClassId) (zb : Nat) (n9 sc i9 : Nat) (hn9 : 1 ≤ n9 ∧ n9 ≤ 3) (hi9 : i9 < n9) (hsc : sc < 2 ^ 62) : RO l yX6_groupOf wsX6_groupOf 0 0 D tc zb [] [.int (nI n9), .long (lN sc), .int (nI i9)] (.int (nI (k_gi n9 sc i9))) := by
  refine RO.of (cc := cX6_groupOf) (maxL := 7) (ret := (some .int)) (by decide) rfl (Nat.le_of_ble_eq_true rfl) ?_
  intro p e s m args below meth c hx hb hr hml hlk hts hown hM hS hP ls hl
  have hl : lv_has ls 7 [(0, .int (nI n9)), (1, .long (lN sc)), (3, .int (nI i9))] := hl
  rcases (show n9 = 1 ∨ n9 = 2 ∨ n9 = 3 by omega) with rfl | rfl | rfl
  · rcases (show i9 = 0 ∨ i9 = 1 ∨ i9 = 2 by omega) with rfl | rfl | rfl
    · refine lv_lload_n hx hb dX6_groupOf_0 rfl (lv_at hl 1 rfl) ?_
      refine lv_lstore (lv' := [(4, .long (lN sc)), (0, .int (nI 1)), (1, .long (lN sc)), (3, .int (nI 0))]) hx hb dX6_groupOf_1 hl (by decide) rfl (fun ls hl => ?_)
      refine lv_iload_n hx hb dX6_groupOf_3 rfl (lv_at hl 3 rfl) ?_
      refine lv_iconst (v := (nI 1)) hx hb dX6_groupOf_4 (by decide) ?_
      refine lv_iadd hx hb dX6_groupOf_5 ?_
      refine ln_eq (x' := (nI 1)) (by decide) ?_
      refine lv_istore (lv' := [(6, .int (nI 1)), (4, .long (lN sc)), (0, .int (nI 1)), (1, .long (lN sc)), (3, .int (nI 0))]) hx hb dX6_groupOf_6 hl (by decide) rfl (fun ls hl => ?_)
      refine lv_iload hx hb dX6_groupOf_8 (lv_at hl 0 rfl) ?_
      refine lv_iload_n hx hb dX6_groupOf_10 rfl (lv_at hl 2 rfl) ?_
      refine lv_icmp_ge (tgt := 34) hx hb dX6_groupOf_11 (by decide) (fun _ => ?_) (fun h9 => False.elim (by revert h9; decide))
      refine lv_lload hx hb dX6_groupOf_34 (lv_at hl 1 rfl) ?_
      refine lv_ldc2 (v := (100000 : Int64)) hx hb hown (hts (.constantLong RX6 325 (100000)) (by decide +kernel)) dX6_groupOf_36 ?_
      refine ln_lrem (x := sc) (y := 100000) hx hb dX6_groupOf_39 (by omega) (by decide) (by decide) ?_
      refine lv_l2i (v := nI (sc % 100000)) hx hb dX6_groupOf_40 (lN_i _) ?_
      exact ro_iret hx hb hr hlk dX6_groupOf_41 (congrArg nI (by first | rfl | (exfalso; omega)))
    · refine lv_lload_n hx hb dX6_groupOf_0 rfl (lv_at hl 1 rfl) ?_
      refine lv_lstore (lv' := [(4, .long (lN sc)), (0, .int (nI 1)), (1, .long (lN sc)), (3, .int (nI 1))]) hx hb dX6_groupOf_1 hl (by decide) rfl (fun ls hl => ?_)
      refine lv_iload_n hx hb dX6_groupOf_3 rfl (lv_at hl 3 rfl) ?_
      refine lv_iconst (v := (nI 1)) hx hb dX6_groupOf_4 (by decide) ?_
      refine lv_iadd hx hb dX6_groupOf_5 ?_
      refine ln_eq (x' := (nI 2)) (by decide) ?_
      refine lv_istore (lv' := [(6, .int (nI 2)), (4, .long (lN sc)), (0, .int (nI 1)), (1, .long (lN sc)), (3, .int (nI 1))]) hx hb dX6_groupOf_6 hl (by decide) rfl (fun ls hl => ?_)
      refine lv_iload hx hb dX6_groupOf_8 (lv_at hl 0 rfl) ?_
      refine lv_iload_n hx hb dX6_groupOf_10 rfl (lv_at hl 2 rfl) ?_
      refine lv_icmp_ge (tgt := 34) hx hb dX6_groupOf_11 (by decide) (fun _ => ?_) (fun h9 => False.elim (by revert h9; decide))
      refine lv_lload hx hb dX6_groupOf_34 (lv_at hl 1 rfl) ?_
      refine lv_ldc2 (v := (100000 : Int64)) hx hb hown (hts (.constantLong RX6 325 (100000)) (by decide +kernel)) dX6_groupOf_36 ?_
      refine ln_lrem (x := sc) (y := 100000) hx hb dX6_groupOf_39 (by omega) (by decide) (by decide) ?_
      refine lv_l2i (v := nI (sc % 100000)) hx hb dX6_groupOf_40 (lN_i _) ?_
      exact ro_iret hx hb hr hlk dX6_groupOf_41 (congrArg nI (by first | rfl | (exfalso; omega)))
    · refine lv_lload_n hx hb dX6_groupOf_0 rfl (lv_at hl 1 rfl) ?_
      refine lv_lstore (lv' := [(4, .long (lN sc)), (0, .int (nI 1)), (1, .long (lN sc)), (3, .int (nI 2))]) hx hb dX6_groupOf_1 hl (by decide) rfl (fun ls hl => ?_)
      refine lv_iload_n hx hb dX6_groupOf_3 rfl (lv_at hl 3 rfl) ?_
      refine lv_iconst (v := (nI 1)) hx hb dX6_groupOf_4 (by decide) ?_
      refine lv_iadd hx hb dX6_groupOf_5 ?_
      refine ln_eq (x' := (nI 3)) (by decide) ?_
      refine lv_istore (lv' := [(6, .int (nI 3)), (4, .long (lN sc)), (0, .int (nI 1)), (1, .long (lN sc)), (3, .int (nI 2))]) hx hb dX6_groupOf_6 hl (by decide) rfl (fun ls hl => ?_)
      refine lv_iload hx hb dX6_groupOf_8 (lv_at hl 0 rfl) ?_
      refine lv_iload_n hx hb dX6_groupOf_10 rfl (lv_at hl 2 rfl) ?_
      refine lv_icmp_ge (tgt := 34) hx hb dX6_groupOf_11 (by decide) (fun _ => ?_) (fun h9 => False.elim (by revert h9; decide))
      refine lv_lload hx hb dX6_groupOf_34 (lv_at hl 1 rfl) ?_
      refine lv_ldc2 (v := (100000 : Int64)) hx hb hown (hts (.constantLong RX6 325 (100000)) (by decide +kernel)) dX6_groupOf_36 ?_
      refine ln_lrem (x := sc) (y := 100000) hx hb dX6_groupOf_39 (by omega) (by decide) (by decide) ?_
      refine lv_l2i (v := nI (sc % 100000)) hx hb dX6_groupOf_40 (lN_i _) ?_
      exact ro_iret hx hb hr hlk dX6_groupOf_41 (congrArg nI (by first | rfl | (exfalso; omega)))
  · rcases (show i9 = 0 ∨ i9 = 1 ∨ i9 = 2 by omega) with rfl | rfl | rfl
    · refine lv_lload_n hx hb dX6_groupOf_0 rfl (lv_at hl 1 rfl) ?_
      refine lv_lstore (lv' := [(4, .long (lN sc)), (0, .int (nI 2)), (1, .long (lN sc)), (3, .int (nI 0))]) hx hb dX6_groupOf_1 hl (by decide) rfl (fun ls hl => ?_)
      refine lv_iload_n hx hb dX6_groupOf_3 rfl (lv_at hl 3 rfl) ?_
      refine lv_iconst (v := (nI 1)) hx hb dX6_groupOf_4 (by decide) ?_
      refine lv_iadd hx hb dX6_groupOf_5 ?_
      refine ln_eq (x' := (nI 1)) (by decide) ?_
      refine lv_istore (lv' := [(6, .int (nI 1)), (4, .long (lN sc)), (0, .int (nI 2)), (1, .long (lN sc)), (3, .int (nI 0))]) hx hb dX6_groupOf_6 hl (by decide) rfl (fun ls hl => ?_)
      refine lv_iload hx hb dX6_groupOf_8 (lv_at hl 0 rfl) ?_
      refine lv_iload_n hx hb dX6_groupOf_10 rfl (lv_at hl 2 rfl) ?_
      refine lv_icmp_ge (tgt := 34) hx hb dX6_groupOf_11 (by decide) (fun h9 => False.elim (by revert h9; decide)) (fun _ => ?_)
      refine lv_iload hx hb dX6_groupOf_14 (lv_at hl 0 rfl) ?_
      refine lv_iconst (v := (nI 3)) hx hb dX6_groupOf_16 (by decide) ?_
      refine lv_icmp_ge (tgt := 34) hx hb dX6_groupOf_17 (by decide) (fun h9 => False.elim (by revert h9; decide)) (fun _ => ?_)
      refine lv_lload hx hb dX6_groupOf_20 (lv_at hl 1 rfl) ?_
      refine lv_ldc2 (v := (100000 : Int64)) hx hb hown (hts (.constantLong RX6 325 (100000)) (by decide +kernel)) dX6_groupOf_22 ?_
      refine ln_ldiv (x := sc) (y := 100000) hx hb dX6_groupOf_25 (by omega) (by decide) (by decide) ?_
      refine lv_lstore (lv' := [(4, .long (lN (sc / 100000))), (6, .int (nI 1)), (0, .int (nI 2)), (1, .long (lN sc)), (3, .int (nI 0))]) hx hb dX6_groupOf_26 hl (by decide) rfl (fun ls hl => ?_)
      refine lv_iinc (v := (nI 2)) (lv' := [(6, .int (nI 2)), (4, .long (lN (sc / 100000))), (0, .int (nI 2)), (1, .long (lN sc)), (3, .int (nI 0))]) hx hb dX6_groupOf_28 hl (k := 1) rfl (by decide) (by decide) rfl (fun ls hl => ?_)
      refine lv_goto (tgt := 8) hx hb dX6_groupOf_31 (by decide) ?_
      refine lv_iload hx hb dX6_groupOf_8 (lv_at hl 0 rfl) ?_
      refine lv_iload_n hx hb dX6_groupOf_10 rfl (lv_at hl 2 rfl) ?_
      refine lv_icmp_ge (tgt := 34) hx hb dX6_groupOf_11 (by decide) (fun _ => ?_) (fun h9 => False.elim (by revert h9; decide))
      refine lv_lload hx hb dX6_groupOf_34 (lv_at hl 1 rfl) ?_
      refine lv_ldc2 (v := (100000 : Int64)) hx hb hown (hts (.constantLong RX6 325 (100000)) (by decide +kernel)) dX6_groupOf_36 ?_
      refine ln_lrem (x := (sc / 100000)) (y := 100000) hx hb dX6_groupOf_39 (by omega) (by decide) (by decide) ?_
      refine lv_l2i (v := nI ((sc / 100000) % 100000)) hx hb dX6_groupOf_40 (lN_i _) ?_
      exact ro_iret hx hb hr hlk dX6_groupOf_41 (congrArg nI (by first | rfl | (exfalso; omega)))
    · refine lv_lload_n hx hb dX6_groupOf_0 rfl (lv_at hl 1 rfl) ?_
      refine lv_lstore (lv' := [(4, .long (lN sc)), (0, .int (nI 2)), (1, .long (lN sc)), (3, .int (nI 1))]) hx hb dX6_groupOf_1 hl (by decide) rfl (fun ls hl => ?_)
      refine lv_iload_n hx hb dX6_groupOf_3 rfl (lv_at hl 3 rfl) ?_
      refine lv_iconst (v := (nI 1)) hx hb dX6_groupOf_4 (by decide) ?_
      refine lv_iadd hx hb dX6_groupOf_5 ?_
      refine ln_eq (x' := (nI 2)) (by decide) ?_
      refine lv_istore (lv' := [(6, .int (nI 2)), (4, .long (lN sc)), (0, .int (nI 2)), (1, .long (lN sc)), (3, .int (nI 1))]) hx hb dX6_groupOf_6 hl (by decide) rfl (fun ls hl => ?_)
      refine lv_iload hx hb dX6_groupOf_8 (lv_at hl 0 rfl) ?_
      refine lv_iload_n hx hb dX6_groupOf_10 rfl (lv_at hl 2 rfl) ?_
      refine lv_icmp_ge (tgt := 34) hx hb dX6_groupOf_11 (by decide) (fun _ => ?_) (fun h9 => False.elim (by revert h9; decide))
      refine lv_lload hx hb dX6_groupOf_34 (lv_at hl 1 rfl) ?_
      refine lv_ldc2 (v := (100000 : Int64)) hx hb hown (hts (.constantLong RX6 325 (100000)) (by decide +kernel)) dX6_groupOf_36 ?_
      refine ln_lrem (x := sc) (y := 100000) hx hb dX6_groupOf_39 (by omega) (by decide) (by decide) ?_
      refine lv_l2i (v := nI (sc % 100000)) hx hb dX6_groupOf_40 (lN_i _) ?_
      exact ro_iret hx hb hr hlk dX6_groupOf_41 (congrArg nI (by first | rfl | (exfalso; omega)))
    · refine lv_lload_n hx hb dX6_groupOf_0 rfl (lv_at hl 1 rfl) ?_
      refine lv_lstore (lv' := [(4, .long (lN sc)), (0, .int (nI 2)), (1, .long (lN sc)), (3, .int (nI 2))]) hx hb dX6_groupOf_1 hl (by decide) rfl (fun ls hl => ?_)
      refine lv_iload_n hx hb dX6_groupOf_3 rfl (lv_at hl 3 rfl) ?_
      refine lv_iconst (v := (nI 1)) hx hb dX6_groupOf_4 (by decide) ?_
      refine lv_iadd hx hb dX6_groupOf_5 ?_
      refine ln_eq (x' := (nI 3)) (by decide) ?_
      refine lv_istore (lv' := [(6, .int (nI 3)), (4, .long (lN sc)), (0, .int (nI 2)), (1, .long (lN sc)), (3, .int (nI 2))]) hx hb dX6_groupOf_6 hl (by decide) rfl (fun ls hl => ?_)
      refine lv_iload hx hb dX6_groupOf_8 (lv_at hl 0 rfl) ?_
      refine lv_iload_n hx hb dX6_groupOf_10 rfl (lv_at hl 2 rfl) ?_
      refine lv_icmp_ge (tgt := 34) hx hb dX6_groupOf_11 (by decide) (fun _ => ?_) (fun h9 => False.elim (by revert h9; decide))
      refine lv_lload hx hb dX6_groupOf_34 (lv_at hl 1 rfl) ?_
      refine lv_ldc2 (v := (100000 : Int64)) hx hb hown (hts (.constantLong RX6 325 (100000)) (by decide +kernel)) dX6_groupOf_36 ?_
      refine ln_lrem (x := sc) (y := 100000) hx hb dX6_groupOf_39 (by omega) (by decide) (by decide) ?_
      refine lv_l2i (v := nI (sc % 100000)) hx hb dX6_groupOf_40 (lN_i _) ?_
      exact ro_iret hx hb hr hlk dX6_groupOf_41 (congrArg nI (by first | rfl | (exfalso; omega)))
  · rcases (show i9 = 0 ∨ i9 = 1 ∨ i9 = 2 by omega) with rfl | rfl | rfl
    · refine lv_lload_n hx hb dX6_groupOf_0 rfl (lv_at hl 1 rfl) ?_
      refine lv_lstore (lv' := [(4, .long (lN sc)), (0, .int (nI 3)), (1, .long (lN sc)), (3, .int (nI 0))]) hx hb dX6_groupOf_1 hl (by decide) rfl (fun ls hl => ?_)
      refine lv_iload_n hx hb dX6_groupOf_3 rfl (lv_at hl 3 rfl) ?_
      refine lv_iconst (v := (nI 1)) hx hb dX6_groupOf_4 (by decide) ?_
      refine lv_iadd hx hb dX6_groupOf_5 ?_
      refine ln_eq (x' := (nI 1)) (by decide) ?_
      refine lv_istore (lv' := [(6, .int (nI 1)), (4, .long (lN sc)), (0, .int (nI 3)), (1, .long (lN sc)), (3, .int (nI 0))]) hx hb dX6_groupOf_6 hl (by decide) rfl (fun ls hl => ?_)
      refine lv_iload hx hb dX6_groupOf_8 (lv_at hl 0 rfl) ?_
      refine lv_iload_n hx hb dX6_groupOf_10 rfl (lv_at hl 2 rfl) ?_
      refine lv_icmp_ge (tgt := 34) hx hb dX6_groupOf_11 (by decide) (fun h9 => False.elim (by revert h9; decide)) (fun _ => ?_)
      refine lv_iload hx hb dX6_groupOf_14 (lv_at hl 0 rfl) ?_
      refine lv_iconst (v := (nI 3)) hx hb dX6_groupOf_16 (by decide) ?_
      refine lv_icmp_ge (tgt := 34) hx hb dX6_groupOf_17 (by decide) (fun h9 => False.elim (by revert h9; decide)) (fun _ => ?_)
      refine lv_lload hx hb dX6_groupOf_20 (lv_at hl 1 rfl) ?_
      refine lv_ldc2 (v := (100000 : Int64)) hx hb hown (hts (.constantLong RX6 325 (100000)) (by decide +kernel)) dX6_groupOf_22 ?_
      refine ln_ldiv (x := sc) (y := 100000) hx hb dX6_groupOf_25 (by omega) (by decide) (by decide) ?_
      refine lv_lstore (lv' := [(4, .long (lN (sc / 100000))), (6, .int (nI 1)), (0, .int (nI 3)), (1, .long (lN sc)), (3, .int (nI 0))]) hx hb dX6_groupOf_26 hl (by decide) rfl (fun ls hl => ?_)
      refine lv_iinc (v := (nI 2)) (lv' := [(6, .int (nI 2)), (4, .long (lN (sc / 100000))), (0, .int (nI 3)), (1, .long (lN sc)), (3, .int (nI 0))]) hx hb dX6_groupOf_28 hl (k := 1) rfl (by decide) (by decide) rfl (fun ls hl => ?_)
      refine lv_goto (tgt := 8) hx hb dX6_groupOf_31 (by decide) ?_
      refine lv_iload hx hb dX6_groupOf_8 (lv_at hl 0 rfl) ?_
      refine lv_iload_n hx hb dX6_groupOf_10 rfl (lv_at hl 2 rfl) ?_
      refine lv_icmp_ge (tgt := 34) hx hb dX6_groupOf_11 (by decide) (fun h9 => False.elim (by revert h9; decide)) (fun _ => ?_)
      refine lv_iload hx hb dX6_groupOf_14 (lv_at hl 0 rfl) ?_
      refine lv_iconst (v := (nI 3)) hx hb dX6_groupOf_16 (by decide) ?_
      refine lv_icmp_ge (tgt := 34) hx hb dX6_groupOf_17 (by decide) (fun h9 => False.elim (by revert h9; decide)) (fun _ => ?_)
      refine lv_lload hx hb dX6_groupOf_20 (lv_at hl 1 rfl) ?_
      refine lv_ldc2 (v := (100000 : Int64)) hx hb hown (hts (.constantLong RX6 325 (100000)) (by decide +kernel)) dX6_groupOf_22 ?_
      refine ln_ldiv (x := (sc / 100000)) (y := 100000) hx hb dX6_groupOf_25 (by omega) (by decide) (by decide) ?_
      refine lv_lstore (lv' := [(4, .long (lN ((sc / 100000) / 100000))), (6, .int (nI 2)), (0, .int (nI 3)), (1, .long (lN sc)), (3, .int (nI 0))]) hx hb dX6_groupOf_26 hl (by decide) rfl (fun ls hl => ?_)
      refine lv_iinc (v := (nI 3)) (lv' := [(6, .int (nI 3)), (4, .long (lN ((sc / 100000) / 100000))), (0, .int (nI 3)), (1, .long (lN sc)), (3, .int (nI 0))]) hx hb dX6_groupOf_28 hl (k := 1) rfl (by decide) (by decide) rfl (fun ls hl => ?_)
      refine lv_goto (tgt := 8) hx hb dX6_groupOf_31 (by decide) ?_
      refine lv_iload hx hb dX6_groupOf_8 (lv_at hl 0 rfl) ?_
      refine lv_iload_n hx hb dX6_groupOf_10 rfl (lv_at hl 2 rfl) ?_
      refine lv_icmp_ge (tgt := 34) hx hb dX6_groupOf_11 (by decide) (fun _ => ?_) (fun h9 => False.elim (by revert h9; decide))
      refine lv_lload hx hb dX6_groupOf_34 (lv_at hl 1 rfl) ?_
      refine lv_ldc2 (v := (100000 : Int64)) hx hb hown (hts (.constantLong RX6 325 (100000)) (by decide +kernel)) dX6_groupOf_36 ?_
      refine ln_lrem (x := ((sc / 100000) / 100000)) (y := 100000) hx hb dX6_groupOf_39 (by omega) (by decide) (by decide) ?_
      refine lv_l2i (v := nI (((sc / 100000) / 100000) % 100000)) hx hb dX6_groupOf_40 (lN_i _) ?_
      exact ro_iret hx hb hr hlk dX6_groupOf_41 (congrArg nI (by first | rfl | (exfalso; omega)))
    · refine lv_lload_n hx hb dX6_groupOf_0 rfl (lv_at hl 1 rfl) ?_
      refine lv_lstore (lv' := [(4, .long (lN sc)), (0, .int (nI 3)), (1, .long (lN sc)), (3, .int (nI 1))]) hx hb dX6_groupOf_1 hl (by decide) rfl (fun ls hl => ?_)
      refine lv_iload_n hx hb dX6_groupOf_3 rfl (lv_at hl 3 rfl) ?_
      refine lv_iconst (v := (nI 1)) hx hb dX6_groupOf_4 (by decide) ?_
      refine lv_iadd hx hb dX6_groupOf_5 ?_
      refine ln_eq (x' := (nI 2)) (by decide) ?_
      refine lv_istore (lv' := [(6, .int (nI 2)), (4, .long (lN sc)), (0, .int (nI 3)), (1, .long (lN sc)), (3, .int (nI 1))]) hx hb dX6_groupOf_6 hl (by decide) rfl (fun ls hl => ?_)
      refine lv_iload hx hb dX6_groupOf_8 (lv_at hl 0 rfl) ?_
      refine lv_iload_n hx hb dX6_groupOf_10 rfl (lv_at hl 2 rfl) ?_
      refine lv_icmp_ge (tgt := 34) hx hb dX6_groupOf_11 (by decide) (fun h9 => False.elim (by revert h9; decide)) (fun _ => ?_)
      refine lv_iload hx hb dX6_groupOf_14 (lv_at hl 0 rfl) ?_
      refine lv_iconst (v := (nI 3)) hx hb dX6_groupOf_16 (by decide) ?_
      refine lv_icmp_ge (tgt := 34) hx hb dX6_groupOf_17 (by decide) (fun h9 => False.elim (by revert h9; decide)) (fun _ => ?_)
      refine lv_lload hx hb dX6_groupOf_20 (lv_at hl 1 rfl) ?_
      refine lv_ldc2 (v := (100000 : Int64)) hx hb hown (hts (.constantLong RX6 325 (100000)) (by decide +kernel)) dX6_groupOf_22 ?_
      refine ln_ldiv (x := sc) (y := 100000) hx hb dX6_groupOf_25 (by omega) (by decide) (by decide) ?_
      refine lv_lstore (lv' := [(4, .long (lN (sc / 100000))), (6, .int (nI 2)), (0, .int (nI 3)), (1, .long (lN sc)), (3, .int (nI 1))]) hx hb dX6_groupOf_26 hl (by decide) rfl (fun ls hl => ?_)
      refine lv_iinc (v := (nI 3)) (lv' := [(6, .int (nI 3)), (4, .long (lN (sc / 100000))), (0, .int (nI 3)), (1, .long (lN sc)), (3, .int (nI 1))]) hx hb dX6_groupOf_28 hl (k := 1) rfl (by decide) (by decide) rfl (fun ls hl => ?_)
      refine lv_goto (tgt := 8) hx hb dX6_groupOf_31 (by decide) ?_
      refine lv_iload hx hb dX6_groupOf_8 (lv_at hl 0 rfl) ?_
      refine lv_iload_n hx hb dX6_groupOf_10 rfl (lv_at hl 2 rfl) ?_
      refine lv_icmp_ge (tgt := 34) hx hb dX6_groupOf_11 (by decide) (fun _ => ?_) (fun h9 => False.elim (by revert h9; decide))
      refine lv_lload hx hb dX6_groupOf_34 (lv_at hl 1 rfl) ?_
      refine lv_ldc2 (v := (100000 : Int64)) hx hb hown (hts (.constantLong RX6 325 (100000)) (by decide +kernel)) dX6_groupOf_36 ?_
      refine ln_lrem (x := (sc / 100000)) (y := 100000) hx hb dX6_groupOf_39 (by omega) (by decide) (by decide) ?_
      refine lv_l2i (v := nI ((sc / 100000) % 100000)) hx hb dX6_groupOf_40 (lN_i _) ?_
      exact ro_iret hx hb hr hlk dX6_groupOf_41 (congrArg nI (by first | rfl | (exfalso; omega)))
    · refine lv_lload_n hx hb dX6_groupOf_0 rfl (lv_at hl 1 rfl) ?_
      refine lv_lstore (lv' := [(4, .long (lN sc)), (0, .int (nI 3)), (1, .long (lN sc)), (3, .int (nI 2))]) hx hb dX6_groupOf_1 hl (by decide) rfl (fun ls hl => ?_)
      refine lv_iload_n hx hb dX6_groupOf_3 rfl (lv_at hl 3 rfl) ?_
      refine lv_iconst (v := (nI 1)) hx hb dX6_groupOf_4 (by decide) ?_
      refine lv_iadd hx hb dX6_groupOf_5 ?_
      refine ln_eq (x' := (nI 3)) (by decide) ?_
      refine lv_istore (lv' := [(6, .int (nI 3)), (4, .long (lN sc)), (0, .int (nI 3)), (1, .long (lN sc)), (3, .int (nI 2))]) hx hb dX6_groupOf_6 hl (by decide) rfl (fun ls hl => ?_)
      refine lv_iload hx hb dX6_groupOf_8 (lv_at hl 0 rfl) ?_
      refine lv_iload_n hx hb dX6_groupOf_10 rfl (lv_at hl 2 rfl) ?_
      refine lv_icmp_ge (tgt := 34) hx hb dX6_groupOf_11 (by decide) (fun _ => ?_) (fun h9 => False.elim (by revert h9; decide))
      refine lv_lload hx hb dX6_groupOf_34 (lv_at hl 1 rfl) ?_
      refine lv_ldc2 (v := (100000 : Int64)) hx hb hown (hts (.constantLong RX6 325 (100000)) (by decide +kernel)) dX6_groupOf_36 ?_
      refine ln_lrem (x := sc) (y := 100000) hx hb dX6_groupOf_39 (by omega) (by decide) (by decide) ?_
      refine lv_l2i (v := nI (sc % 100000)) hx hb dX6_groupOf_40 (lN_i _) ?_
      exact ro_iret hx hb hr hlk dX6_groupOf_41 (congrArg nI (by first | rfl | (exfalso; omega)))
theorem k_cpa {g : Nat → Nat} {t : Nat} (h : (decide (g 0 < 40) || (k_ix g t).isSome) = true) : k_af g t = 0 := by
  refine k_af_of ?_
  by_cases q : g 0 < 40
  · exact Or.inl q
  · rw [decide_eq_false q, Bool.false_or] at h
    exact Or.inr (fun e => by rw [e] at h; cases h)
theorem k_cpn {g : Nat → Nat} {t : Nat} (hk : k_ok g) (h : (decide (g 0 < 40) || (k_ix g t).isSome) = false) : ¬ k_af g t = 0 := fun e => by
  rcases k_af_0 hk e with q | q
  · rw [decide_eq_true q, Bool.true_or] at h; cases h
  · cases e2 : k_ix g t with
    | none => exact q e2
    | some r => rw [e2, Option.isSome, Bool.or_true] at h; cases h
theorem k_af_ptr {tr : Nat → Int32} {g : Nat → Nat} {t : Nat} (h : ¬ k_af g t = 0) : k_ptr tr g t = tr := by
  have hn : k_new g t = false := k_new_full (by have := (k_af_1 h).1; omega)
  exact if_neg (by rw [hn]; decide)
set_option maxHeartbeats 4000000 in
set_option maxRecDepth 100000 in
theorem c6_toPut (l : Launch) (D : va_G) (tc : Nat → ClassId) (zb : Nat) (a a1 a2 : Nat) (tr qs : Nat → Int32) (g : Nat → Nat) (t fi re : Nat) (hk : k_ok g) (hR : k_R tr qs g) (hte : t = 1000 * fi + re) (hre9 : re < 1000) (hfi9 : fi < 10) : IP l yX6_succeedsToPut wsX6_succeedsToPut 3 64 D tc zb (w_st tc a a1 a2 tr qs g) (w_st tc a a1 a2 (k_sct tr g 1 fi re) (k_scq qs g 1 fi re) (m_sc g 1 fi re)) [.ref a, .int (nI t)] (some (.int (bI (k_sc g 1 fi re)))) := by
  refine IP.of (cc := cX6_succeedsToPut) (maxL := 2) (ret := (some .boolean)) (by decide) rfl (Nat.le_of_ble_eq_true rfl) ?_
  intro p e s m args below meth c A hx hb hr hml hlk hts hown hM hS hP hD ls hl
  have hl : lv_has ls 2 [(0, .ref a), (1, .int (nI t))] := hl
  obtain ⟨ok0, ok1, ok2, ok3, ok4, ok5, ok6⟩ := id hk
  have hk41 : g 41 < 64 := ok1
  refine lv_iload_n hx hb dX6_succeedsToPut_0 rfl (lv_at hl 1 rfl) ?_
  refine lv_sipush (v := (nI 999)) hx hb dX6_succeedsToPut_1 (by decide) ?_
  refine ln_icmp_gt (tgt := 15) hx hb dX6_succeedsToPut_4 (by decide) (by omega) (by decide) (fun h1 => ?_) (fun h1 => ?_)
  · refine lv_iconst (v := (nI 0)) hx hb dX6_succeedsToPut_15 (by decide) ?_
    exact ip_zret hx hb hr hlk dX6_succeedsToPut_16 hS (show bI false = _ from congrArg bI (by show _ = decide (fi = 0 ∧ k_af g re = 0); exact (decide_eq_false (fun h9 => by (have h8 := h9.1); omega)).symm)) (by show va_P D vwCl (w_st tc a a1 a2 (if fi = 0 then k_ptr tr g re else tr) qs (if fi = 0 then m_put g re else g)) _; rw [if_neg (show ¬ fi = 0 by omega), if_neg (show ¬ fi = 0 by omega)]; exact hP)
  · refine lv_aload_n hx hb dX6_succeedsToPut_7 rfl (lv_at hl 0 rfl) ?_
    refine lv_iload_n hx hb dX6_succeedsToPut_8 rfl (lv_at hl 1 rfl) ?_
    have et9 : t = re := by omega
    refine ln_eq (x' := nI re) (congrArg nI et9) ?_
    refine ro_V (C := RX4) (n := 1) ⟨hx, hb, hml, hown, hts⟩ hM hS hP (c_canPut l D tc zb a a1 a2 tr qs g re hk hR (by omega)) gX6_succeedsToPut_X4_canPut rfl (by decide +kernel) ⟨Nat.le_of_ble_eq_true rfl, Nat.le_of_ble_eq_true rfl⟩ [0, 1, 2] rfl (va_recv hM.1 hP (ci := 3) (q0 := 0) rfl rfl) rfl hl.1 rfl (Nat.le_of_ble_eq_true rfl) dX6_succeedsToPut_9 ⟨Nat.le_refl _, Nat.le_refl _⟩ ?_
    refine ln_if_neB (tgt := 17) hx hb dX6_succeedsToPut_12 (by decide) (fun h2 => ?_) (fun h2 => ?_)
    · refine lv_aload_n hx hb dX6_succeedsToPut_17 rfl (lv_at hl 0 rfl) ?_
      refine lv_iload_n hx hb dX6_succeedsToPut_18 rfl (lv_at hl 1 rfl) ?_
      refine ln_eq (x' := nI re) (congrArg nI et9) ?_
      refine ip_V (C := RX4) (n := 1) (wl' := [(a, .inr (3, [.ref a1, .int (nI ((m_put g re) 0)), .int (nI ((m_put g re) 41)), .int (nI ((m_put g re) 42)), .int (nI ((m_put g re) 43)), .int (nI ((m_put g re) 44)), .int (nI ((m_put g re) 45)), .ref a2, .int (nI ((m_put g re) 46)), .int (nI ((m_put g re) 59))])), (a1, .inl (tc 0, 40, .inl ((k_ptr tr g re)))), (a2, .inl (tc 0, 12, .inl qs))]) ⟨hx, hb, hml, hown, hts⟩ hM hS hP hD (c_put l D tc zb a a1 a2 tr qs g re hk hR (by omega)) gX6_succeedsToPut_X4_put rfl (by decide +kernel) ⟨Nat.le_of_ble_eq_true rfl, Nat.le_of_ble_eq_true rfl⟩ [0, 1, 2] rfl rfl [(true, 0), (true, 1), (true, 2)] rfl rfl rfl (va_recv hM.1 hP (ci := 3) (q0 := 0) rfl rfl) rfl hl.1 rfl (Nat.le_of_ble_eq_true rfl) dX6_succeedsToPut_19 ⟨Nat.le_refl _, Nat.le_refl _⟩ (fun H locs hP hD hS => ?_)
      refine W.eq (g2 := F0 m 22 ls [.int (nI (k_pv g re))]) rfl ?_
      refine lv_pop hx hb dX6_succeedsToPut_22 rfl ?_
      refine lv_iconst (v := (nI 1)) hx hb dX6_succeedsToPut_23 (by decide) ?_
      exact ip_zret hx hb hr hlk dX6_succeedsToPut_24 hS (show bI true = _ from congrArg bI (by show _ = decide (fi = 0 ∧ k_af g re = 0); exact (decide_eq_true ⟨by omega, k_cpa (by assumption)⟩).symm)) (by show va_P D vwCl (w_st tc a a1 a2 (if fi = 0 then k_ptr tr g re else tr) qs (if fi = 0 then m_put g re else g)) _; rw [if_pos (show fi = 0 by omega), if_pos (show fi = 0 by omega)]; exact hP)
    · refine lv_iconst (v := (nI 0)) hx hb dX6_succeedsToPut_15 (by decide) ?_
      exact ip_zret hx hb hr hlk dX6_succeedsToPut_16 hS (show bI false = _ from congrArg bI (by show _ = decide (fi = 0 ∧ k_af g re = 0); exact (decide_eq_false (fun h9 => k_cpn hk (by assumption) h9.2)).symm)) (by show va_P D vwCl (w_st tc a a1 a2 (if fi = 0 then k_ptr tr g re else tr) qs (if fi = 0 then m_put g re else g)) _; (have hna := k_cpn hk (by assumption)); rw [if_pos (show fi = 0 by omega), if_pos (show fi = 0 by omega), (k_af_put hna).1, k_af_ptr hna]; exact hP)
set_option maxHeartbeats 4000000 in
set_option maxRecDepth 100000 in
theorem c6_toKeep (l : Launch) (D : va_G) (tc : Nat → ClassId) (zb : Nat) (a a1 a2 : Nat) (tr qs : Nat → Int32) (g : Nat → Nat) (t fi re : Nat) (hk : k_ok g) (hR : k_R tr qs g) (hte : t = 1000 * fi + re) (hre9 : re < 1000) (hfi9 : fi < 10) : IP l yX6_succeedsToKeep wsX6_succeedsToKeep 2 43 D tc zb (w_st tc a a1 a2 tr qs g) (w_st tc a a1 a2 (k_sct tr g 4 fi re) (k_scq qs g 4 fi re) (m_sc g 4 fi re)) [.ref a, .int (nI t)] (some (.int (bI (k_sc g 4 fi re)))) := by
  refine IP.of (cc := cX6_succeedsToKeep) (maxL := 3) (ret := (some .boolean)) (by decide) rfl (Nat.le_of_ble_eq_true rfl) ?_
  intro p e s m args below meth c A hx hb hr hml hlk hts hown hM hS hP hD ls hl
  have hl : lv_has ls 3 [(0, .ref a), (1, .int (nI t))] := hl
  obtain ⟨ok0, ok1, ok2, ok3, ok4, ok5, ok6⟩ := id hk
  have hk41 : g 41 < 64 := ok1
  refine lv_iload_n hx hb dX6_succeedsToKeep_0 rfl (lv_at hl 1 rfl) ?_
  refine lv_sipush (v := (nI 1000)) hx hb dX6_succeedsToKeep_1 (by decide) ?_
  refine ln_idiv hx hb dX6_succeedsToKeep_4 (by omega) (by decide) (by decide) ?_
  refine ln_eq (x' := (nI fi)) (congrArg nI (by omega)) ?_
  refine lv_istore_n (lv' := [(2, .int (nI fi)), (0, .ref a), (1, .int (nI t))]) hx hb dX6_succeedsToKeep_5 rfl hl (by decide) rfl (fun ls hl => ?_)
  refine lv_iload_n hx hb dX6_succeedsToKeep_6 rfl (lv_at hl 2 rfl) ?_
  refine lv_sipush (v := (nI 1000)) hx hb dX6_succeedsToKeep_7 (by decide) ?_
  refine ln_irem hx hb dX6_succeedsToKeep_10 (by omega) (by decide) (by decide) ?_
  refine ln_eq (x' := (nI re)) (congrArg nI (by omega)) ?_
  refine ln_if_ne (tgt := 28) hx hb dX6_succeedsToKeep_11 (by decide) (by omega) (fun h1 => ?_) (fun h1 => ?_)
  · refine lv_iconst (v := (nI 0)) hx hb dX6_succeedsToKeep_28 (by decide) ?_
    exact ip_zret hx hb hr hlk dX6_succeedsToKeep_29 hS (show bI false = _ from congrArg bI (by show _ = decide (re = 0 ∧ fi < 6 ∧ k_in (g 41) fi = false); exact (decide_eq_false (fun h9 => by first | omega | (have h8 := h9.2.2; simp_all; done))).symm)) (by show va_P D vwCl (w_st tc a a1 a2 tr qs (if re = 0 ∧ fi < 6 ∧ k_in (g 41) fi = false then m_bld g fi else g)) _; rw [if_neg (fun h9 => by first | omega | (have h8 := h9.2.2; simp_all; done))]; exact hP)
  · refine lv_iload_n hx hb dX6_succeedsToKeep_14 rfl (lv_at hl 0 rfl) ?_
    refine lv_bipush (v := (nI 6)) hx hb dX6_succeedsToKeep_15 (by decide) ?_
    refine ln_icmp_ge (tgt := 28) hx hb dX6_succeedsToKeep_17 (by decide) (by omega) (by decide) (fun h2 => ?_) (fun h2 => ?_)
    · refine lv_iconst (v := (nI 0)) hx hb dX6_succeedsToKeep_28 (by decide) ?_
      exact ip_zret hx hb hr hlk dX6_succeedsToKeep_29 hS (show bI false = _ from congrArg bI (by show _ = decide (re = 0 ∧ fi < 6 ∧ k_in (g 41) fi = false); exact (decide_eq_false (fun h9 => by first | omega | (have h8 := h9.2.2; simp_all; done))).symm)) (by show va_P D vwCl (w_st tc a a1 a2 tr qs (if re = 0 ∧ fi < 6 ∧ k_in (g 41) fi = false then m_bld g fi else g)) _; rw [if_neg (fun h9 => by first | omega | (have h8 := h9.2.2; simp_all; done))]; exact hP)
    · refine lv_aload_n hx hb dX6_succeedsToKeep_20 rfl (lv_at hl 1 rfl) ?_
      refine lv_iload_n hx hb dX6_succeedsToKeep_21 rfl (lv_at hl 0 rfl) ?_
      refine ro_V (C := RX4) (n := 1) ⟨hx, hb, hml, hown, hts⟩ hM hS hP (c_keeps l D tc zb a a1 a2 tr qs g fi hk hR (by omega)) gX6_succeedsToKeep_X4_keeps rfl (by decide +kernel) ⟨Nat.le_of_ble_eq_true rfl, Nat.le_of_ble_eq_true rfl⟩ [0, 1, 2] rfl (va_recv hM.1 hP (ci := 3) (q0 := 0) rfl rfl) rfl hl.1 rfl (Nat.le_of_ble_eq_true rfl) dX6_succeedsToKeep_22 ⟨Nat.le_refl _, Nat.le_refl _⟩ ?_
      refine ln_if_eqB (tgt := 30) hx hb dX6_succeedsToKeep_25 (by decide) (fun h3 => ?_) (fun h3 => ?_)
      · refine lv_aload_n hx hb dX6_succeedsToKeep_30 rfl (lv_at hl 1 rfl) ?_
        refine lv_iload_n hx hb dX6_succeedsToKeep_31 rfl (lv_at hl 0 rfl) ?_
        refine ip_V (C := RX4) (n := 1) (wl' := [(a, .inr (3, [.ref a1, .int (nI ((m_bld g fi) 0)), .int (nI ((m_bld g fi) 41)), .int (nI ((m_bld g fi) 42)), .int (nI ((m_bld g fi) 43)), .int (nI ((m_bld g fi) 44)), .int (nI ((m_bld g fi) 45)), .ref a2, .int (nI ((m_bld g fi) 46)), .int (nI ((m_bld g fi) 59))])), (a1, .inl (tc 0, 40, .inl tr)), (a2, .inl (tc 0, 12, .inl qs))]) ⟨hx, hb, hml, hown, hts⟩ hM hS hP hD (c_keep l D tc zb a a1 a2 tr qs g fi hk hR (by omega)) gX6_succeedsToKeep_X4_keep rfl (by decide +kernel) ⟨Nat.le_of_ble_eq_true rfl, Nat.le_of_ble_eq_true rfl⟩ [0, 1, 2] rfl rfl [(true, 0), (true, 1), (true, 2)] rfl rfl rfl (va_recv hM.1 hP (ci := 3) (q0 := 0) rfl rfl) rfl hl.1 rfl (Nat.le_of_ble_eq_true rfl) dX6_succeedsToKeep_32 ⟨Nat.le_refl _, Nat.le_refl _⟩ (fun H locs hP hD hS => ?_)
        refine W.eq (g2 := F0 m 35 ls [.int (nI (g 0 * k_lk (g 0)))]) rfl ?_
        refine lv_pop hx hb dX6_succeedsToKeep_35 rfl ?_
        refine lv_iconst (v := (nI 1)) hx hb dX6_succeedsToKeep_36 (by decide) ?_
        exact ip_zret hx hb hr hlk dX6_succeedsToKeep_37 hS (show bI true = _ from congrArg bI (by show _ = decide (re = 0 ∧ fi < 6 ∧ k_in (g 41) fi = false); exact (decide_eq_true ⟨by omega, by omega, by assumption⟩).symm)) (by show va_P D vwCl (w_st tc a a1 a2 tr qs (if re = 0 ∧ fi < 6 ∧ k_in (g 41) fi = false then m_bld g fi else g)) _; rw [if_pos ⟨by omega, by omega, by assumption⟩]; exact hP)
      · refine lv_iconst (v := (nI 0)) hx hb dX6_succeedsToKeep_28 (by decide) ?_
        exact ip_zret hx hb hr hlk dX6_succeedsToKeep_29 hS (show bI false = _ from congrArg bI (by show _ = decide (re = 0 ∧ fi < 6 ∧ k_in (g 41) fi = false); exact (decide_eq_false (fun h9 => by first | omega | (have h8 := h9.2.2; simp_all; done))).symm)) (by show va_P D vwCl (w_st tc a a1 a2 tr qs (if re = 0 ∧ fi < 6 ∧ k_in (g 41) fi = false then m_bld g fi else g)) _; rw [if_neg (fun h9 => by first | omega | (have h8 := h9.2.2; simp_all; done))]; exact hP)
set_option maxHeartbeats 4000000 in
set_option maxRecDepth 100000 in
theorem c6_toDiscard (l : Launch) (D : va_G) (tc : Nat → ClassId) (zb : Nat) (a a1 a2 : Nat) (tr qs : Nat → Int32) (g : Nat → Nat) (t fi re : Nat) (hk : k_ok g) (hR : k_R tr qs g) (hte : t = 1000 * fi + re) (hre9 : re < 1000) (hfi9 : fi < 10) : IP l yX6_succeedsToDiscard wsX6_succeedsToDiscard 2 41 D tc zb (w_st tc a a1 a2 tr qs g) (w_st tc a a1 a2 (k_sct tr g 5 fi re) (k_scq qs g 5 fi re) (m_sc g 5 fi re)) [.ref a, .int (nI t)] (some (.int (bI (k_sc g 5 fi re)))) := by
  refine IP.of (cc := cX6_succeedsToDiscard) (maxL := 3) (ret := (some .boolean)) (by decide) rfl (Nat.le_of_ble_eq_true rfl) ?_
  intro p e s m args below meth c A hx hb hr hml hlk hts hown hM hS hP hD ls hl
  have hl : lv_has ls 3 [(0, .ref a), (1, .int (nI t))] := hl
  obtain ⟨ok0, ok1, ok2, ok3, ok4, ok5, ok6⟩ := id hk
  have hk41 : g 41 < 64 := ok1
  refine lv_iload_n hx hb dX6_succeedsToDiscard_0 rfl (lv_at hl 1 rfl) ?_
  refine lv_sipush (v := (nI 1000)) hx hb dX6_succeedsToDiscard_1 (by decide) ?_
  refine ln_idiv hx hb dX6_succeedsToDiscard_4 (by omega) (by decide) (by decide) ?_
  refine ln_eq (x' := (nI fi)) (congrArg nI (by omega)) ?_
  refine lv_istore_n (lv' := [(2, .int (nI fi)), (0, .ref a), (1, .int (nI t))]) hx hb dX6_succeedsToDiscard_5 rfl hl (by decide) rfl (fun ls hl => ?_)
  refine lv_iload_n hx hb dX6_succeedsToDiscard_6 rfl (lv_at hl 2 rfl) ?_
  refine lv_sipush (v := (nI 1000)) hx hb dX6_succeedsToDiscard_7 (by decide) ?_
  refine ln_irem hx hb dX6_succeedsToDiscard_10 (by omega) (by decide) (by decide) ?_
  refine ln_eq (x' := (nI re)) (congrArg nI (by omega)) ?_
  refine ln_if_ne (tgt := 28) hx hb dX6_succeedsToDiscard_11 (by decide) (by omega) (fun h1 => ?_) (fun h1 => ?_)
  · refine lv_iconst (v := (nI 0)) hx hb dX6_succeedsToDiscard_28 (by decide) ?_
    exact ip_zret hx hb hr hlk dX6_succeedsToDiscard_29 hS (show bI false = _ from congrArg bI (by show _ = decide (re = 0 ∧ fi < 6 ∧ k_in (g 41) fi = true); exact (decide_eq_false (fun h9 => by first | omega | (have h8 := h9.2.2; simp_all; done))).symm)) (by show va_P D vwCl (w_st tc a a1 a2 tr qs (if re = 0 ∧ fi < 6 ∧ k_in (g 41) fi = true then m_drp g fi else g)) _; rw [if_neg (fun h9 => by first | omega | (have h8 := h9.2.2; simp_all; done))]; exact hP)
  · refine lv_iload_n hx hb dX6_succeedsToDiscard_14 rfl (lv_at hl 0 rfl) ?_
    refine lv_bipush (v := (nI 6)) hx hb dX6_succeedsToDiscard_15 (by decide) ?_
    refine ln_icmp_ge (tgt := 28) hx hb dX6_succeedsToDiscard_17 (by decide) (by omega) (by decide) (fun h2 => ?_) (fun h2 => ?_)
    · refine lv_iconst (v := (nI 0)) hx hb dX6_succeedsToDiscard_28 (by decide) ?_
      exact ip_zret hx hb hr hlk dX6_succeedsToDiscard_29 hS (show bI false = _ from congrArg bI (by show _ = decide (re = 0 ∧ fi < 6 ∧ k_in (g 41) fi = true); exact (decide_eq_false (fun h9 => by first | omega | (have h8 := h9.2.2; simp_all; done))).symm)) (by show va_P D vwCl (w_st tc a a1 a2 tr qs (if re = 0 ∧ fi < 6 ∧ k_in (g 41) fi = true then m_drp g fi else g)) _; rw [if_neg (fun h9 => by first | omega | (have h8 := h9.2.2; simp_all; done))]; exact hP)
    · refine lv_aload_n hx hb dX6_succeedsToDiscard_20 rfl (lv_at hl 1 rfl) ?_
      refine lv_iload_n hx hb dX6_succeedsToDiscard_21 rfl (lv_at hl 0 rfl) ?_
      refine ro_V (C := RX4) (n := 1) ⟨hx, hb, hml, hown, hts⟩ hM hS hP (c_keeps l D tc zb a a1 a2 tr qs g fi hk hR (by omega)) gX6_succeedsToDiscard_X4_keeps rfl (by decide +kernel) ⟨Nat.le_of_ble_eq_true rfl, Nat.le_of_ble_eq_true rfl⟩ [0, 1, 2] rfl (va_recv hM.1 hP (ci := 3) (q0 := 0) rfl rfl) rfl hl.1 rfl (Nat.le_of_ble_eq_true rfl) dX6_succeedsToDiscard_22 ⟨Nat.le_refl _, Nat.le_refl _⟩ ?_
      refine ln_if_neB (tgt := 30) hx hb dX6_succeedsToDiscard_25 (by decide) (fun h3 => ?_) (fun h3 => ?_)
      · refine lv_aload_n hx hb dX6_succeedsToDiscard_30 rfl (lv_at hl 1 rfl) ?_
        refine lv_iload_n hx hb dX6_succeedsToDiscard_31 rfl (lv_at hl 0 rfl) ?_
        refine ip_V (C := RX4) (n := 1) (wl' := [(a, .inr (3, [.ref a1, .int (nI ((m_drp g fi) 0)), .int (nI ((m_drp g fi) 41)), .int (nI ((m_drp g fi) 42)), .int (nI ((m_drp g fi) 43)), .int (nI ((m_drp g fi) 44)), .int (nI ((m_drp g fi) 45)), .ref a2, .int (nI ((m_drp g fi) 46)), .int (nI ((m_drp g fi) 59))])), (a1, .inl (tc 0, 40, .inl tr)), (a2, .inl (tc 0, 12, .inl qs))]) ⟨hx, hb, hml, hown, hts⟩ hM hS hP hD (c_discard l D tc zb a a1 a2 tr qs g fi hk hR (by omega)) gX6_succeedsToDiscard_X4_discard rfl (by decide +kernel) ⟨Nat.le_of_ble_eq_true rfl, Nat.le_of_ble_eq_true rfl⟩ [0, 1, 2] rfl rfl [(true, 0), (true, 1), (true, 2)] rfl rfl rfl (va_recv hM.1 hP (ci := 3) (q0 := 0) rfl rfl) rfl hl.1 rfl (Nat.le_of_ble_eq_true rfl) dX6_succeedsToDiscard_32 ⟨Nat.le_refl _, Nat.le_refl _⟩ (fun H locs hP hD hS => ?_)
        refine W.eq (g2 := F0 m 35 ls [.int (nI (k_pc (g 41 &&& (63 ^^^ 2 ^ fi))))]) rfl ?_
        refine lv_pop hx hb dX6_succeedsToDiscard_35 rfl ?_
        refine lv_iconst (v := (nI 1)) hx hb dX6_succeedsToDiscard_36 (by decide) ?_
        exact ip_zret hx hb hr hlk dX6_succeedsToDiscard_37 hS (show bI true = _ from congrArg bI (by show _ = decide (re = 0 ∧ fi < 6 ∧ k_in (g 41) fi = true); exact (decide_eq_true ⟨by omega, by omega, by assumption⟩).symm)) (by show va_P D vwCl (w_st tc a a1 a2 tr qs (if re = 0 ∧ fi < 6 ∧ k_in (g 41) fi = true then m_drp g fi else g)) _; rw [if_pos ⟨by omega, by omega, by assumption⟩]; exact hP)
      · refine lv_iconst (v := (nI 0)) hx hb dX6_succeedsToDiscard_28 (by decide) ?_
        exact ip_zret hx hb hr hlk dX6_succeedsToDiscard_29 hS (show bI false = _ from congrArg bI (by show _ = decide (re = 0 ∧ fi < 6 ∧ k_in (g 41) fi = true); exact (decide_eq_false (fun h9 => by first | omega | (have h8 := h9.2.2; simp_all; done))).symm)) (by show va_P D vwCl (w_st tc a a1 a2 tr qs (if re = 0 ∧ fi < 6 ∧ k_in (g 41) fi = true then m_drp g fi else g)) _; rw [if_neg (fun h9 => by first | omega | (have h8 := h9.2.2; simp_all; done))]; exact hP)
