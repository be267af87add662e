set_option maxHeartbeats 4000000 in
set_option maxRecDepth 100000 in
theorem l_low (l : Launch) (D : va_G) (tc : Nat → ClassId) (zb : Nat) (v : Int32) (n : Nat) (hn : 0 < n ∧ n < 2 ^ 31) : RO l yL_low wsL_low 0 0 D tc zb [] [.int (v), .int (nI n)] (.int (nI (k_low v n))) := by
  refine RO.of (cc := cL_low) (maxL := 2) (ret := (some .int)) (by decide) rfl (Nat.le_of_ble_eq_true rfl) ?_
  intro p e s m args below meth c hx hb hr hml hlk hts hown hM hS hP ls hl
  have hl : lv_has ls 2 [(0, .int (v)), (1, .int (nI n))] := hl
  have hbk := bk_le v 2147483647
  refine lv_iload_n hx hb dL_low_0 rfl (lv_at hl 0 rfl) ?_
  refine lv_ldc (v := (2147483647 : Int32)) hx hb hown (hts (.constant RL 7 (2147483647)) (by decide +kernel)) dL_low_1 ?_
  refine lv_iand hx hb dL_low_3 ?_
  refine ln_eq (x' := nI (bk v 2147483647)) (by rw [show (2147483647 : Int32) = nI 2147483647 from by decide +kernel]; exact bk_eq _ _) ?_
  refine lv_iload_n hx hb dL_low_4 rfl (lv_at hl 1 rfl) ?_
  refine ln_irem hx hb dL_low_5 (by omega) (by omega) (by omega) ?_
  exact ro_iret hx hb hr hlk dL_low_6 (congrArg nI (by rfl))
set_option maxHeartbeats 4000000 in
set_option maxRecDepth 100000 in
theorem l_digits (l : Launch) (D : va_G) (tc : Nat → ClassId) (zb : Nat) (v : Int32)  : RO l yL_digits wsL_digits 0 0 D tc zb [] [.int (v)] (.int (nI (k_dgs v))) := by
  refine RO.of (cc := cL_digits) (maxL := 1) (ret := (some .int)) (by decide) rfl (Nat.le_of_ble_eq_true rfl) ?_
  intro p e s m args below meth c hx hb hr hml hlk hts hown hM hS hP ls hl
  have hl : lv_has ls 1 [(0, .int (v))] := hl
  refine lv_bipush (v := (nI 100)) hx hb dL_digits_0 (by decide) ?_
  refine lv_iload_n hx hb dL_digits_2 rfl (lv_at hl 0 rfl) ?_
  refine lv_iconst (v := (nI 3)) hx hb dL_digits_3 (by decide) ?_
  refine lv_iand hx hb dL_digits_4 ?_
  refine ln_eq (x' := nI (bk v 3)) (bk_eq _ _) ?_
  refine ln_imul hx hb dL_digits_5 ?_
  refine lv_bipush (v := (nI 10)) hx hb dL_digits_6 (by decide) ?_
  refine lv_iload_n hx hb dL_digits_8 rfl (lv_at hl 0 rfl) ?_
  refine lv_iconst (v := (nI 2)) hx hb dL_digits_9 (by decide) ?_
  refine lv_ishr hx hb dL_digits_10 ?_
  refine lv_iconst (v := (nI 3)) hx hb dL_digits_11 (by decide) ?_
  refine lv_iand hx hb dL_digits_12 ?_
  refine ln_eq (x' := nI (bk (v >>> (nI 2 &&& 31)) 3)) (bk_eq _ _) ?_
  refine ln_imul hx hb dL_digits_13 ?_
  refine ln_iadd hx hb dL_digits_14 ?_
  refine lv_iload_n hx hb dL_digits_15 rfl (lv_at hl 0 rfl) ?_
  refine lv_iconst (v := (nI 4)) hx hb dL_digits_16 (by decide) ?_
  refine lv_ishr hx hb dL_digits_17 ?_
  refine lv_iconst (v := (nI 3)) hx hb dL_digits_18 (by decide) ?_
  refine lv_iand hx hb dL_digits_19 ?_
  refine ln_eq (x' := nI (bk (v >>> (nI 4 &&& 31)) 3)) (bk_eq _ _) ?_
  refine ln_iadd hx hb dL_digits_20 ?_
  exact ro_iret hx hb hr hlk dL_digits_21 (congrArg nI (by rfl))
set_option maxHeartbeats 4000000 in
set_option maxRecDepth 100000 in
theorem l_question (l : Launch) (D : va_G) (tc : Nat → ClassId) (zb : Nat) (v : Int32)  : RO l yL_question wsL_question 0 0 D tc zb [] [.int (v)] (.int (nI (k_qn v))) := by
  refine RO.of (cc := cL_question) (maxL := 4) (ret := (some .int)) (by decide) rfl (Nat.le_of_ble_eq_true rfl) ?_
  intro p e s m args below meth c hx hb hr hml hlk hts hown hM hS hP ls hl
  have hl : lv_has ls 4 [(0, .int (v))] := hl
  have hb1 := bk_le (v >>> (nI 6 &&& 31)) 1
  have hb2 := bk_le (v >>> (nI 7 &&& 31)) 1
  have hb3 := bk_le (v >>> (nI 8 &&& 31)) 1
  refine lv_iload_n hx hb dL_question_0 rfl (lv_at hl 0 rfl) ?_
  refine lv_bipush (v := (nI 6)) hx hb dL_question_1 (by decide) ?_
  refine lv_ishr hx hb dL_question_3 ?_
  refine lv_iconst (v := (nI 1)) hx hb dL_question_4 (by decide) ?_
  refine lv_iand hx hb dL_question_5 ?_
  refine ln_eq (x' := nI (bk (v >>> (nI 6 &&& 31)) 1)) (bk_eq _ _) ?_
  refine ln_if_ne (tgt := 14) hx hb dL_question_6 (by decide) (by omega) (fun h1 => ?_) (fun h1 => ?_)
  · refine lv_iload_n hx hb dL_question_14 rfl (lv_at hl 0 rfl) ?_
    refine lv_iconst (v := (nI 3)) hx hb dL_question_15 (by decide) ?_
    refine lv_iand hx hb dL_question_16 ?_
    refine ln_eq (x' := nI (bk v 3)) (bk_eq _ _) ?_
    refine lv_istore_n (lv' := [(1, .int (nI (bk v 3))), (0, .int (v))]) hx hb dL_question_17 rfl hl (by decide) rfl (fun ls hl => ?_)
    refine lv_iload_n hx hb dL_question_18 rfl (lv_at hl 1 rfl) ?_
    refine lv_bipush (v := (nI 7)) hx hb dL_question_19 (by decide) ?_
    refine lv_ishr hx hb dL_question_21 ?_
    refine lv_iconst (v := (nI 1)) hx hb dL_question_22 (by decide) ?_
    refine lv_iand hx hb dL_question_23 ?_
    refine ln_eq (x' := nI (bk (v >>> (nI 7 &&& 31)) 1)) (bk_eq _ _) ?_
    refine ln_if_ne (tgt := 32) hx hb dL_question_24 (by decide) (by omega) (fun h2 => ?_) (fun h2 => ?_)
    · refine lv_iload_n hx hb dL_question_32 rfl (lv_at hl 1 rfl) ?_
      refine lv_iconst (v := (nI 2)) hx hb dL_question_33 (by decide) ?_
      refine lv_ishr hx hb dL_question_34 ?_
      refine lv_iconst (v := (nI 3)) hx hb dL_question_35 (by decide) ?_
      refine lv_iand hx hb dL_question_36 ?_
      refine ln_eq (x' := nI (bk (v >>> (nI 2 &&& 31)) 3)) (bk_eq _ _) ?_
      refine lv_istore_n (lv' := [(2, .int (nI (bk (v >>> (nI 2 &&& 31)) 3))), (1, .int (nI (bk v 3))), (0, .int (v))]) hx hb dL_question_37 rfl hl (by decide) rfl (fun ls hl => ?_)
      refine lv_iload_n hx hb dL_question_38 rfl (lv_at hl 2 rfl) ?_
      refine lv_bipush (v := (nI 8)) hx hb dL_question_39 (by decide) ?_
      refine lv_ishr hx hb dL_question_41 ?_
      refine lv_iconst (v := (nI 1)) hx hb dL_question_42 (by decide) ?_
      refine lv_iand hx hb dL_question_43 ?_
      refine ln_eq (x' := nI (bk (v >>> (nI 8 &&& 31)) 1)) (bk_eq _ _) ?_
      refine ln_if_ne (tgt := 52) hx hb dL_question_44 (by decide) (by omega) (fun h3 => ?_) (fun h3 => ?_)
      · refine lv_iload_n hx hb dL_question_52 rfl (lv_at hl 2 rfl) ?_
        refine lv_iconst (v := (nI 4)) hx hb dL_question_53 (by decide) ?_
        refine lv_ishr hx hb dL_question_54 ?_
        refine lv_iconst (v := (nI 3)) hx hb dL_question_55 (by decide) ?_
        refine lv_iand hx hb dL_question_56 ?_
        refine ln_eq (x' := nI (bk (v >>> (nI 4 &&& 31)) 3)) (bk_eq _ _) ?_
        refine lv_istore_n (lv' := [(3, .int (nI (bk (v >>> (nI 4 &&& 31)) 3))), (2, .int (nI (bk (v >>> (nI 2 &&& 31)) 3))), (1, .int (nI (bk v 3))), (0, .int (v))]) hx hb dL_question_57 rfl hl (by decide) rfl (fun ls hl => ?_)
        refine lv_bipush (v := (nI 121)) hx hb dL_question_58 (by decide) ?_
        refine lv_iload_n hx hb dL_question_60 rfl (lv_at hl 2 rfl) ?_
        refine ln_imul hx hb dL_question_61 ?_
        refine lv_bipush (v := (nI 11)) hx hb dL_question_62 (by decide) ?_
        refine lv_iload_n hx hb dL_question_64 rfl (lv_at hl 1 rfl) ?_
        refine ln_imul hx hb dL_question_65 ?_
        refine ln_iadd hx hb dL_question_66 ?_
        refine lv_iload_n hx hb dL_question_67 rfl (lv_at hl 0 rfl) ?_
        refine ln_iadd hx hb dL_question_68 ?_
        exact ro_iret hx hb hr hlk dL_question_69 (congrArg nI (by unfold k_qn k_qa k_qb k_qc; (repeat' split) <;> omega))
      · refine lv_bipush (v := (nI 10)) hx hb dL_question_47 (by decide) ?_
        refine lv_goto (tgt := 57) hx hb dL_question_49 (by decide) ?_
        refine lv_istore_n (lv' := [(3, .int (nI 10)), (2, .int (nI (bk (v >>> (nI 2 &&& 31)) 3))), (1, .int (nI (bk v 3))), (0, .int (v))]) hx hb dL_question_57 rfl hl (by decide) rfl (fun ls hl => ?_)
        refine lv_bipush (v := (nI 121)) hx hb dL_question_58 (by decide) ?_
        refine lv_iload_n hx hb dL_question_60 rfl (lv_at hl 2 rfl) ?_
        refine ln_imul hx hb dL_question_61 ?_
        refine lv_bipush (v := (nI 11)) hx hb dL_question_62 (by decide) ?_
        refine lv_iload_n hx hb dL_question_64 rfl (lv_at hl 1 rfl) ?_
        refine ln_imul hx hb dL_question_65 ?_
        refine ln_iadd hx hb dL_question_66 ?_
        refine lv_iload_n hx hb dL_question_67 rfl (lv_at hl 0 rfl) ?_
        refine ln_iadd hx hb dL_question_68 ?_
        exact ro_iret hx hb hr hlk dL_question_69 (congrArg nI (by unfold k_qn k_qa k_qb k_qc; (repeat' split) <;> omega))
    · refine lv_bipush (v := (nI 10)) hx hb dL_question_27 (by decide) ?_
      refine lv_goto (tgt := 37) hx hb dL_question_29 (by decide) ?_
      refine lv_istore_n (lv' := [(2, .int (nI 10)), (1, .int (nI (bk v 3))), (0, .int (v))]) hx hb dL_question_37 rfl hl (by decide) rfl (fun ls hl => ?_)
      refine lv_iload_n hx hb dL_question_38 rfl (lv_at hl 2 rfl) ?_
      refine lv_bipush (v := (nI 8)) hx hb dL_question_39 (by decide) ?_
      refine lv_ishr hx hb dL_question_41 ?_
      refine lv_iconst (v := (nI 1)) hx hb dL_question_42 (by decide) ?_
      refine lv_iand hx hb dL_question_43 ?_
      refine ln_eq (x' := nI (bk (v >>> (nI 8 &&& 31)) 1)) (bk_eq _ _) ?_
      refine ln_if_ne (tgt := 52) hx hb dL_question_44 (by decide) (by omega) (fun h4 => ?_) (fun h4 => ?_)
      · refine lv_iload_n hx hb dL_question_52 rfl (lv_at hl 2 rfl) ?_
        refine lv_iconst (v := (nI 4)) hx hb dL_question_53 (by decide) ?_
        refine lv_ishr hx hb dL_question_54 ?_
        refine lv_iconst (v := (nI 3)) hx hb dL_question_55 (by decide) ?_
        refine lv_iand hx hb dL_question_56 ?_
        refine ln_eq (x' := nI (bk (v >>> (nI 4 &&& 31)) 3)) (bk_eq _ _) ?_
        refine lv_istore_n (lv' := [(3, .int (nI (bk (v >>> (nI 4 &&& 31)) 3))), (2, .int (nI 10)), (1, .int (nI (bk v 3))), (0, .int (v))]) hx hb dL_question_57 rfl hl (by decide) rfl (fun ls hl => ?_)
        refine lv_bipush (v := (nI 121)) hx hb dL_question_58 (by decide) ?_
        refine lv_iload_n hx hb dL_question_60 rfl (lv_at hl 2 rfl) ?_
        refine ln_imul hx hb dL_question_61 ?_
        refine lv_bipush (v := (nI 11)) hx hb dL_question_62 (by decide) ?_
        refine lv_iload_n hx hb dL_question_64 rfl (lv_at hl 1 rfl) ?_
        refine lv_imul hx hb dL_question_65 ?_
        refine ln_eq (x' := (nI 110)) (by decide) ?_
        refine ln_iadd hx hb dL_question_66 ?_
        refine lv_iload_n hx hb dL_question_67 rfl (lv_at hl 0 rfl) ?_
        refine ln_iadd hx hb dL_question_68 ?_
        exact ro_iret hx hb hr hlk dL_question_69 (congrArg nI (by unfold k_qn k_qa k_qb k_qc; (repeat' split) <;> omega))
      · refine lv_bipush (v := (nI 10)) hx hb dL_question_47 (by decide) ?_
        refine lv_goto (tgt := 57) hx hb dL_question_49 (by decide) ?_
        refine lv_istore_n (lv' := [(3, .int (nI 10)), (2, .int (nI 10)), (1, .int (nI (bk v 3))), (0, .int (v))]) hx hb dL_question_57 rfl hl (by decide) rfl (fun ls hl => ?_)
        refine lv_bipush (v := (nI 121)) hx hb dL_question_58 (by decide) ?_
        refine lv_iload_n hx hb dL_question_60 rfl (lv_at hl 2 rfl) ?_
        refine ln_imul hx hb dL_question_61 ?_
        refine lv_bipush (v := (nI 11)) hx hb dL_question_62 (by decide) ?_
        refine lv_iload_n hx hb dL_question_64 rfl (lv_at hl 1 rfl) ?_
        refine lv_imul hx hb dL_question_65 ?_
        refine ln_eq (x' := (nI 110)) (by decide) ?_
        refine ln_iadd hx hb dL_question_66 ?_
        refine lv_iload_n hx hb dL_question_67 rfl (lv_at hl 0 rfl) ?_
        refine ln_iadd hx hb dL_question_68 ?_
        exact ro_iret hx hb hr hlk dL_question_69 (congrArg nI (by unfold k_qn k_qa k_qb k_qc; (repeat' split) <;> omega))
  · refine lv_bipush (v := (nI 10)) hx hb dL_question_9 (by decide) ?_
    refine lv_goto (tgt := 17) hx hb dL_question_11 (by decide) ?_
    refine lv_istore_n (lv' := [(1, .int (nI 10)), (0, .int (v))]) hx hb dL_question_17 rfl hl (by decide) rfl (fun ls hl => ?_)
    refine lv_iload_n hx hb dL_question_18 rfl (lv_at hl 1 rfl) ?_
    refine lv_bipush (v := (nI 7)) hx hb dL_question_19 (by decide) ?_
    refine lv_ishr hx hb dL_question_21 ?_
    refine lv_iconst (v := (nI 1)) hx hb dL_question_22 (by decide) ?_
    refine lv_iand hx hb dL_question_23 ?_
    refine ln_eq (x' := nI (bk (v >>> (nI 7 &&& 31)) 1)) (bk_eq _ _) ?_
    refine ln_if_ne (tgt := 32) hx hb dL_question_24 (by decide) (by omega) (fun h5 => ?_) (fun h5 => ?_)
    · refine lv_iload_n hx hb dL_question_32 rfl (lv_at hl 1 rfl) ?_
      refine lv_iconst (v := (nI 2)) hx hb dL_question_33 (by decide) ?_
      refine lv_ishr hx hb dL_question_34 ?_
      refine lv_iconst (v := (nI 3)) hx hb dL_question_35 (by decide) ?_
      refine lv_iand hx hb dL_question_36 ?_
      refine ln_eq (x' := nI (bk (v >>> (nI 2 &&& 31)) 3)) (bk_eq _ _) ?_
      refine lv_istore_n (lv' := [(2, .int (nI (bk (v >>> (nI 2 &&& 31)) 3))), (1, .int (nI 10)), (0, .int (v))]) hx hb dL_question_37 rfl hl (by decide) rfl (fun ls hl => ?_)
      refine lv_iload_n hx hb dL_question_38 rfl (lv_at hl 2 rfl) ?_
      refine lv_bipush (v := (nI 8)) hx hb dL_question_39 (by decide) ?_
      refine lv_ishr hx hb dL_question_41 ?_
      refine lv_iconst (v := (nI 1)) hx hb dL_question_42 (by decide) ?_
      refine lv_iand hx hb dL_question_43 ?_
      refine ln_eq (x' := nI (bk (v >>> (nI 8 &&& 31)) 1)) (bk_eq _ _) ?_
      refine ln_if_ne (tgt := 52) hx hb dL_question_44 (by decide) (by omega) (fun h6 => ?_) (fun h6 => ?_)
      · refine lv_iload_n hx hb dL_question_52 rfl (lv_at hl 2 rfl) ?_
        refine lv_iconst (v := (nI 4)) hx hb dL_question_53 (by decide) ?_
        refine lv_ishr hx hb dL_question_54 ?_
        refine lv_iconst (v := (nI 3)) hx hb dL_question_55 (by decide) ?_
        refine lv_iand hx hb dL_question_56 ?_
        refine ln_eq (x' := nI (bk (v >>> (nI 4 &&& 31)) 3)) (bk_eq _ _) ?_
        refine lv_istore_n (lv' := [(3, .int (nI (bk (v >>> (nI 4 &&& 31)) 3))), (2, .int (nI (bk (v >>> (nI 2 &&& 31)) 3))), (1, .int (nI 10)), (0, .int (v))]) hx hb dL_question_57 rfl hl (by decide) rfl (fun ls hl => ?_)
        refine lv_bipush (v := (nI 121)) hx hb dL_question_58 (by decide) ?_
        refine lv_iload_n hx hb dL_question_60 rfl (lv_at hl 2 rfl) ?_
        refine lv_imul hx hb dL_question_61 ?_
        refine ln_eq (x' := (nI 1210)) (by decide) ?_
        refine lv_bipush (v := (nI 11)) hx hb dL_question_62 (by decide) ?_
        refine lv_iload_n hx hb dL_question_64 rfl (lv_at hl 1 rfl) ?_
        refine ln_imul hx hb dL_question_65 ?_
        refine ln_iadd hx hb dL_question_66 ?_
        refine lv_iload_n hx hb dL_question_67 rfl (lv_at hl 0 rfl) ?_
        refine ln_iadd hx hb dL_question_68 ?_
        exact ro_iret hx hb hr hlk dL_question_69 (congrArg nI (by unfold k_qn k_qa k_qb k_qc; (repeat' split) <;> omega))
      · refine lv_bipush (v := (nI 10)) hx hb dL_question_47 (by decide) ?_
        refine lv_goto (tgt := 57) hx hb dL_question_49 (by decide) ?_
        refine lv_istore_n (lv' := [(3, .int (nI 10)), (2, .int (nI (bk (v >>> (nI 2 &&& 31)) 3))), (1, .int (nI 10)), (0, .int (v))]) hx hb dL_question_57 rfl hl (by decide) rfl (fun ls hl => ?_)
        refine lv_bipush (v := (nI 121)) hx hb dL_question_58 (by decide) ?_
        refine lv_iload_n hx hb dL_question_60 rfl (lv_at hl 2 rfl) ?_
        refine lv_imul hx hb dL_question_61 ?_
        refine ln_eq (x' := (nI 1210)) (by decide) ?_
        refine lv_bipush (v := (nI 11)) hx hb dL_question_62 (by decide) ?_
        refine lv_iload_n hx hb dL_question_64 rfl (lv_at hl 1 rfl) ?_
        refine ln_imul hx hb dL_question_65 ?_
        refine ln_iadd hx hb dL_question_66 ?_
        refine lv_iload_n hx hb dL_question_67 rfl (lv_at hl 0 rfl) ?_
        refine ln_iadd hx hb dL_question_68 ?_
        exact ro_iret hx hb hr hlk dL_question_69 (congrArg nI (by unfold k_qn k_qa k_qb k_qc; (repeat' split) <;> omega))
    · refine lv_bipush (v := (nI 10)) hx hb dL_question_27 (by decide) ?_
      refine lv_goto (tgt := 37) hx hb dL_question_29 (by decide) ?_
      refine lv_istore_n (lv' := [(2, .int (nI 10)), (1, .int (nI 10)), (0, .int (v))]) hx hb dL_question_37 rfl hl (by decide) rfl (fun ls hl => ?_)
      refine lv_iload_n hx hb dL_question_38 rfl (lv_at hl 2 rfl) ?_
      refine lv_bipush (v := (nI 8)) hx hb dL_question_39 (by decide) ?_
      refine lv_ishr hx hb dL_question_41 ?_
      refine lv_iconst (v := (nI 1)) hx hb dL_question_42 (by decide) ?_
      refine lv_iand hx hb dL_question_43 ?_
      refine ln_eq (x' := nI (bk (v >>> (nI 8 &&& 31)) 1)) (bk_eq _ _) ?_
      refine ln_if_ne (tgt := 52) hx hb dL_question_44 (by decide) (by omega) (fun h7 => ?_) (fun h7 => ?_)
      · refine lv_iload_n hx hb dL_question_52 rfl (lv_at hl 2 rfl) ?_
        refine lv_iconst (v := (nI 4)) hx hb dL_question_53 (by decide) ?_
        refine lv_ishr hx hb dL_question_54 ?_
        refine lv_iconst (v := (nI 3)) hx hb dL_question_55 (by decide) ?_
        refine lv_iand hx hb dL_question_56 ?_
        refine ln_eq (x' := nI (bk (v >>> (nI 4 &&& 31)) 3)) (bk_eq _ _) ?_
        refine lv_istore_n (lv' := [(3, .int (nI (bk (v >>> (nI 4 &&& 31)) 3))), (2, .int (nI 10)), (1, .int (nI 10)), (0, .int (v))]) hx hb dL_question_57 rfl hl (by decide) rfl (fun ls hl => ?_)
        refine lv_bipush (v := (nI 121)) hx hb dL_question_58 (by decide) ?_
        refine lv_iload_n hx hb dL_question_60 rfl (lv_at hl 2 rfl) ?_
        refine lv_imul hx hb dL_question_61 ?_
        refine ln_eq (x' := (nI 1210)) (by decide) ?_
        refine lv_bipush (v := (nI 11)) hx hb dL_question_62 (by decide) ?_
        refine lv_iload_n hx hb dL_question_64 rfl (lv_at hl 1 rfl) ?_
        refine lv_imul hx hb dL_question_65 ?_
        refine ln_eq (x' := (nI 110)) (by decide) ?_
        refine lv_iadd hx hb dL_question_66 ?_
        refine ln_eq (x' := (nI 1320)) (by decide) ?_
        refine lv_iload_n hx hb dL_question_67 rfl (lv_at hl 0 rfl) ?_
        refine ln_iadd hx hb dL_question_68 ?_
        exact ro_iret hx hb hr hlk dL_question_69 (congrArg nI (by unfold k_qn k_qa k_qb k_qc; (repeat' split) <;> omega))
      · refine lv_bipush (v := (nI 10)) hx hb dL_question_47 (by decide) ?_
        refine lv_goto (tgt := 57) hx hb dL_question_49 (by decide) ?_
        refine lv_istore_n (lv' := [(3, .int (nI 10)), (2, .int (nI 10)), (1, .int (nI 10)), (0, .int (v))]) hx hb dL_question_57 rfl hl (by decide) rfl (fun ls hl => ?_)
        refine lv_bipush (v := (nI 121)) hx hb dL_question_58 (by decide) ?_
        refine lv_iload_n hx hb dL_question_60 rfl (lv_at hl 2 rfl) ?_
        refine lv_imul hx hb dL_question_61 ?_
        refine ln_eq (x' := (nI 1210)) (by decide) ?_
        refine lv_bipush (v := (nI 11)) hx hb dL_question_62 (by decide) ?_
        refine lv_iload_n hx hb dL_question_64 rfl (lv_at hl 1 rfl) ?_
        refine lv_imul hx hb dL_question_65 ?_
        refine ln_eq (x' := (nI 110)) (by decide) ?_
        refine lv_iadd hx hb dL_question_66 ?_
        refine ln_eq (x' := (nI 1320)) (by decide) ?_
        refine lv_iload_n hx hb dL_question_67 rfl (lv_at hl 0 rfl) ?_
        refine lv_iadd hx hb dL_question_68 ?_
        refine ln_eq (x' := (nI 1330)) (by decide) ?_
        exact ro_iret hx hb hr hlk dL_question_69 (congrArg nI (by unfold k_qn k_qa k_qb k_qc; (repeat' split) <;> omega))
set_option maxHeartbeats 4000000 in
set_option maxRecDepth 100000 in
theorem l_bits (l : Launch) (D : va_G) (tc : Nat → ClassId) (zb : Nat) (x : Nat) (hx9 : x < 64) : RO l yL_bits wsL_bits 0 0 D tc zb [] [.int (nI x)] (.int (nI (k_pc x))) := by
  refine RO.of (cc := cL_bits) (maxL := 3) (ret := (some .int)) (by decide) rfl (Nat.le_of_ble_eq_true rfl) ?_
  intro p e s m args below meth c hx hb hr hml hlk hts hown hM hS hP ls hl
  have hl : lv_has ls 3 [(0, .int (nI x))] := hl
  refine lv_iconst (v := (nI 0)) hx hb dL_bits_0 (by decide) ?_
  refine lv_istore_n (lv' := [(1, .int (nI 0)), (0, .int (nI x))]) hx hb dL_bits_1 rfl hl (by decide) rfl (fun ls hl => ?_)
  refine lv_iconst (v := (nI 0)) hx hb dL_bits_2 (by decide) ?_
  refine lv_istore_n (lv' := [(2, .int (nI 0)), (1, .int (nI 0)), (0, .int (nI x))]) hx hb dL_bits_3 rfl hl (by decide) rfl (fun ls hl => ?_)
  have lp4 : ∀ (n9 : Nat) (nn : Nat) (q : Nat), (6 - q) < n9 → (q ≤ 6) → (nn = k_pcn x q) → ∀ ls : Array Slot, lv_has ls 3 [(2, .int (nI q)), (1, .int (nI nn)), (0, .int (nI x))] → W p l e ({ frames := 0, cells := 0, slots := 0, locals := 0 } : Room) s m args below meth c s.heap [] 0 0 (MQ below (roQ (.int (nI (k_pc x)))) args s 0 0 (fun _ => False)) (F0 m 4 ls []) := by
    intro n9
    induction n9 with
    | zero => intro nn q hmu; exact absurd hmu (Nat.not_lt_zero _)
    | succ n9 ih4 =>
      intro nn q hmu hq hn ls hl
      have hle := k_pcn_le x q
      refine lv_iload_n hx hb dL_bits_4 rfl (lv_at hl 0 rfl) ?_
      refine lv_bipush (v := (nI 6)) hx hb dL_bits_5 (by decide) ?_
      refine ln_icmp_ge (tgt := 24) hx hb dL_bits_7 (by decide) (by omega) (by decide) (fun h1 => ?_) (fun h1 => ?_)
      · refine lv_iload_n hx hb dL_bits_24 rfl (lv_at hl 1 rfl) ?_
        exact ro_iret hx hb hr hlk dL_bits_25 (congrArg nI (by (have e : q = 6 := by omega); rw [hn, e]; exact k_pcn6 x))
      · refine lv_iload_n hx hb dL_bits_10 rfl (lv_at hl 1 rfl) ?_
        refine lv_iload_n hx hb dL_bits_11 rfl (lv_at hl 2 rfl) ?_
        refine lv_iload_n hx hb dL_bits_12 rfl (lv_at hl 0 rfl) ?_
        refine ln_ishr hx hb dL_bits_13 (by omega) (by omega) ?_
        refine lv_iconst (v := (nI 1)) hx hb dL_bits_14 (by decide) ?_
        refine ln_iand1 hx hb dL_bits_15 (Nat.lt_of_le_of_lt (Nat.div_le_self _ _) (by omega)) ?_
        refine ln_iadd hx hb dL_bits_16 ?_
        refine lv_istore_n (lv' := [(1, .int (nI (nn + ((x / 2 ^ q) % 2)))), (2, .int (nI q)), (0, .int (nI x))]) hx hb dL_bits_17 rfl hl (by decide) rfl (fun ls hl => ?_)
        refine lv_iinc (v := (nI (q + 1))) (lv' := [(2, .int (nI (q + 1))), (1, .int (nI (nn + ((x / 2 ^ q) % 2)))), (0, .int (nI x))]) hx hb dL_bits_18 hl (k := 1) rfl (nI_add q 1) (by decide) rfl (fun ls hl => ?_)
        refine lv_goto (tgt := 4) hx hb dL_bits_21 (by decide) ?_
        exact ih4 (nn + ((x / 2 ^ q) % 2)) (q + 1) (by omega) (by omega) (by rw [k_pcn, ← hn]) _ (lv_sub hl [0, 1, 2] rfl)
  exact lp4 _ 0 0 (Nat.lt_succ_self _) (by omega) (by rfl) _ (lv_sub hl [0, 1, 2] rfl)
