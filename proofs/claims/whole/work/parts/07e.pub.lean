set_option maxHeartbeats 4000000 in
set_option maxRecDepth 100000 in
theorem c6_errorPosition_1 (l : Launch) (D : va_G) (tc : Nat → ClassId) (zb : Nat) (x0 : Nat) (o : Nat → Value) (t0 t1 : Nat) (u : Nat → Nat) (ln : Nat) (hln : ln ≤ 100) (hu : ∀ k, u k < 256) : RO l yX6_errorPosition wsX6_errorPosition 4 85 D tc zb [(x0, .inr (5, [.ref t0, o 1, o 2, o 3, o 4, o 5, o 6])), (t0, .inr (4, [.ref t1, .int (nI ln)])), (t1, .inl (tc 1, 100, .inl ((fun k => nI (u k)))))] [.ref x0, .int (nI 1)] (.int (oI (k_fq u ln))) := by
  refine RO.of (cc := cX6_errorPosition) (maxL := 2) (ret := (some .int)) (by decide) rfl (Nat.le_of_ble_eq_true rfl) ?_
  intro p e s m args below meth c hx hb hr hml hlk hts hown hM hS hP ls hl
  have hl : lv_has ls 2 [(0, .ref x0), (1, .int (nI 1))] := hl
  have hinX6 : ∀ w ∈ u_ws RX6 TX6 7, w ∈ wsX6_errorPosition := by decide +kernel
  refine lv_iload_n hx hb dX6_errorPosition_0 rfl (lv_at hl 1 rfl) ?_
  refine lv_if_eq (tgt := 14) hx hb dX6_errorPosition_1 (by decide) (fun h9 => False.elim (by revert h9; decide)) (fun _ => ?_)
  refine lv_aload_n hx hb dX6_errorPosition_4 rfl (lv_at hl 0 rfl) ?_
  refine va_get (D := D) (ci := 5) (v := .ref t0) (C := RX6) (T := TX6) (N := 7) hx hb hts hinX6 hown hM.1 hP 0 rfl rfl 0 (by decide) (hts (.fieldLink RX6 10 "TripleWays" "text" "LTripleWays$Text;") (by decide +kernel)) (fun _ h9 => h9) rfl dX6_errorPosition_5 ?_
  refine ro_V (C := RX5) (n := 0) ⟨hx, hb, hml, hown, hts⟩ hM hS hP (c5_questionError l D tc zb t0 t1 u ln (by first | assumption | omega) (by assumption)) gX6_errorPosition_X5_questionError rfl (by decide +kernel) ⟨Nat.le_of_ble_eq_true rfl, Nat.le_of_ble_eq_true rfl⟩ [1, 2] rfl (va_recv hM.1 hP (ci := 4) (q0 := 1) rfl rfl) rfl hl.1 rfl (Nat.le_of_ble_eq_true rfl) dX6_errorPosition_8 ⟨Nat.le_refl _, Nat.le_refl _⟩ ?_
  refine lv_goto (tgt := 21) hx hb dX6_errorPosition_11 (by decide) ?_
  exact ro_iret hx hb hr hlk dX6_errorPosition_21 (rfl)
set_option maxHeartbeats 4000000 in
set_option maxRecDepth 100000 in
theorem c6_errorPosition_0 (l : Launch) (D : va_G) (tc : Nat → ClassId) (zb : Nat) (x0 : Nat) (o : Nat → Value) (t0 t1 : Nat) (u : Nat → Nat) (ln : Nat) (hln : ln ≤ 100) (hu : ∀ k, u k < 256) : RO l yX6_errorPosition wsX6_errorPosition 3 65 D tc zb [(x0, .inr (5, [.ref t0, o 1, o 2, o 3, o 4, o 5, o 6])), (t0, .inr (4, [.ref t1, .int (nI ln)])), (t1, .inl (tc 1, 100, .inl ((fun k => nI (u k)))))] [.ref x0, .int (nI 0)] (.int (oI (k_ft u ln))) := by
  refine RO.of (cc := cX6_errorPosition) (maxL := 2) (ret := (some .int)) (by decide) rfl (Nat.le_of_ble_eq_true rfl) ?_
  intro p e s m args below meth c hx hb hr hml hlk hts hown hM hS hP ls hl
  have hl : lv_has ls 2 [(0, .ref x0), (1, .int (nI 0))] := hl
  have hinX6 : ∀ w ∈ u_ws RX6 TX6 7, w ∈ wsX6_errorPosition := by decide +kernel
  refine lv_iload_n hx hb dX6_errorPosition_0 rfl (lv_at hl 1 rfl) ?_
  refine lv_if_eq (tgt := 14) hx hb dX6_errorPosition_1 (by decide) (fun _ => ?_) (fun h9 => False.elim (by revert h9; decide))
  refine lv_aload_n hx hb dX6_errorPosition_14 rfl (lv_at hl 0 rfl) ?_
  refine va_get (D := D) (ci := 5) (v := .ref t0) (C := RX6) (T := TX6) (N := 7) hx hb hts hinX6 hown hM.1 hP 0 rfl rfl 0 (by decide) (hts (.fieldLink RX6 10 "TripleWays" "text" "LTripleWays$Text;") (by decide +kernel)) (fun _ h9 => h9) rfl dX6_errorPosition_15 ?_
  refine ro_V (C := RX5) (n := 0) ⟨hx, hb, hml, hown, hts⟩ hM hS hP (c5_triplesError l D tc zb t0 t1 u ln (by first | assumption | omega) (by assumption)) gX6_errorPosition_X5_triplesError rfl (by decide +kernel) ⟨Nat.le_of_ble_eq_true rfl, Nat.le_of_ble_eq_true rfl⟩ [1, 2] rfl (va_recv hM.1 hP (ci := 4) (q0 := 1) rfl rfl) rfl hl.1 rfl (Nat.le_of_ble_eq_true rfl) dX6_errorPosition_18 ⟨Nat.le_refl _, Nat.le_refl _⟩ ?_
  exact ro_iret hx hb hr hlk dX6_errorPosition_21 (rfl)
set_option maxHeartbeats 4000000 in
set_option maxRecDepth 100000 in
theorem c6_question_ok (l : Launch) (D : va_G) (tc : Nat → ClassId) (zb : Nat) (x0 : Nat) (o : Nat → Value) (t0 t1 : Nat) (u : Nat → Nat) (ln : Nat) (hln : ln ≤ 100) (hu : ∀ k, u k < 256) (hf : k_fq u ln = none) : RO l yX6_question wsX6_question 4 85 D tc zb [(x0, .inr (5, [.ref t0, o 1, o 2, o 3, o 4, o 5, o 6])), (t0, .inr (4, [.ref t1, .int (nI ln)])), (t1, .inl (tc 1, 100, .inl ((fun k => nI (u k)))))] [.ref x0] (.int (nI (k_tq u))) := by
  refine RO.of (cc := cX6_question) (maxL := 1) (ret := (some .int)) (by decide) rfl (Nat.le_of_ble_eq_true rfl) ?_
  intro p e s m args below meth c hx hb hr hml hlk hts hown hM hS hP ls hl
  have hl : lv_has ls 1 [(0, .ref x0)] := hl
  have hinX6 : ∀ w ∈ u_ws RX6 TX6 7, w ∈ wsX6_question := by decide +kernel
  refine lv_aload_n hx hb dX6_question_0 rfl (lv_at hl 0 rfl) ?_
  refine va_get (D := D) (ci := 5) (v := .ref t0) (C := RX6) (T := TX6) (N := 7) hx hb hts hinX6 hown hM.1 hP 0 rfl rfl 0 (by decide) (hts (.fieldLink RX6 10 "TripleWays" "text" "LTripleWays$Text;") (by decide +kernel)) (fun _ h9 => h9) rfl dX6_question_1 ?_
  refine ro_V (C := RX5) (n := 0) ⟨hx, hb, hml, hown, hts⟩ hM hS hP (c5_questionError l D tc zb t0 t1 u ln (by first | assumption | omega) (by assumption)) gX6_question_X5_questionError rfl (by decide +kernel) ⟨Nat.le_of_ble_eq_true rfl, Nat.le_of_ble_eq_true rfl⟩ [1, 2] rfl (va_recv hM.1 hP (ci := 4) (q0 := 1) rfl rfl) rfl hl.1 rfl (Nat.le_of_ble_eq_true rfl) dX6_question_4 ⟨Nat.le_refl _, Nat.le_refl _⟩ ?_
  refine ln_eq (x' := (-1)) (congrArg oI hf) ?_
  refine lv_iconst (v := (-1)) hx hb dX6_question_7 (by decide) ?_
  refine lv_icmp_eq (tgt := 21) hx hb dX6_question_8 (by decide) (fun _ => ?_) (fun h9 => False.elim (by revert h9; decide))
  refine lv_aload_n hx hb dX6_question_21 rfl (lv_at hl 0 rfl) ?_
  refine va_get (D := D) (ci := 5) (v := .ref t0) (C := RX6) (T := TX6) (N := 7) hx hb hts hinX6 hown hM.1 hP 0 rfl rfl 0 (by decide) (hts (.fieldLink RX6 10 "TripleWays" "text" "LTripleWays$Text;") (by decide +kernel)) (fun _ h9 => h9) rfl dX6_question_22 ?_
  refine ro_V (C := RX5) (n := 0) ⟨hx, hb, hml, hown, hts⟩ hM hS hP (c5_asQuestion l D tc zb t0 t1 u ln (by first | assumption | omega) (by assumption) (by assumption)) gX6_question_X5_asQuestion rfl (by decide +kernel) ⟨Nat.le_of_ble_eq_true rfl, Nat.le_of_ble_eq_true rfl⟩ [1, 2] rfl (va_recv hM.1 hP (ci := 4) (q0 := 1) rfl rfl) rfl hl.1 rfl (Nat.le_of_ble_eq_true rfl) dX6_question_25 ⟨Nat.le_refl _, Nat.le_refl _⟩ ?_
  exact ro_iret hx hb hr hlk dX6_question_28 (rfl)
set_option maxHeartbeats 4000000 in
set_option maxRecDepth 100000 in
theorem c6_question_b1 (l : Launch) (hfl : l.stackTraces = false) (D : va_G) (tc : Nat → ClassId) (zb : Nat) (x0 : Nat) (o : Nat → Value) (t0 t1 : Nat) (u : Nat → Nat) (ln : Nat) (r : Nat) (hln : ln ≤ 100) (hu : ∀ k, u k < 256) (hf : k_fq u ln = some r) (hr : r < 2 ^ 31) : TH l yX6_question wsX6_question 6 85 D tc zb [(x0, .inr (5, [.ref t0, o 1, o 2, o 3, o 4, o 5, o 6])), (t0, .inr (4, [.ref t1, .int (nI ln)])), (t1, .inl (tc 1, 100, .inl ((fun k => nI (u k)))))] [.ref x0] "java/lang/IllegalStateException" := by
  refine TH.of (cc := cX6_question) (maxL := 1) (ret := (some .int)) (by decide) rfl (Nat.le_of_ble_eq_true rfl) ?_
  intro p e s m args below meth c hx hb hr hml hlk hts hown hex hM hS hP ls hl
  have hl : lv_has ls 1 [(0, .ref x0)] := hl
  have hinX6 : ∀ w ∈ u_ws RX6 TX6 7, w ∈ wsX6_question := by decide +kernel
  have hF65 : ∀ w ∈ (vx_atS RX6 65 "java/lang/IllegalStateException" ["java/lang/RuntimeException", "java/lang/Exception"]).filter goodWord, w ∈ wsX6_question := by intro w hw; unfold wsX6_question; with_reducible (first | exact List.mem_cons_of_mem _ (List.mem_append_right _ hw) | exact List.mem_cons_of_mem _ (List.mem_append_left _ (List.mem_append_right _ hw)) | exact List.mem_cons_of_mem _ (List.mem_append_left _ (List.mem_append_left _ (List.mem_append_right _ hw))))
  refine lv_aload_n hx hb dX6_question_0 rfl (lv_at hl 0 rfl) ?_
  refine va_get (D := D) (ci := 5) (v := .ref t0) (C := RX6) (T := TX6) (N := 7) hx hb hts hinX6 hown hM.1 hP 0 rfl rfl 0 (by decide) (hts (.fieldLink RX6 10 "TripleWays" "text" "LTripleWays$Text;") (by decide +kernel)) (fun _ h9 => h9) rfl dX6_question_1 ?_
  refine ro_V (C := RX5) (n := 0) ⟨hx, hb, hml, hown, hts⟩ hM hS hP (c5_questionError l D tc zb t0 t1 u ln (by first | assumption | omega) (by assumption)) gX6_question_X5_questionError rfl (by decide +kernel) ⟨Nat.le_of_ble_eq_true rfl, Nat.le_of_ble_eq_true rfl⟩ [1, 2] rfl (va_recv hM.1 hP (ci := 4) (q0 := 1) rfl rfl) rfl hl.1 rfl (Nat.le_of_ble_eq_true rfl) dX6_question_4 ⟨Nat.zero_le _, Nat.zero_le _⟩ ?_
  refine ln_eq (x' := (nI r)) (congrArg oI hf) ?_
  refine lv_iconst (v := (-1)) hx hb dX6_question_7 (by decide) ?_
  refine ln_eq_m1 (tgt := 21) hx hb dX6_question_8 (by decide) (by omega) ?_
  exact th_throw (own := RX6) (cls := "java/lang/IllegalStateException") (text := "the text is not a question") (ik := 61) (is := 80) (ic := 65) (names := ["java/lang/RuntimeException", "java/lang/Exception"]) hx hb hfl hown hex hlk hM (by decide +kernel) (by decide +kernel) (hts _ (by decide +kernel)) (hts _ (by decide +kernel)) (by decide +kernel) (th_hat hM (fun w hw => hts w (hF65 w hw)) th_n65 (by decide +kernel)) th_g65 (hl.1.trans hml.symm) dX6_question_11 dX6_question_14 dX6_question_15 dX6_question_17 dX6_question_20 (by decide) (by decide) (by decide) (by decide)
set_option maxHeartbeats 4000000 in
set_option maxRecDepth 100000 in
theorem c6_about_ok (l : Launch) (D : va_G) (tc : Nat → ClassId) (zb : Nat) (x0 : Nat) (o : Nat → Value) (a a1 a2 : Nat) (tr qs : Nat → Int32) (g : Nat → Nat) (x : Nat) (hk : k_ok g) (hR : k_R tr qs g) (hx9 : x ≤ 7) : RO l yX6_about wsX6_about 1 21 D tc zb [(x0, .inr (5, [o 0, .ref a, o 2, o 3, o 4, o 5, o 6])), (a, .inr (3, [.ref a1, .int (nI (g 0)), .int (nI (g 41)), .int (nI (g 42)), .int (nI (g 43)), .int (nI (g 44)), .int (nI (g 45)), .ref a2, .int (nI (g 46)), .int (nI (g 59))])), (a1, .inl (tc 0, 40, .inl tr)), (a2, .inl (tc 0, 12, .inl qs))] [.ref x0, .int (nI x)] (.int (nI (k_abt g x))) := by
  refine RO.of (cc := cX6_about) (maxL := 2) (ret := (some .int)) (by decide) rfl (Nat.le_of_ble_eq_true rfl) ?_
  intro p e s m args below meth c hx hb hr hml hlk hts hown hM hS hP ls hl
  have hl : lv_has ls 2 [(0, .ref x0), (1, .int (nI x))] := hl
  have hinX4 : ∀ w ∈ u_ws RX4 TX4 10, w ∈ wsX6_about := by decide +kernel
  have hinX6 : ∀ w ∈ u_ws RX6 TX6 7, w ∈ wsX6_about := by decide +kernel
  obtain ⟨ok0, ok1, ok2, ok3, ok4, ok5, ok6⟩ := id hk
  refine lv_iload_n hx hb dX6_about_0 rfl (lv_at hl 1 rfl) ?_
  rcases (show x = 0 ∨ x = 1 ∨ x = 2 ∨ x = 3 ∨ x = 4 ∨ x = 5 ∨ x = 6 ∨ x = 7 by omega) with hsw | hsw | hsw | hsw | hsw | hsw | hsw | hsw
  · refine ln_eq (x' := nI 0) (congrArg nI hsw) ?_
    refine lv_tableIn (off := 47) (tgt := 48) hx hb dX6_about_1 (by decide) (by decide) (by decide) (by decide) ?_
    refine lv_aload_n hx hb dX6_about_48 rfl (lv_at hl 0 rfl) ?_
    refine va_get (D := D) (ci := 5) (v := .ref a) (C := RX6) (T := TX6) (N := 7) hx hb hts hinX6 hown hM.1 hP 0 rfl rfl 1 (by decide) (hts (.fieldLink RX6 19 "TripleWays" "now" "LTripleWays$State;") (by decide +kernel)) (fun _ h9 => h9) rfl dX6_about_49 ?_
    refine va_getN (D := D) (ci := 3) (v := .int (nI (g 0))) (C := RX4) (T := TX4) (N := 10) hx hb hts hinX4 hown hM.1 hP 1 rfl rfl 1 (by decide) (va_Nw.use rfl (hM.2.2.2.2.2.1 ("TripleWays", 85, "TripleWays$State", "size", "I") (by decide +kernel))) (fun _ h9 => h9) rfl dX6_about_52 ?_
    exact ro_iret hx hb hr hlk dX6_about_55 (congrArg nI (by rw [hsw]; rfl))
  · refine ln_eq (x' := nI 1) (congrArg nI hsw) ?_
    refine lv_tableIn (off := 55) (tgt := 56) hx hb dX6_about_1 (by decide) (by decide) (by decide) (by decide) ?_
    refine lv_aload_n hx hb dX6_about_56 rfl (lv_at hl 0 rfl) ?_
    refine va_get (D := D) (ci := 5) (v := .ref a) (C := RX6) (T := TX6) (N := 7) hx hb hts hinX6 hown hM.1 hP 0 rfl rfl 1 (by decide) (hts (.fieldLink RX6 19 "TripleWays" "now" "LTripleWays$State;") (by decide +kernel)) (fun _ h9 => h9) rfl dX6_about_57 ?_
    refine va_getN (D := D) (ci := 3) (v := .int (nI (g 41))) (C := RX4) (T := TX4) (N := 10) hx hb hts hinX4 hown hM.1 hP 1 rfl rfl 2 (by decide) (va_Nw.use rfl (hM.2.2.2.2.2.1 ("TripleWays", 89, "TripleWays$State", "kept", "I") (by decide +kernel))) (fun _ h9 => h9) rfl dX6_about_60 ?_
    exact ro_iret hx hb hr hlk dX6_about_63 (congrArg nI (by rw [hsw]; rfl))
  · refine ln_eq (x' := nI 2) (congrArg nI hsw) ?_
    refine lv_tableIn (off := 63) (tgt := 64) hx hb dX6_about_1 (by decide) (by decide) (by decide) (by decide) ?_
    refine lv_aload_n hx hb dX6_about_64 rfl (lv_at hl 0 rfl) ?_
    refine va_get (D := D) (ci := 5) (v := .ref a) (C := RX6) (T := TX6) (N := 7) hx hb hts hinX6 hown hM.1 hP 0 rfl rfl 1 (by decide) (hts (.fieldLink RX6 19 "TripleWays" "now" "LTripleWays$State;") (by decide +kernel)) (fun _ h9 => h9) rfl dX6_about_65 ?_
    refine va_getN (D := D) (ci := 3) (v := .int (nI (g 42))) (C := RX4) (T := TX4) (N := 10) hx hb hts hinX4 hown hM.1 hP 1 rfl rfl 3 (by decide) (va_Nw.use rfl (hM.2.2.2.2.2.1 ("TripleWays", 92, "TripleWays$State", "upkeepCosts", "I") (by decide +kernel))) (fun _ h9 => h9) rfl dX6_about_68 ?_
    exact ro_iret hx hb hr hlk dX6_about_71 (congrArg nI (by rw [hsw]; rfl))
  · refine ln_eq (x' := nI 3) (congrArg nI hsw) ?_
    refine lv_tableIn (off := 71) (tgt := 72) hx hb dX6_about_1 (by decide) (by decide) (by decide) (by decide) ?_
    refine lv_aload_n hx hb dX6_about_72 rfl (lv_at hl 0 rfl) ?_
    refine va_get (D := D) (ci := 5) (v := .ref a) (C := RX6) (T := TX6) (N := 7) hx hb hts hinX6 hown hM.1 hP 0 rfl rfl 1 (by decide) (hts (.fieldLink RX6 19 "TripleWays" "now" "LTripleWays$State;") (by decide +kernel)) (fun _ h9 => h9) rfl dX6_about_73 ?_
    refine va_getN (D := D) (ci := 3) (v := .int (nI (g 43))) (C := RX4) (T := TX4) (N := 10) hx hb hts hinX4 hown hM.1 hP 1 rfl rfl 4 (by decide) (va_Nw.use rfl (hM.2.2.2.2.2.1 ("TripleWays", 95, "TripleWays$State", "buildingCosts", "I") (by decide +kernel))) (fun _ h9 => h9) rfl dX6_about_76 ?_
    exact ro_iret hx hb hr hlk dX6_about_79 (congrArg nI (by rw [hsw]; rfl))
  · refine ln_eq (x' := nI 4) (congrArg nI hsw) ?_
    refine lv_tableIn (off := 79) (tgt := 80) hx hb dX6_about_1 (by decide) (by decide) (by decide) (by decide) ?_
    refine lv_aload_n hx hb dX6_about_80 rfl (lv_at hl 0 rfl) ?_
    refine va_get (D := D) (ci := 5) (v := .ref a) (C := RX6) (T := TX6) (N := 7) hx hb hts hinX6 hown hM.1 hP 0 rfl rfl 1 (by decide) (hts (.fieldLink RX6 19 "TripleWays" "now" "LTripleWays$State;") (by decide +kernel)) (fun _ h9 => h9) rfl dX6_about_81 ?_
    refine va_getN (D := D) (ci := 3) (v := .int (nI (g 44))) (C := RX4) (T := TX4) (N := 10) hx hb hts hinX4 hown hM.1 hP 1 rfl rfl 5 (by decide) (va_Nw.use rfl (hM.2.2.2.2.2.1 ("TripleWays", 98, "TripleWays$State", "answerCosts", "I") (by decide +kernel))) (fun _ h9 => h9) rfl dX6_about_84 ?_
    exact ro_iret hx hb hr hlk dX6_about_87 (congrArg nI (by rw [hsw]; rfl))
  · refine ln_eq (x' := nI 5) (congrArg nI hsw) ?_
    refine lv_tableIn (off := 87) (tgt := 88) hx hb dX6_about_1 (by decide) (by decide) (by decide) (by decide) ?_
    refine lv_aload_n hx hb dX6_about_88 rfl (lv_at hl 0 rfl) ?_
    refine va_get (D := D) (ci := 5) (v := .ref a) (C := RX6) (T := TX6) (N := 7) hx hb hts hinX6 hown hM.1 hP 0 rfl rfl 1 (by decide) (hts (.fieldLink RX6 19 "TripleWays" "now" "LTripleWays$State;") (by decide +kernel)) (fun _ h9 => h9) rfl dX6_about_89 ?_
    refine va_getN (D := D) (ci := 3) (v := .int (nI (g 45))) (C := RX4) (T := TX4) (N := 10) hx hb hts hinX4 hown hM.1 hP 1 rfl rfl 6 (by decide) (va_Nw.use rfl (hM.2.2.2.2.2.1 ("TripleWays", 101, "TripleWays$State", "asked", "I") (by decide +kernel))) (fun _ h9 => h9) rfl dX6_about_92 ?_
    exact ro_iret hx hb hr hlk dX6_about_95 (congrArg nI (by rw [hsw]; rfl))
  · refine ln_eq (x' := nI 6) (congrArg nI hsw) ?_
    refine lv_tableIn (off := 95) (tgt := 96) hx hb dX6_about_1 (by decide) (by decide) (by decide) (by decide) ?_
    refine lv_aload_n hx hb dX6_about_96 rfl (lv_at hl 0 rfl) ?_
    refine va_get (D := D) (ci := 5) (v := .ref a) (C := RX6) (T := TX6) (N := 7) hx hb hts hinX6 hown hM.1 hP 0 rfl rfl 1 (by decide) (hts (.fieldLink RX6 19 "TripleWays" "now" "LTripleWays$State;") (by decide +kernel)) (fun _ h9 => h9) rfl dX6_about_97 ?_
    refine va_getN (D := D) (ci := 3) (v := .int (nI (g 46))) (C := RX4) (T := TX4) (N := 10) hx hb hts hinX4 hown hM.1 hP 1 rfl rfl 8 (by decide) (va_Nw.use rfl (hM.2.2.2.2.2.1 ("TripleWays", 104, "TripleWays$State", "questionCount", "I") (by decide +kernel))) (fun _ h9 => h9) rfl dX6_about_100 ?_
    exact ro_iret hx hb hr hlk dX6_about_103 (congrArg nI (by rw [hsw]; rfl))
  · refine ln_eq (x' := nI 7) (congrArg nI hsw) ?_
    refine lv_tableIn (off := 103) (tgt := 104) hx hb dX6_about_1 (by decide) (by decide) (by decide) (by decide) ?_
    refine lv_aload_n hx hb dX6_about_104 rfl (lv_at hl 0 rfl) ?_
    refine va_get (D := D) (ci := 5) (v := .ref a) (C := RX6) (T := TX6) (N := 7) hx hb hts hinX6 hown hM.1 hP 0 rfl rfl 1 (by decide) (hts (.fieldLink RX6 19 "TripleWays" "now" "LTripleWays$State;") (by decide +kernel)) (fun _ h9 => h9) rfl dX6_about_105 ?_
    refine ro_V (C := RX4) (n := 0) ⟨hx, hb, hml, hown, hts⟩ hM hS hP (c_look l D tc zb a a1 a2 tr qs g hk hR) gX6_about_X4_look rfl (by decide +kernel) ⟨Nat.le_of_ble_eq_true rfl, Nat.le_of_ble_eq_true rfl⟩ [1, 2, 3] rfl (va_recv hM.1 hP (ci := 3) (q0 := 1) rfl rfl) rfl hl.1 rfl (Nat.le_of_ble_eq_true rfl) dX6_about_108 ⟨Nat.le_refl _, Nat.le_refl _⟩ ?_
    have hf1 := k_lk_le (g 0)
    exact ro_iret hx hb hr hlk dX6_about_111 (congrArg nI (by rw [hsw]; rfl))
set_option maxHeartbeats 4000000 in
set_option maxRecDepth 100000 in
theorem c6_about_b1 (l : Launch) (hfl : l.stackTraces = false) (D : va_G) (tc : Nat → ClassId) (zb : Nat) (x0 : Nat) (o : Nat → Value) (pp : Int32) (hp : ¬ (nI 0 ≤ pp ∧ pp ≤ nI 7)) : TH l yX6_about wsX6_about 6 82 D tc zb [(x0, .inr (5, [o 0, o 1, o 2, o 3, o 4, o 5, o 6]))] [.ref x0, .int (pp)] "java/lang/IllegalArgumentException" := by
  refine TH.of (cc := cX6_about) (maxL := 2) (ret := (some .int)) (by decide) rfl (Nat.le_of_ble_eq_true rfl) ?_
  intro p e s m args below meth c hx hb hr hml hlk hts hown hex hM hS hP ls hl
  have hl : lv_has ls 2 [(0, .ref x0), (1, .int (pp))] := hl
  have hF54 : ∀ w ∈ (vx_atS RX6 54 "java/lang/IllegalArgumentException" ["java/lang/RuntimeException", "java/lang/Exception"]).filter goodWord, w ∈ wsX6_about := by intro w hw; unfold wsX6_about; with_reducible (first | exact List.mem_cons_of_mem _ (List.mem_append_right _ hw) | exact List.mem_cons_of_mem _ (List.mem_append_left _ (List.mem_append_right _ hw)) | exact List.mem_cons_of_mem _ (List.mem_append_left _ (List.mem_append_left _ (List.mem_append_right _ hw))))
  refine lv_iload_n hx hb dX6_about_0 rfl (lv_at hl 1 rfl) ?_
  refine lv_tableOut (tgt := 112) hx hb dX6_about_1 (k_swo hp) (by decide) ?_
  exact th_throw (own := RX6) (cls := "java/lang/IllegalArgumentException") (text := "what is 0 to 7") (ik := 50) (is := 110) (ic := 54) (names := ["java/lang/RuntimeException", "java/lang/Exception"]) hx hb hfl hown hex hlk hM (by decide +kernel) (by decide +kernel) (hts _ (by decide +kernel)) (hts _ (by decide +kernel)) (by decide +kernel) (th_hat hM (fun w hw => hts w (hF54 w hw)) th_n54 (by decide +kernel)) th_g54 (hl.1.trans hml.symm) dX6_about_112 dX6_about_115 dX6_about_116 dX6_about_118 dX6_about_121 (by decide) (by decide) (by decide) (by decide)
set_option maxHeartbeats 4000000 in
set_option maxRecDepth 100000 in
theorem c6_triple_ok (l : Launch) (D : va_G) (tc : Nat → ClassId) (zb : Nat) (x0 : Nat) (o : Nat → Value) (a a1 a2 : Nat) (tr qs : Nat → Int32) (g : Nat → Nat) (q pl : Nat) (hk : k_ok g) (hR : k_R tr qs g) (hq : q < 6) (hpl : pl < 2 ^ 31) : RO l yX6_triple wsX6_triple 5 117 D tc zb [(x0, .inr (5, [o 0, .ref a, o 2, o 3, o 4, o 5, o 6])), (a, .inr (3, [.ref a1, .int (nI (g 0)), .int (nI (g 41)), .int (nI (g 42)), .int (nI (g 43)), .int (nI (g 44)), .int (nI (g 45)), .ref a2, .int (nI (g 46)), .int (nI (g 59))])), (a1, .inl (tc 0, 40, .inl tr)), (a2, .inl (tc 0, 12, .inl qs))] [.ref x0, .int (nI q), .int (nI pl)] (.int (oI (k_aa g 1330 (some q) pl (g 0)))) := by
  refine RO.of (cc := cX6_triple) (maxL := 3) (ret := (some .int)) (by decide) rfl (Nat.le_of_ble_eq_true rfl) ?_
  intro p e s m args below meth c hx hb hr hml hlk hts hown hM hS hP ls hl
  have hl : lv_has ls 3 [(0, .ref x0), (1, .int (nI q)), (2, .int (nI pl))] := hl
  have hinX6 : ∀ w ∈ u_ws RX6 TX6 7, w ∈ wsX6_triple := by decide +kernel
  obtain ⟨ok0, ok1, ok2, ok3, ok4, ok5, ok6⟩ := id hk
  refine lv_iload_n hx hb dX6_triple_0 rfl (lv_at hl 1 rfl) ?_
  refine rov_S (n := 1) ⟨hx, hb, hml, hown, hts⟩ hM hS hP (c6_needOrderOrNone l D tc zb q (by omega)) gX6_triple_X6_needOrderOrNone rfl (by decide +kernel) ⟨Nat.le_of_ble_eq_true rfl, Nat.le_of_ble_eq_true rfl⟩ [] rfl rfl hl.1 rfl (Nat.le_of_ble_eq_true rfl) dX6_triple_1 ⟨Nat.le_refl _, Nat.le_refl _⟩ ?_
  refine lv_iload_n hx hb dX6_triple_4 rfl (lv_at hl 2 rfl) ?_
  refine rov_S (n := 1) ⟨hx, hb, hml, hown, hts⟩ hM hS hP (c6_needPlace l D tc zb pl (by omega)) gX6_triple_X6_needPlace rfl (by decide +kernel) ⟨Nat.le_of_ble_eq_true rfl, Nat.le_of_ble_eq_true rfl⟩ [] rfl rfl hl.1 rfl (Nat.le_of_ble_eq_true rfl) dX6_triple_5 ⟨Nat.le_refl _, Nat.le_refl _⟩ ?_
  refine lv_aload_n hx hb dX6_triple_8 rfl (lv_at hl 0 rfl) ?_
  refine va_get (D := D) (ci := 5) (v := .ref a) (C := RX6) (T := TX6) (N := 7) hx hb hts hinX6 hown hM.1 hP 0 rfl rfl 1 (by decide) (hts (.fieldLink RX6 19 "TripleWays" "now" "LTripleWays$State;") (by decide +kernel)) (fun _ h9 => h9) rfl dX6_triple_9 ?_
  refine lv_sipush (v := (nI 1330)) hx hb dX6_triple_12 (by decide) ?_
  refine lv_iload_n hx hb dX6_triple_15 rfl (lv_at hl 1 rfl) ?_
  refine lv_iload_n hx hb dX6_triple_16 rfl (lv_at hl 2 rfl) ?_
  refine ro_V (C := RX4) (n := 3) ⟨hx, hb, hml, hown, hts⟩ hM hS hP (c_answerAt l D tc zb a a1 a2 tr qs g 1330 q pl hk hR (by omega) (by omega) (by omega)) gX6_triple_X4_answerAt rfl (by decide +kernel) ⟨Nat.le_of_ble_eq_true rfl, Nat.le_of_ble_eq_true rfl⟩ [1, 2, 3] rfl (va_recv hM.1 hP (ci := 3) (q0 := 1) rfl rfl) rfl hl.1 rfl (Nat.le_of_ble_eq_true rfl) dX6_triple_17 ⟨Nat.le_refl _, Nat.le_refl _⟩ ?_
  exact ro_iret hx hb hr hlk dX6_triple_20 (rfl)
set_option maxHeartbeats 4000000 in
set_option maxRecDepth 100000 in
theorem c6_triple_okN (l : Launch) (D : va_G) (tc : Nat → ClassId) (zb : Nat) (x0 : Nat) (o : Nat → Value) (a a1 a2 : Nat) (tr qs : Nat → Int32) (g : Nat → Nat) (pl : Nat) (hk : k_ok g) (hR : k_R tr qs g) (hpl : pl < 2 ^ 31) : RO l yX6_triple wsX6_triple 3 74 D tc zb [(x0, .inr (5, [o 0, .ref a, o 2, o 3, o 4, o 5, o 6])), (a, .inr (3, [.ref a1, .int (nI (g 0)), .int (nI (g 41)), .int (nI (g 42)), .int (nI (g 43)), .int (nI (g 44)), .int (nI (g 45)), .ref a2, .int (nI (g 46)), .int (nI (g 59))])), (a1, .inl (tc 0, 40, .inl tr)), (a2, .inl (tc 0, 12, .inl qs))] [.ref x0, .int (-1), .int (nI pl)] (.int (oI (k_aa g 1330 none pl (g 0)))) := by
  refine RO.of (cc := cX6_triple) (maxL := 3) (ret := (some .int)) (by decide) rfl (Nat.le_of_ble_eq_true rfl) ?_
  intro p e s m args below meth c hx hb hr hml hlk hts hown hM hS hP ls hl
  have hl : lv_has ls 3 [(0, .ref x0), (1, .int (-1)), (2, .int (nI pl))] := hl
  have hinX6 : ∀ w ∈ u_ws RX6 TX6 7, w ∈ wsX6_triple := by decide +kernel
  obtain ⟨ok0, ok1, ok2, ok3, ok4, ok5, ok6⟩ := id hk
  refine lv_iload_n hx hb dX6_triple_0 rfl (lv_at hl 1 rfl) ?_
  refine rov_S (n := 1) ⟨hx, hb, hml, hown, hts⟩ hM hS hP (c6_needOrderOrNone_n l D tc zb ) gX6_triple_X6_needOrderOrNone rfl (by decide +kernel) ⟨Nat.le_of_ble_eq_true rfl, Nat.le_of_ble_eq_true rfl⟩ [] rfl rfl hl.1 rfl (Nat.le_of_ble_eq_true rfl) dX6_triple_1 ⟨Nat.le_refl _, Nat.le_refl _⟩ ?_
  refine lv_iload_n hx hb dX6_triple_4 rfl (lv_at hl 2 rfl) ?_
  refine rov_S (n := 1) ⟨hx, hb, hml, hown, hts⟩ hM hS hP (c6_needPlace l D tc zb pl (by omega)) gX6_triple_X6_needPlace rfl (by decide +kernel) ⟨Nat.le_of_ble_eq_true rfl, Nat.le_of_ble_eq_true rfl⟩ [] rfl rfl hl.1 rfl (Nat.le_of_ble_eq_true rfl) dX6_triple_5 ⟨Nat.le_refl _, Nat.le_refl _⟩ ?_
  refine lv_aload_n hx hb dX6_triple_8 rfl (lv_at hl 0 rfl) ?_
  refine va_get (D := D) (ci := 5) (v := .ref a) (C := RX6) (T := TX6) (N := 7) hx hb hts hinX6 hown hM.1 hP 0 rfl rfl 1 (by decide) (hts (.fieldLink RX6 19 "TripleWays" "now" "LTripleWays$State;") (by decide +kernel)) (fun _ h9 => h9) rfl dX6_triple_9 ?_
  refine lv_sipush (v := (nI 1330)) hx hb dX6_triple_12 (by decide) ?_
  refine lv_iload_n hx hb dX6_triple_15 rfl (lv_at hl 1 rfl) ?_
  refine lv_iload_n hx hb dX6_triple_16 rfl (lv_at hl 2 rfl) ?_
  refine ro_V (C := RX4) (n := 3) ⟨hx, hb, hml, hown, hts⟩ hM hS hP (c_answerAtN l D tc zb a a1 a2 tr qs g 1330 pl hk hR (by omega) (by omega)) gX6_triple_X4_answerAt rfl (by decide +kernel) ⟨Nat.le_of_ble_eq_true rfl, Nat.le_of_ble_eq_true rfl⟩ [1, 2, 3] rfl (va_recv hM.1 hP (ci := 3) (q0 := 1) rfl rfl) rfl hl.1 rfl (Nat.le_of_ble_eq_true rfl) dX6_triple_17 ⟨Nat.le_refl _, Nat.le_refl _⟩ ?_
  exact ro_iret hx hb hr hlk dX6_triple_20 (rfl)
set_option maxHeartbeats 4000000 in
set_option maxRecDepth 100000 in
theorem c6_triple_b1 (l : Launch) (hfl : l.stackTraces = false) (D : va_G) (tc : Nat → ClassId) (zb : Nat) (x0 : Nat) (o : Nat → Value) (pp pl9 : Int32) (hp : ¬ (nI 0 ≤ pp ∧ pp ≤ nI 5)) (hm : ¬ pp = -1) : TH l yX6_triple wsX6_triple 8 122 D tc zb [(x0, .inr (5, [o 0, o 1, o 2, o 3, o 4, o 5, o 6]))] [.ref x0, .int (pp), .int (pl9)] "java/lang/IndexOutOfBoundsException" := by
  refine TH.of (cc := cX6_triple) (maxL := 3) (ret := (some .int)) (by decide) rfl (Nat.le_of_ble_eq_true rfl) ?_
  intro p e s m args below meth c hx hb hr hml hlk hts hown hex hM hS hP ls hl
  have hl : lv_has ls 3 [(0, .ref x0), (1, .int (pp)), (2, .int (pl9))] := hl
  refine lv_iload_n hx hb dX6_triple_0 rfl (lv_at hl 1 rfl) ?_
  exact th_S (n := 1) ⟨hx, hb, hml, hown, hts⟩ hM hS hP (c6_needOrderOrNone_b l hfl D tc zb ((pp)) (by assumption) (by assumption)) gX6_triple_X6_needOrderOrNone rfl (by decide +kernel) ⟨Nat.le_of_ble_eq_true rfl, Nat.le_of_ble_eq_true rfl⟩ [] rfl rfl hl.1 rfl (Nat.le_of_ble_eq_true rfl) dX6_triple_1 ⟨Nat.le_refl _, Nat.le_refl _⟩ (fun H1 q ce h1 h2 h3 h4 h5 => th_out hex hlk h1 h2 h3 h4 h5)
set_option maxHeartbeats 4000000 in
set_option maxRecDepth 100000 in
theorem c6_triple_b2 (l : Launch) (hfl : l.stackTraces = false) (D : va_G) (tc : Nat → ClassId) (zb : Nat) (x0 : Nat) (o : Nat → Value) (q : Nat) (pl9 : Int32) (hq : q < 6) (hng : pl9 < 0) : TH l yX6_triple wsX6_triple 7 102 D tc zb [(x0, .inr (5, [o 0, o 1, o 2, o 3, o 4, o 5, o 6]))] [.ref x0, .int (nI q), .int (pl9)] "java/lang/IllegalArgumentException" := by
  refine TH.of (cc := cX6_triple) (maxL := 3) (ret := (some .int)) (by decide) rfl (Nat.le_of_ble_eq_true rfl) ?_
  intro p e s m args below meth c hx hb hr hml hlk hts hown hex hM hS hP ls hl
  have hl : lv_has ls 3 [(0, .ref x0), (1, .int (nI q)), (2, .int (pl9))] := hl
  refine lv_iload_n hx hb dX6_triple_0 rfl (lv_at hl 1 rfl) ?_
  refine rov_S (n := 1) ⟨hx, hb, hml, hown, hts⟩ hM hS hP (c6_needOrderOrNone l D tc zb q (by omega)) gX6_triple_X6_needOrderOrNone rfl (by decide +kernel) ⟨Nat.le_of_ble_eq_true rfl, Nat.le_of_ble_eq_true rfl⟩ [] rfl rfl hl.1 rfl (Nat.le_of_ble_eq_true rfl) dX6_triple_1 ⟨Nat.zero_le _, Nat.zero_le _⟩ ?_
  refine lv_iload_n hx hb dX6_triple_4 rfl (lv_at hl 2 rfl) ?_
  exact th_S (n := 1) ⟨hx, hb, hml, hown, hts⟩ hM hS hP (c6_needPlace_b l hfl D tc zb ((pl9)) (by assumption)) gX6_triple_X6_needPlace rfl (by decide +kernel) ⟨Nat.le_of_ble_eq_true rfl, Nat.le_of_ble_eq_true rfl⟩ [] rfl rfl hl.1 rfl (Nat.le_of_ble_eq_true rfl) dX6_triple_5 ⟨Nat.le_refl _, Nat.le_refl _⟩ (fun H1 q ce h1 h2 h3 h4 h5 => th_out hex hlk h1 h2 h3 h4 h5)
set_option maxHeartbeats 4000000 in
set_option maxRecDepth 100000 in
theorem c6_triple_b2N (l : Launch) (hfl : l.stackTraces = false) (D : va_G) (tc : Nat → ClassId) (zb : Nat) (x0 : Nat) (o : Nat → Value) (pl9 : Int32) (hng : pl9 < 0) : TH l yX6_triple wsX6_triple 7 102 D tc zb [(x0, .inr (5, [o 0, o 1, o 2, o 3, o 4, o 5, o 6]))] [.ref x0, .int (-1), .int (pl9)] "java/lang/IllegalArgumentException" := by
  refine TH.of (cc := cX6_triple) (maxL := 3) (ret := (some .int)) (by decide) rfl (Nat.le_of_ble_eq_true rfl) ?_
  intro p e s m args below meth c hx hb hr hml hlk hts hown hex hM hS hP ls hl
  have hl : lv_has ls 3 [(0, .ref x0), (1, .int (-1)), (2, .int (pl9))] := hl
  refine lv_iload_n hx hb dX6_triple_0 rfl (lv_at hl 1 rfl) ?_
  refine rov_S (n := 1) ⟨hx, hb, hml, hown, hts⟩ hM hS hP (c6_needOrderOrNone_n l D tc zb ) gX6_triple_X6_needOrderOrNone rfl (by decide +kernel) ⟨Nat.le_of_ble_eq_true rfl, Nat.le_of_ble_eq_true rfl⟩ [] rfl rfl hl.1 rfl (Nat.le_of_ble_eq_true rfl) dX6_triple_1 ⟨Nat.zero_le _, Nat.zero_le _⟩ ?_
  refine lv_iload_n hx hb dX6_triple_4 rfl (lv_at hl 2 rfl) ?_
  exact th_S (n := 1) ⟨hx, hb, hml, hown, hts⟩ hM hS hP (c6_needPlace_b l hfl D tc zb ((pl9)) (by assumption)) gX6_triple_X6_needPlace rfl (by decide +kernel) ⟨Nat.le_of_ble_eq_true rfl, Nat.le_of_ble_eq_true rfl⟩ [] rfl rfl hl.1 rfl (Nat.le_of_ble_eq_true rfl) dX6_triple_5 ⟨Nat.le_refl _, Nat.le_refl _⟩ (fun H1 q ce h1 h2 h3 h4 h5 => th_out hex hlk h1 h2 h3 h4 h5)
set_option maxHeartbeats 4000000 in
set_option maxRecDepth 100000 in
theorem c6_remembered_ok (l : Launch) (D : va_G) (tc : Nat → ClassId) (zb : Nat) (x0 : Nat) (o : Nat → Value) (a a1 a2 : Nat) (tr qs : Nat → Int32) (g : Nat → Nat) (pl : Nat) (hk : k_ok g) (hR : k_R tr qs g) (hpl : pl < 2 ^ 31) : RO l yX6_remembered wsX6_remembered 1 21 D tc zb [(x0, .inr (5, [o 0, .ref a, o 2, o 3, o 4, o 5, o 6])), (a, .inr (3, [.ref a1, .int (nI (g 0)), .int (nI (g 41)), .int (nI (g 42)), .int (nI (g 43)), .int (nI (g 44)), .int (nI (g 45)), .ref a2, .int (nI (g 46)), .int (nI (g 59))])), (a1, .inl (tc 0, 40, .inl tr)), (a2, .inl (tc 0, 12, .inl qs))] [.ref x0, .int (nI pl)] (.int (oI (k_rmb g pl))) := by
  refine RO.of (cc := cX6_remembered) (maxL := 2) (ret := (some .int)) (by decide) rfl (Nat.le_of_ble_eq_true rfl) ?_
  intro p e s m args below meth c hx hb hr hml hlk hts hown hM hS hP ls hl
  have hl : lv_has ls 2 [(0, .ref x0), (1, .int (nI pl))] := hl
  have hinX4 : ∀ w ∈ u_ws RX4 TX4 10, w ∈ wsX6_remembered := by decide +kernel
  have hinX6 : ∀ w ∈ u_ws RX6 TX6 7, w ∈ wsX6_remembered := by decide +kernel
  obtain ⟨ok0, ok1, ok2, ok3, ok4, ok5, ok6⟩ := id hk
  refine lv_iload_n hx hb dX6_remembered_0 rfl (lv_at hl 1 rfl) ?_
  refine rov_S (n := 1) ⟨hx, hb, hml, hown, hts⟩ hM hS hP (c6_needPlace l D tc zb pl (by omega)) gX6_remembered_X6_needPlace rfl (by decide +kernel) ⟨Nat.le_of_ble_eq_true rfl, Nat.le_of_ble_eq_true rfl⟩ [] rfl rfl hl.1 rfl (Nat.le_of_ble_eq_true rfl) dX6_remembered_1 ⟨Nat.le_refl _, Nat.le_refl _⟩ ?_
  refine lv_iload_n hx hb dX6_remembered_4 rfl (lv_at hl 1 rfl) ?_
  refine lv_aload_n hx hb dX6_remembered_5 rfl (lv_at hl 0 rfl) ?_
  refine va_get (D := D) (ci := 5) (v := .ref a) (C := RX6) (T := TX6) (N := 7) hx hb hts hinX6 hown hM.1 hP 0 rfl rfl 1 (by decide) (hts (.fieldLink RX6 19 "TripleWays" "now" "LTripleWays$State;") (by decide +kernel)) (fun _ h9 => h9) rfl dX6_remembered_6 ?_
  refine va_getN (D := D) (ci := 3) (v := .int (nI (g 46))) (C := RX4) (T := TX4) (N := 10) hx hb hts hinX4 hown hM.1 hP 1 rfl rfl 8 (by decide) (va_Nw.use rfl (hM.2.2.2.2.2.1 ("TripleWays", 104, "TripleWays$State", "questionCount", "I") (by decide +kernel))) (fun _ h9 => h9) rfl dX6_remembered_9 ?_
  refine ln_icmp_ge (tgt := 36) hx hb dX6_remembered_12 (by decide) (by omega) (by omega) (fun h1 => ?_) (fun h1 => ?_)
  · refine lv_iconst (v := (-1)) hx hb dX6_remembered_36 (by decide) ?_
    exact ro_iret hx hb hr hlk dX6_remembered_37 (show oI none = _ from congrArg oI (by unfold k_rmb; first | (rw [if_pos (by omega), show 47 + g 46 - 1 - pl = 47 + (g 46 - 1 - pl) by omega]) | (rw [if_neg (by omega)])))
  · refine lv_aload_n hx hb dX6_remembered_15 rfl (lv_at hl 0 rfl) ?_
    refine va_get (D := D) (ci := 5) (v := .ref a) (C := RX6) (T := TX6) (N := 7) hx hb hts hinX6 hown hM.1 hP 0 rfl rfl 1 (by decide) (hts (.fieldLink RX6 19 "TripleWays" "now" "LTripleWays$State;") (by decide +kernel)) (fun _ h9 => h9) rfl dX6_remembered_16 ?_
    refine lv_aload_n hx hb dX6_remembered_19 rfl (lv_at hl 0 rfl) ?_
    refine va_get (D := D) (ci := 5) (v := .ref a) (C := RX6) (T := TX6) (N := 7) hx hb hts hinX6 hown hM.1 hP 0 rfl rfl 1 (by decide) (hts (.fieldLink RX6 19 "TripleWays" "now" "LTripleWays$State;") (by decide +kernel)) (fun _ h9 => h9) rfl dX6_remembered_20 ?_
    refine va_getN (D := D) (ci := 3) (v := .int (nI (g 46))) (C := RX4) (T := TX4) (N := 10) hx hb hts hinX4 hown hM.1 hP 1 rfl rfl 8 (by decide) (va_Nw.use rfl (hM.2.2.2.2.2.1 ("TripleWays", 104, "TripleWays$State", "questionCount", "I") (by decide +kernel))) (fun _ h9 => h9) rfl dX6_remembered_23 ?_
    refine lv_iconst (v := (nI 1)) hx hb dX6_remembered_26 (by decide) ?_
    refine ln_isub hx hb dX6_remembered_27 (by omega) ?_
    refine lv_iload_n hx hb dX6_remembered_28 rfl (lv_at hl 1 rfl) ?_
    refine ln_isub hx hb dX6_remembered_29 (by omega) ?_
    refine ro_V (C := RX4) (n := 1) ⟨hx, hb, hml, hown, hts⟩ hM hS hP (c_questionAt l D tc zb a a1 a2 tr qs g (((g 46) - 1) - pl) hk hR (by omega)) gX6_remembered_X4_questionAt rfl (by decide +kernel) ⟨Nat.le_of_ble_eq_true rfl, Nat.le_of_ble_eq_true rfl⟩ [1, 2, 3] rfl (va_recv hM.1 hP (ci := 3) (q0 := 1) rfl rfl) rfl hl.1 rfl (Nat.le_of_ble_eq_true rfl) dX6_remembered_30 ⟨Nat.le_refl _, Nat.le_refl _⟩ ?_
    have hf2 := hk.2.2.2.2.2.1 (((g 46) - 1) - pl) (by omega)
    refine lv_goto (tgt := 37) hx hb dX6_remembered_33 (by decide) ?_
    exact ro_iret hx hb hr hlk dX6_remembered_37 (show oI (some (g (47 + (((g 46) - 1) - pl)))) = _ from congrArg oI (by unfold k_rmb; first | (rw [if_pos (by omega), show 47 + g 46 - 1 - pl = 47 + (g 46 - 1 - pl) by omega]) | (rw [if_neg (by omega)])))
set_option maxHeartbeats 4000000 in
set_option maxRecDepth 100000 in
theorem c6_remembered_b1 (l : Launch) (hfl : l.stackTraces = false) (D : va_G) (tc : Nat → ClassId) (zb : Nat) (x0 : Nat) (o : Nat → Value) (pl9 : Int32) (hng : pl9 < 0) : TH l yX6_remembered wsX6_remembered 7 102 D tc zb [(x0, .inr (5, [o 0, o 1, o 2, o 3, o 4, o 5, o 6]))] [.ref x0, .int (pl9)] "java/lang/IllegalArgumentException" := by
  refine TH.of (cc := cX6_remembered) (maxL := 2) (ret := (some .int)) (by decide) rfl (Nat.le_of_ble_eq_true rfl) ?_
  intro p e s m args below meth c hx hb hr hml hlk hts hown hex hM hS hP ls hl
  have hl : lv_has ls 2 [(0, .ref x0), (1, .int (pl9))] := hl
  refine lv_iload_n hx hb dX6_remembered_0 rfl (lv_at hl 1 rfl) ?_
  exact th_S (n := 1) ⟨hx, hb, hml, hown, hts⟩ hM hS hP (c6_needPlace_b l hfl D tc zb ((pl9)) (by assumption)) gX6_remembered_X6_needPlace rfl (by decide +kernel) ⟨Nat.le_of_ble_eq_true rfl, Nat.le_of_ble_eq_true rfl⟩ [] rfl rfl hl.1 rfl (Nat.le_of_ble_eq_true rfl) dX6_remembered_1 ⟨Nat.le_refl _, Nat.le_refl _⟩ (fun H1 q ce h1 h2 h3 h4 h5 => th_out hex hlk h1 h2 h3 h4 h5)
set_option maxHeartbeats 4000000 in
set_option maxRecDepth 100000 in
theorem c6_weight (l : Launch) (D : va_G) (tc : Nat → ClassId) (zb : Nat) (x0 : Nat) (o : Nat → Value) (a a1 a2 : Nat) (tr qs : Nat → Int32) (g : Nat → Nat) (hk : k_ok g) (hR : k_R tr qs g) : RO l yX6_weight wsX6_weight 0 0 D tc zb [(x0, .inr (5, [o 0, .ref a, o 2, o 3, o 4, o 5, o 6])), (a, .inr (3, [.ref a1, .int (nI (g 0)), .int (nI (g 41)), .int (nI (g 42)), .int (nI (g 43)), .int (nI (g 44)), .int (nI (g 45)), .ref a2, .int (nI (g 46)), .int (nI (g 59))])), (a1, .inl (tc 0, 40, .inl tr)), (a2, .inl (tc 0, 12, .inl qs))] [.ref x0] (.int (nI (g 59))) := by
  refine RO.of (cc := cX6_weight) (maxL := 1) (ret := (some .int)) (by decide) rfl (Nat.le_of_ble_eq_true rfl) ?_
  intro p e s m args below meth c hx hb hr hml hlk hts hown hM hS hP ls hl
  have hl : lv_has ls 1 [(0, .ref x0)] := hl
  have hinX4 : ∀ w ∈ u_ws RX4 TX4 10, w ∈ wsX6_weight := by decide +kernel
  have hinX6 : ∀ w ∈ u_ws RX6 TX6 7, w ∈ wsX6_weight := by decide +kernel
  obtain ⟨ok0, ok1, ok2, ok3, ok4, ok5, ok6⟩ := id hk
  refine lv_aload_n hx hb dX6_weight_0 rfl (lv_at hl 0 rfl) ?_
  refine va_get (D := D) (ci := 5) (v := .ref a) (C := RX6) (T := TX6) (N := 7) hx hb hts hinX6 hown hM.1 hP 0 rfl rfl 1 (by decide) (hts (.fieldLink RX6 19 "TripleWays" "now" "LTripleWays$State;") (by decide +kernel)) (fun _ h9 => h9) rfl dX6_weight_1 ?_
  refine va_getN (D := D) (ci := 3) (v := .int (nI (g 59))) (C := RX4) (T := TX4) (N := 10) hx hb hts hinX4 hown hM.1 hP 1 rfl rfl 9 (by decide) (va_Nw.use rfl (hM.2.2.2.2.2.1 ("TripleWays", 126, "TripleWays$State", "weight", "I") (by decide +kernel))) (fun _ h9 => h9) rfl dX6_weight_4 ?_
  exact ro_iret hx hb hr hlk dX6_weight_7 (rfl)
set_option maxHeartbeats 4000000 in
set_option maxRecDepth 100000 in
theorem c6_count_ok (l : Launch) (D : va_G) (tc : Nat → ClassId) (zb : Nat) (x0 : Nat) (o : Nat → Value) (a a1 a2 : Nat) (tr qs : Nat → Int32) (g : Nat → Nat) (x : Nat) (hk : k_ok g) (hR : k_R tr qs g) (hx9 : x < 1331) : RO l yX6_count wsX6_count 2 47 D tc zb [(x0, .inr (5, [o 0, .ref a, o 2, o 3, o 4, o 5, o 6])), (a, .inr (3, [.ref a1, .int (nI (g 0)), .int (nI (g 41)), .int (nI (g 42)), .int (nI (g 43)), .int (nI (g 44)), .int (nI (g 45)), .ref a2, .int (nI (g 46)), .int (nI (g 59))])), (a1, .inl (tc 0, 40, .inl tr)), (a2, .inl (tc 0, 12, .inl qs))] [.ref x0, .int (nI x)] (.int (nI (k_cnt g x))) := by
  refine RO.of (cc := cX6_count) (maxL := 2) (ret := (some .int)) (by decide) rfl (Nat.le_of_ble_eq_true rfl) ?_
  intro p e s m args below meth c hx hb hr hml hlk hts hown hM hS hP ls hl
  have hl : lv_has ls 2 [(0, .ref x0), (1, .int (nI x))] := hl
  have hinX6 : ∀ w ∈ u_ws RX6 TX6 7, w ∈ wsX6_count := by decide +kernel
  obtain ⟨ok0, ok1, ok2, ok3, ok4, ok5, ok6⟩ := id hk
  refine lv_iload_n hx hb dX6_count_0 rfl (lv_at hl 1 rfl) ?_
  refine rov_S (n := 1) ⟨hx, hb, hml, hown, hts⟩ hM hS hP (c6_needQuestion l D tc zb x (by omega)) gX6_count_X6_needQuestion rfl (by decide +kernel) ⟨Nat.le_of_ble_eq_true rfl, Nat.le_of_ble_eq_true rfl⟩ [] rfl rfl hl.1 rfl (Nat.le_of_ble_eq_true rfl) dX6_count_1 ⟨Nat.le_refl _, Nat.le_refl _⟩ ?_
  refine lv_aload_n hx hb dX6_count_4 rfl (lv_at hl 0 rfl) ?_
  refine va_get (D := D) (ci := 5) (v := .ref a) (C := RX6) (T := TX6) (N := 7) hx hb hts hinX6 hown hM.1 hP 0 rfl rfl 1 (by decide) (hts (.fieldLink RX6 19 "TripleWays" "now" "LTripleWays$State;") (by decide +kernel)) (fun _ h9 => h9) rfl dX6_count_5 ?_
  refine lv_iload_n hx hb dX6_count_8 rfl (lv_at hl 1 rfl) ?_
  refine ro_V (C := RX4) (n := 1) ⟨hx, hb, hml, hown, hts⟩ hM hS hP (c_countAnswers l D tc zb a a1 a2 tr qs g x hk hR (by omega)) gX6_count_X4_countAnswers rfl (by decide +kernel) ⟨Nat.le_of_ble_eq_true rfl, Nat.le_of_ble_eq_true rfl⟩ [1, 2, 3] rfl (va_recv hM.1 hP (ci := 3) (q0 := 1) rfl rfl) rfl hl.1 rfl (Nat.le_of_ble_eq_true rfl) dX6_count_9 ⟨Nat.le_refl _, Nat.le_refl _⟩ ?_
  have hf1 := k_cnt_le g x
  exact ro_iret hx hb hr hlk dX6_count_12 (rfl)
set_option maxHeartbeats 4000000 in
set_option maxRecDepth 100000 in
theorem c6_count_b1 (l : Launch) (hfl : l.stackTraces = false) (D : va_G) (tc : Nat → ClassId) (zb : Nat) (x0 : Nat) (o : Nat → Value) (pp : Int32) (hp : ¬ (nI 0 ≤ pp ∧ pp ≤ nI 1330)) : TH l yX6_count wsX6_count 7 102 D tc zb [(x0, .inr (5, [o 0, o 1, o 2, o 3, o 4, o 5, o 6]))] [.ref x0, .int (pp)] "java/lang/IllegalArgumentException" := by
  refine TH.of (cc := cX6_count) (maxL := 2) (ret := (some .int)) (by decide) rfl (Nat.le_of_ble_eq_true rfl) ?_
  intro p e s m args below meth c hx hb hr hml hlk hts hown hex hM hS hP ls hl
  have hl : lv_has ls 2 [(0, .ref x0), (1, .int (pp))] := hl
  refine lv_iload_n hx hb dX6_count_0 rfl (lv_at hl 1 rfl) ?_
  exact th_S (n := 1) ⟨hx, hb, hml, hown, hts⟩ hM hS hP (c6_needQuestion_b l hfl D tc zb ((pp)) (by first | assumption | exact hp.1)) gX6_count_X6_needQuestion rfl (by decide +kernel) ⟨Nat.le_of_ble_eq_true rfl, Nat.le_of_ble_eq_true rfl⟩ [] rfl rfl hl.1 rfl (Nat.le_of_ble_eq_true rfl) dX6_count_1 ⟨Nat.le_refl _, Nat.le_refl _⟩ (fun H1 q ce h1 h2 h3 h4 h5 => th_out hex hlk h1 h2 h3 h4 h5)
set_option maxHeartbeats 4000000 in
set_option maxRecDepth 100000 in
theorem c6_cost_ok (l : Launch) (D : va_G) (tc : Nat → ClassId) (zb : Nat) (x0 : Nat) (o : Nat → Value) (a a1 a2 : Nat) (tr qs : Nat → Int32) (g : Nat → Nat) (x q : Nat) (hk : k_ok g) (hR : k_R tr qs g) (hx9 : x < 1331) (hq : q < 6) : RO l yX6_cost wsX6_cost 3 70 D tc zb [(x0, .inr (5, [o 0, .ref a, o 2, o 3, o 4, o 5, o 6])), (a, .inr (3, [.ref a1, .int (nI (g 0)), .int (nI (g 41)), .int (nI (g 42)), .int (nI (g 43)), .int (nI (g 44)), .int (nI (g 45)), .ref a2, .int (nI (g 46)), .int (nI (g 59))])), (a1, .inl (tc 0, 40, .inl tr)), (a2, .inl (tc 0, 12, .inl qs))] [.ref x0, .int (nI x), .int (nI q)] (.int (nI (k_cb g x q))) := by
  refine RO.of (cc := cX6_cost) (maxL := 3) (ret := (some .int)) (by decide) rfl (Nat.le_of_ble_eq_true rfl) ?_
  intro p e s m args below meth c hx hb hr hml hlk hts hown hM hS hP ls hl
  have hl : lv_has ls 3 [(0, .ref x0), (1, .int (nI x)), (2, .int (nI q))] := hl
  have hinX6 : ∀ w ∈ u_ws RX6 TX6 7, w ∈ wsX6_cost := by decide +kernel
  obtain ⟨ok0, ok1, ok2, ok3, ok4, ok5, ok6⟩ := id hk
  refine lv_iload_n hx hb dX6_cost_0 rfl (lv_at hl 1 rfl) ?_
  refine rov_S (n := 1) ⟨hx, hb, hml, hown, hts⟩ hM hS hP (c6_needQuestion l D tc zb x (by omega)) gX6_cost_X6_needQuestion rfl (by decide +kernel) ⟨Nat.le_of_ble_eq_true rfl, Nat.le_of_ble_eq_true rfl⟩ [] rfl rfl hl.1 rfl (Nat.le_of_ble_eq_true rfl) dX6_cost_1 ⟨Nat.le_refl _, Nat.le_refl _⟩ ?_
  refine lv_iload_n hx hb dX6_cost_4 rfl (lv_at hl 2 rfl) ?_
  refine rov_S (n := 1) ⟨hx, hb, hml, hown, hts⟩ hM hS hP (c6_needOrderOrNone l D tc zb q (by omega)) gX6_cost_X6_needOrderOrNone rfl (by decide +kernel) ⟨Nat.le_of_ble_eq_true rfl, Nat.le_of_ble_eq_true rfl⟩ [] rfl rfl hl.1 rfl (Nat.le_of_ble_eq_true rfl) dX6_cost_5 ⟨Nat.le_refl _, Nat.le_refl _⟩ ?_
  refine lv_iload_n hx hb dX6_cost_8 rfl (lv_at hl 2 rfl) ?_
  refine lv_iconst (v := (-1)) hx hb dX6_cost_9 (by decide) ?_
  refine ln_ne_m1 (tgt := 24) hx hb dX6_cost_10 (by decide) (by omega) ?_
  refine lv_aload_n hx hb dX6_cost_24 rfl (lv_at hl 0 rfl) ?_
  refine va_get (D := D) (ci := 5) (v := .ref a) (C := RX6) (T := TX6) (N := 7) hx hb hts hinX6 hown hM.1 hP 0 rfl rfl 1 (by decide) (hts (.fieldLink RX6 19 "TripleWays" "now" "LTripleWays$State;") (by decide +kernel)) (fun _ h9 => h9) rfl dX6_cost_25 ?_
  refine lv_iload_n hx hb dX6_cost_28 rfl (lv_at hl 1 rfl) ?_
  refine lv_iload_n hx hb dX6_cost_29 rfl (lv_at hl 2 rfl) ?_
  refine ro_V (C := RX4) (n := 2) ⟨hx, hb, hml, hown, hts⟩ hM hS hP (c_costBy l D tc zb a a1 a2 tr qs g x q hk hR (by omega) (by omega)) gX6_cost_X4_costBy rfl (by decide +kernel) ⟨Nat.le_of_ble_eq_true rfl, Nat.le_of_ble_eq_true rfl⟩ [1, 2, 3] rfl (va_recv hM.1 hP (ci := 3) (q0 := 1) rfl rfl) rfl hl.1 rfl (Nat.le_of_ble_eq_true rfl) dX6_cost_30 ⟨Nat.le_refl _, Nat.le_refl _⟩ ?_
  have hf1 := k_cb_le g x q
  exact ro_iret hx hb hr hlk dX6_cost_33 (rfl)
set_option maxHeartbeats 4000000 in
set_option maxRecDepth 100000 in
theorem c6_cost_okN (l : Launch) (D : va_G) (tc : Nat → ClassId) (zb : Nat) (x0 : Nat) (o : Nat → Value) (a a1 a2 : Nat) (tr qs : Nat → Int32) (g : Nat → Nat) (x : Nat) (hk : k_ok g) (hR : k_R tr qs g) (hx9 : x < 1331) : RO l yX6_cost wsX6_cost 4 93 D tc zb [(x0, .inr (5, [o 0, .ref a, o 2, o 3, o 4, o 5, o 6])), (a, .inr (3, [.ref a1, .int (nI (g 0)), .int (nI (g 41)), .int (nI (g 42)), .int (nI (g 43)), .int (nI (g 44)), .int (nI (g 45)), .ref a2, .int (nI (g 46)), .int (nI (g 59))])), (a1, .inl (tc 0, 40, .inl tr)), (a2, .inl (tc 0, 12, .inl qs))] [.ref x0, .int (nI x), .int (-1)] (.int (nI (k_mn g x (g 41) 6))) := by
  refine RO.of (cc := cX6_cost) (maxL := 3) (ret := (some .int)) (by decide) rfl (Nat.le_of_ble_eq_true rfl) ?_
  intro p e s m args below meth c hx hb hr hml hlk hts hown hM hS hP ls hl
  have hl : lv_has ls 3 [(0, .ref x0), (1, .int (nI x)), (2, .int (-1))] := hl
  have hinX6 : ∀ w ∈ u_ws RX6 TX6 7, w ∈ wsX6_cost := by decide +kernel
  obtain ⟨ok0, ok1, ok2, ok3, ok4, ok5, ok6⟩ := id hk
  refine lv_iload_n hx hb dX6_cost_0 rfl (lv_at hl 1 rfl) ?_
  refine rov_S (n := 1) ⟨hx, hb, hml, hown, hts⟩ hM hS hP (c6_needQuestion l D tc zb x (by omega)) gX6_cost_X6_needQuestion rfl (by decide +kernel) ⟨Nat.le_of_ble_eq_true rfl, Nat.le_of_ble_eq_true rfl⟩ [] rfl rfl hl.1 rfl (Nat.le_of_ble_eq_true rfl) dX6_cost_1 ⟨Nat.le_refl _, Nat.le_refl _⟩ ?_
  refine lv_iload_n hx hb dX6_cost_4 rfl (lv_at hl 2 rfl) ?_
  refine rov_S (n := 1) ⟨hx, hb, hml, hown, hts⟩ hM hS hP (c6_needOrderOrNone_n l D tc zb ) gX6_cost_X6_needOrderOrNone rfl (by decide +kernel) ⟨Nat.le_of_ble_eq_true rfl, Nat.le_of_ble_eq_true rfl⟩ [] rfl rfl hl.1 rfl (Nat.le_of_ble_eq_true rfl) dX6_cost_5 ⟨Nat.le_refl _, Nat.le_refl _⟩ ?_
  refine lv_iload_n hx hb dX6_cost_8 rfl (lv_at hl 2 rfl) ?_
  refine lv_iconst (v := (-1)) hx hb dX6_cost_9 (by decide) ?_
  refine lv_icmp_ne (tgt := 24) hx hb dX6_cost_10 (by decide) (fun h9 => False.elim (by revert h9; decide)) (fun _ => ?_)
  refine lv_aload_n hx hb dX6_cost_13 rfl (lv_at hl 0 rfl) ?_
  refine va_get (D := D) (ci := 5) (v := .ref a) (C := RX6) (T := TX6) (N := 7) hx hb hts hinX6 hown hM.1 hP 0 rfl rfl 1 (by decide) (hts (.fieldLink RX6 19 "TripleWays" "now" "LTripleWays$State;") (by decide +kernel)) (fun _ h9 => h9) rfl dX6_cost_14 ?_
  refine lv_iload_n hx hb dX6_cost_17 rfl (lv_at hl 1 rfl) ?_
  refine ro_V (C := RX4) (n := 1) ⟨hx, hb, hml, hown, hts⟩ hM hS hP (c_costNow l D tc zb a a1 a2 tr qs g x hk hR (by omega)) gX6_cost_X4_costNow rfl (by decide +kernel) ⟨Nat.le_of_ble_eq_true rfl, Nat.le_of_ble_eq_true rfl⟩ [1, 2, 3] rfl (va_recv hM.1 hP (ci := 3) (q0 := 1) rfl rfl) rfl hl.1 rfl (Nat.le_of_ble_eq_true rfl) dX6_cost_18 ⟨Nat.le_refl _, Nat.le_refl _⟩ ?_
  have hf1 := k_mn_le g x (g 41) 6
  refine lv_goto (tgt := 33) hx hb dX6_cost_21 (by decide) ?_
  exact ro_iret hx hb hr hlk dX6_cost_33 (rfl)
set_option maxHeartbeats 4000000 in
set_option maxRecDepth 100000 in
theorem c6_cost_b1 (l : Launch) (hfl : l.stackTraces = false) (D : va_G) (tc : Nat → ClassId) (zb : Nat) (x0 : Nat) (o : Nat → Value) (pp p2 : Int32) (hp : ¬ (nI 0 ≤ pp ∧ pp ≤ nI 1330)) : TH l yX6_cost wsX6_cost 7 102 D tc zb [(x0, .inr (5, [o 0, o 1, o 2, o 3, o 4, o 5, o 6]))] [.ref x0, .int (pp), .int (p2)] "java/lang/IllegalArgumentException" := by
  refine TH.of (cc := cX6_cost) (maxL := 3) (ret := (some .int)) (by decide) rfl (Nat.le_of_ble_eq_true rfl) ?_
  intro p e s m args below meth c hx hb hr hml hlk hts hown hex hM hS hP ls hl
  have hl : lv_has ls 3 [(0, .ref x0), (1, .int (pp)), (2, .int (p2))] := hl
  refine lv_iload_n hx hb dX6_cost_0 rfl (lv_at hl 1 rfl) ?_
  exact th_S (n := 1) ⟨hx, hb, hml, hown, hts⟩ hM hS hP (c6_needQuestion_b l hfl D tc zb ((pp)) (by first | assumption | exact hp.1)) gX6_cost_X6_needQuestion rfl (by decide +kernel) ⟨Nat.le_of_ble_eq_true rfl, Nat.le_of_ble_eq_true rfl⟩ [] rfl rfl hl.1 rfl (Nat.le_of_ble_eq_true rfl) dX6_cost_1 ⟨Nat.le_refl _, Nat.le_refl _⟩ (fun H1 q ce h1 h2 h3 h4 h5 => th_out hex hlk h1 h2 h3 h4 h5)
set_option maxHeartbeats 4000000 in
set_option maxRecDepth 100000 in
theorem c6_cost_b2 (l : Launch) (hfl : l.stackTraces = false) (D : va_G) (tc : Nat → ClassId) (zb : Nat) (x0 : Nat) (o : Nat → Value) (x : Nat) (pp : Int32) (hx9 : x < 1331) (hp : ¬ (nI 0 ≤ pp ∧ pp ≤ nI 5)) (hm : ¬ pp = -1) : TH l yX6_cost wsX6_cost 8 122 D tc zb [(x0, .inr (5, [o 0, o 1, o 2, o 3, o 4, o 5, o 6]))] [.ref x0, .int (nI x), .int (pp)] "java/lang/IndexOutOfBoundsException" := by
  refine TH.of (cc := cX6_cost) (maxL := 3) (ret := (some .int)) (by decide) rfl (Nat.le_of_ble_eq_true rfl) ?_
  intro p e s m args below meth c hx hb hr hml hlk hts hown hex hM hS hP ls hl
  have hl : lv_has ls 3 [(0, .ref x0), (1, .int (nI x)), (2, .int (pp))] := hl
  refine lv_iload_n hx hb dX6_cost_0 rfl (lv_at hl 1 rfl) ?_
  refine rov_S (n := 1) ⟨hx, hb, hml, hown, hts⟩ hM hS hP (c6_needQuestion l D tc zb x (by omega)) gX6_cost_X6_needQuestion rfl (by decide +kernel) ⟨Nat.le_of_ble_eq_true rfl, Nat.le_of_ble_eq_true rfl⟩ [] rfl rfl hl.1 rfl (Nat.le_of_ble_eq_true rfl) dX6_cost_1 ⟨Nat.zero_le _, Nat.zero_le _⟩ ?_
  refine lv_iload_n hx hb dX6_cost_4 rfl (lv_at hl 2 rfl) ?_
  exact th_S (n := 1) ⟨hx, hb, hml, hown, hts⟩ hM hS hP (c6_needOrderOrNone_b l hfl D tc zb ((pp)) (by assumption) (by assumption)) gX6_cost_X6_needOrderOrNone rfl (by decide +kernel) ⟨Nat.le_of_ble_eq_true rfl, Nat.le_of_ble_eq_true rfl⟩ [] rfl rfl hl.1 rfl (Nat.le_of_ble_eq_true rfl) dX6_cost_5 ⟨Nat.le_refl _, Nat.le_refl _⟩ (fun H1 q ce h1 h2 h3 h4 h5 => th_out hex hlk h1 h2 h3 h4 h5)
set_option maxHeartbeats 4000000 in
set_option maxRecDepth 100000 in
theorem c6_by_ok (l : Launch) (D : va_G) (tc : Nat → ClassId) (zb : Nat) (x0 : Nat) (o : Nat → Value) (a a1 a2 : Nat) (tr qs : Nat → Int32) (g : Nat → Nat) (x : Nat) (hk : k_ok g) (hR : k_R tr qs g) (hx9 : x < 1331) : RO l yX6_by wsX6_by 4 95 D tc zb [(x0, .inr (5, [o 0, .ref a, o 2, o 3, o 4, o 5, o 6])), (a, .inr (3, [.ref a1, .int (nI (g 0)), .int (nI (g 41)), .int (nI (g 42)), .int (nI (g 43)), .int (nI (g 44)), .int (nI (g 45)), .ref a2, .int (nI (g 46)), .int (nI (g 59))])), (a1, .inl (tc 0, 40, .inl tr)), (a2, .inl (tc 0, 12, .inl qs))] [.ref x0, .int (nI x)] (.int (oI (k_or g x (g 41) 6))) := by
  refine RO.of (cc := cX6_by) (maxL := 2) (ret := (some .int)) (by decide) rfl (Nat.le_of_ble_eq_true rfl) ?_
  intro p e s m args below meth c hx hb hr hml hlk hts hown hM hS hP ls hl
  have hl : lv_has ls 2 [(0, .ref x0), (1, .int (nI x))] := hl
  have hinX6 : ∀ w ∈ u_ws RX6 TX6 7, w ∈ wsX6_by := by decide +kernel
  obtain ⟨ok0, ok1, ok2, ok3, ok4, ok5, ok6⟩ := id hk
  refine lv_iload_n hx hb dX6_by_0 rfl (lv_at hl 1 rfl) ?_
  refine rov_S (n := 1) ⟨hx, hb, hml, hown, hts⟩ hM hS hP (c6_needQuestion l D tc zb x (by omega)) gX6_by_X6_needQuestion rfl (by decide +kernel) ⟨Nat.le_of_ble_eq_true rfl, Nat.le_of_ble_eq_true rfl⟩ [] rfl rfl hl.1 rfl (Nat.le_of_ble_eq_true rfl) dX6_by_1 ⟨Nat.le_refl _, Nat.le_refl _⟩ ?_
  refine lv_aload_n hx hb dX6_by_4 rfl (lv_at hl 0 rfl) ?_
  refine va_get (D := D) (ci := 5) (v := .ref a) (C := RX6) (T := TX6) (N := 7) hx hb hts hinX6 hown hM.1 hP 0 rfl rfl 1 (by decide) (hts (.fieldLink RX6 19 "TripleWays" "now" "LTripleWays$State;") (by decide +kernel)) (fun _ h9 => h9) rfl dX6_by_5 ?_
  refine lv_iload_n hx hb dX6_by_8 rfl (lv_at hl 1 rfl) ?_
  refine ro_V (C := RX4) (n := 1) ⟨hx, hb, hml, hown, hts⟩ hM hS hP (c_answeringOrder l D tc zb a a1 a2 tr qs g x hk hR (by omega)) gX6_by_X4_answeringOrder rfl (by decide +kernel) ⟨Nat.le_of_ble_eq_true rfl, Nat.le_of_ble_eq_true rfl⟩ [1, 2, 3] rfl (va_recv hM.1 hP (ci := 3) (q0 := 1) rfl rfl) rfl hl.1 rfl (Nat.le_of_ble_eq_true rfl) dX6_by_9 ⟨Nat.le_refl _, Nat.le_refl _⟩ ?_
  exact ro_iret hx hb hr hlk dX6_by_12 (rfl)
set_option maxHeartbeats 4000000 in
set_option maxRecDepth 100000 in
theorem c6_by_b1 (l : Launch) (hfl : l.stackTraces = false) (D : va_G) (tc : Nat → ClassId) (zb : Nat) (x0 : Nat) (o : Nat → Value) (pp : Int32) (hp : ¬ (nI 0 ≤ pp ∧ pp ≤ nI 1330)) : TH l yX6_by wsX6_by 7 102 D tc zb [(x0, .inr (5, [o 0, o 1, o 2, o 3, o 4, o 5, o 6]))] [.ref x0, .int (pp)] "java/lang/IllegalArgumentException" := by
  refine TH.of (cc := cX6_by) (maxL := 2) (ret := (some .int)) (by decide) rfl (Nat.le_of_ble_eq_true rfl) ?_
  intro p e s m args below meth c hx hb hr hml hlk hts hown hex hM hS hP ls hl
  have hl : lv_has ls 2 [(0, .ref x0), (1, .int (pp))] := hl
  refine lv_iload_n hx hb dX6_by_0 rfl (lv_at hl 1 rfl) ?_
  exact th_S (n := 1) ⟨hx, hb, hml, hown, hts⟩ hM hS hP (c6_needQuestion_b l hfl D tc zb ((pp)) (by first | assumption | exact hp.1)) gX6_by_X6_needQuestion rfl (by decide +kernel) ⟨Nat.le_of_ble_eq_true rfl, Nat.le_of_ble_eq_true rfl⟩ [] rfl rfl hl.1 rfl (Nat.le_of_ble_eq_true rfl) dX6_by_1 ⟨Nat.le_refl _, Nat.le_refl _⟩ (fun H1 q ce h1 h2 h3 h4 h5 => th_out hex hlk h1 h2 h3 h4 h5)
set_option maxHeartbeats 4000000 in
set_option maxRecDepth 100000 in
theorem c6_reach_ok (l : Launch) (D : va_G) (tc : Nat → ClassId) (zb : Nat) (x0 : Nat) (o : Nat → Value) (a a1 a2 : Nat) (tr qs : Nat → Int32) (g : Nat → Nat) (x q : Nat) (hk : k_ok g) (hR : k_R tr qs g) (hx9 : x < 1331) (hq : q < 6) : RO l yX6_reach wsX6_reach 2 44 D tc zb [(x0, .inr (5, [o 0, .ref a, o 2, o 3, o 4, o 5, o 6])), (a, .inr (3, [.ref a1, .int (nI (g 0)), .int (nI (g 41)), .int (nI (g 42)), .int (nI (g 43)), .int (nI (g 44)), .int (nI (g 45)), .ref a2, .int (nI (g 46)), .int (nI (g 59))])), (a1, .inl (tc 0, 40, .inl tr)), (a2, .inl (tc 0, 12, .inl qs))] [.ref x0, .int (nI x), .int (nI q)] (.int (nI (k_rch x q))) := by
  refine RO.of (cc := cX6_reach) (maxL := 3) (ret := (some .int)) (by decide) rfl (Nat.le_of_ble_eq_true rfl) ?_
  intro p e s m args below meth c hx hb hr hml hlk hts hown hM hS hP ls hl
  have hl : lv_has ls 3 [(0, .ref x0), (1, .int (nI x)), (2, .int (nI q))] := hl
  obtain ⟨ok0, ok1, ok2, ok3, ok4, ok5, ok6⟩ := id hk
  refine lv_iload_n hx hb dX6_reach_0 rfl (lv_at hl 1 rfl) ?_
  refine rov_S (n := 1) ⟨hx, hb, hml, hown, hts⟩ hM hS hP (c6_needQuestion l D tc zb x (by omega)) gX6_reach_X6_needQuestion rfl (by decide +kernel) ⟨Nat.le_of_ble_eq_true rfl, Nat.le_of_ble_eq_true rfl⟩ [] rfl rfl hl.1 rfl (Nat.le_of_ble_eq_true rfl) dX6_reach_1 ⟨Nat.le_refl _, Nat.le_refl _⟩ ?_
  refine lv_iload_n hx hb dX6_reach_4 rfl (lv_at hl 2 rfl) ?_
  refine rov_S (n := 1) ⟨hx, hb, hml, hown, hts⟩ hM hS hP (c6_needOrder l D tc zb q (by omega)) gX6_reach_X6_needOrder rfl (by decide +kernel) ⟨Nat.le_of_ble_eq_true rfl, Nat.le_of_ble_eq_true rfl⟩ [] rfl rfl hl.1 rfl (Nat.le_of_ble_eq_true rfl) dX6_reach_5 ⟨Nat.le_refl _, Nat.le_refl _⟩ ?_
  refine lv_iload_n hx hb dX6_reach_8 rfl (lv_at hl 1 rfl) ?_
  refine lv_iload_n hx hb dX6_reach_9 rfl (lv_at hl 2 rfl) ?_
  refine ro_S (n := 2) ⟨hx, hb, hml, hown, hts⟩ hM hS hP (c_reachOf l D tc zb x q (by omega) (by omega)) gX6_reach_X2_reachOf rfl (by decide +kernel) ⟨Nat.le_of_ble_eq_true rfl, Nat.le_of_ble_eq_true rfl⟩ [] rfl rfl hl.1 rfl (Nat.le_of_ble_eq_true rfl) dX6_reach_10 ⟨Nat.le_refl _, Nat.le_refl _⟩ ?_
  have hf1 := k_rch_le x q
  exact ro_iret hx hb hr hlk dX6_reach_13 (rfl)
set_option maxHeartbeats 4000000 in
set_option maxRecDepth 100000 in
theorem c6_reach_b1 (l : Launch) (hfl : l.stackTraces = false) (D : va_G) (tc : Nat → ClassId) (zb : Nat) (x0 : Nat) (o : Nat → Value) (pp p2 : Int32) (hp : ¬ (nI 0 ≤ pp ∧ pp ≤ nI 1330)) : TH l yX6_reach wsX6_reach 7 102 D tc zb [(x0, .inr (5, [o 0, o 1, o 2, o 3, o 4, o 5, o 6]))] [.ref x0, .int (pp), .int (p2)] "java/lang/IllegalArgumentException" := by
  refine TH.of (cc := cX6_reach) (maxL := 3) (ret := (some .int)) (by decide) rfl (Nat.le_of_ble_eq_true rfl) ?_
  intro p e s m args below meth c hx hb hr hml hlk hts hown hex hM hS hP ls hl
  have hl : lv_has ls 3 [(0, .ref x0), (1, .int (pp)), (2, .int (p2))] := hl
  refine lv_iload_n hx hb dX6_reach_0 rfl (lv_at hl 1 rfl) ?_
  exact th_S (n := 1) ⟨hx, hb, hml, hown, hts⟩ hM hS hP (c6_needQuestion_b l hfl D tc zb ((pp)) (by first | assumption | exact hp.1)) gX6_reach_X6_needQuestion rfl (by decide +kernel) ⟨Nat.le_of_ble_eq_true rfl, Nat.le_of_ble_eq_true rfl⟩ [] rfl rfl hl.1 rfl (Nat.le_of_ble_eq_true rfl) dX6_reach_1 ⟨Nat.le_refl _, Nat.le_refl _⟩ (fun H1 q ce h1 h2 h3 h4 h5 => th_out hex hlk h1 h2 h3 h4 h5)
set_option maxHeartbeats 4000000 in
set_option maxRecDepth 100000 in
theorem c6_reach_b2 (l : Launch) (hfl : l.stackTraces = false) (D : va_G) (tc : Nat → ClassId) (zb : Nat) (x0 : Nat) (o : Nat → Value) (x : Nat) (pp : Int32) (hx9 : x < 1331) (hp : ¬ (nI 0 ≤ pp ∧ pp ≤ nI 5)) : TH l yX6_reach wsX6_reach 7 102 D tc zb [(x0, .inr (5, [o 0, o 1, o 2, o 3, o 4, o 5, o 6]))] [.ref x0, .int (nI x), .int (pp)] "java/lang/IndexOutOfBoundsException" := by
  refine TH.of (cc := cX6_reach) (maxL := 3) (ret := (some .int)) (by decide) rfl (Nat.le_of_ble_eq_true rfl) ?_
  intro p e s m args below meth c hx hb hr hml hlk hts hown hex hM hS hP ls hl
  have hl : lv_has ls 3 [(0, .ref x0), (1, .int (nI x)), (2, .int (pp))] := hl
  refine lv_iload_n hx hb dX6_reach_0 rfl (lv_at hl 1 rfl) ?_
  refine rov_S (n := 1) ⟨hx, hb, hml, hown, hts⟩ hM hS hP (c6_needQuestion l D tc zb x (by omega)) gX6_reach_X6_needQuestion rfl (by decide +kernel) ⟨Nat.le_of_ble_eq_true rfl, Nat.le_of_ble_eq_true rfl⟩ [] rfl rfl hl.1 rfl (Nat.le_of_ble_eq_true rfl) dX6_reach_1 ⟨Nat.zero_le _, Nat.zero_le _⟩ ?_
  refine lv_iload_n hx hb dX6_reach_4 rfl (lv_at hl 2 rfl) ?_
  exact th_S (n := 1) ⟨hx, hb, hml, hown, hts⟩ hM hS hP (c6_needOrder_b l hfl D tc zb ((pp)) (by first | assumption | exact hp.1)) gX6_reach_X6_needOrder rfl (by decide +kernel) ⟨Nat.le_of_ble_eq_true rfl, Nat.le_of_ble_eq_true rfl⟩ [] rfl rfl hl.1 rfl (Nat.le_of_ble_eq_true rfl) dX6_reach_5 ⟨Nat.le_refl _, Nat.le_refl _⟩ (fun H1 q ce h1 h2 h3 h4 h5 => th_out hex hlk h1 h2 h3 h4 h5)
set_option maxHeartbeats 4000000 in
set_option maxRecDepth 100000 in
theorem c6_answer_ok (l : Launch) (D : va_G) (tc : Nat → ClassId) (zb : Nat) (x0 : Nat) (o : Nat → Value) (a a1 a2 : Nat) (tr qs : Nat → Int32) (g : Nat → Nat) (x pl : Nat) (hk : k_ok g) (hR : k_R tr qs g) (hx9 : x < 1331) (hpl : pl < 2 ^ 31) : RO l yX6_answer wsX6_answer 5 117 D tc zb [(x0, .inr (5, [o 0, .ref a, o 2, o 3, o 4, o 5, o 6])), (a, .inr (3, [.ref a1, .int (nI (g 0)), .int (nI (g 41)), .int (nI (g 42)), .int (nI (g 43)), .int (nI (g 44)), .int (nI (g 45)), .ref a2, .int (nI (g 46)), .int (nI (g 59))])), (a1, .inl (tc 0, 40, .inl tr)), (a2, .inl (tc 0, 12, .inl qs))] [.ref x0, .int (nI x), .int (nI pl)] (.int (oI (k_aa g x (k_or g x (g 41) 6) pl (g 0)))) := by
  refine RO.of (cc := cX6_answer) (maxL := 3) (ret := (some .int)) (by decide) rfl (Nat.le_of_ble_eq_true rfl) ?_
  intro p e s m args below meth c hx hb hr hml hlk hts hown hM hS hP ls hl
  have hl : lv_has ls 3 [(0, .ref x0), (1, .int (nI x)), (2, .int (nI pl))] := hl
  have hinX6 : ∀ w ∈ u_ws RX6 TX6 7, w ∈ wsX6_answer := by decide +kernel
  obtain ⟨ok0, ok1, ok2, ok3, ok4, ok5, ok6⟩ := id hk
  refine lv_iload_n hx hb dX6_answer_0 rfl (lv_at hl 1 rfl) ?_
  refine rov_S (n := 1) ⟨hx, hb, hml, hown, hts⟩ hM hS hP (c6_needQuestion l D tc zb x (by omega)) gX6_answer_X6_needQuestion rfl (by decide +kernel) ⟨Nat.le_of_ble_eq_true rfl, Nat.le_of_ble_eq_true rfl⟩ [] rfl rfl hl.1 rfl (Nat.le_of_ble_eq_true rfl) dX6_answer_1 ⟨Nat.le_refl _, Nat.le_refl _⟩ ?_
  refine lv_iload_n hx hb dX6_answer_4 rfl (lv_at hl 2 rfl) ?_
  refine rov_S (n := 1) ⟨hx, hb, hml, hown, hts⟩ hM hS hP (c6_needPlace l D tc zb pl (by omega)) gX6_answer_X6_needPlace rfl (by decide +kernel) ⟨Nat.le_of_ble_eq_true rfl, Nat.le_of_ble_eq_true rfl⟩ [] rfl rfl hl.1 rfl (Nat.le_of_ble_eq_true rfl) dX6_answer_5 ⟨Nat.le_refl _, Nat.le_refl _⟩ ?_
  refine lv_aload_n hx hb dX6_answer_8 rfl (lv_at hl 0 rfl) ?_
  refine va_get (D := D) (ci := 5) (v := .ref a) (C := RX6) (T := TX6) (N := 7) hx hb hts hinX6 hown hM.1 hP 0 rfl rfl 1 (by decide) (hts (.fieldLink RX6 19 "TripleWays" "now" "LTripleWays$State;") (by decide +kernel)) (fun _ h9 => h9) rfl dX6_answer_9 ?_
  refine lv_iload_n hx hb dX6_answer_12 rfl (lv_at hl 1 rfl) ?_
  refine lv_aload_n hx hb dX6_answer_13 rfl (lv_at hl 0 rfl) ?_
  refine va_get (D := D) (ci := 5) (v := .ref a) (C := RX6) (T := TX6) (N := 7) hx hb hts hinX6 hown hM.1 hP 0 rfl rfl 1 (by decide) (hts (.fieldLink RX6 19 "TripleWays" "now" "LTripleWays$State;") (by decide +kernel)) (fun _ h9 => h9) rfl dX6_answer_14 ?_
  refine lv_iload_n hx hb dX6_answer_17 rfl (lv_at hl 1 rfl) ?_
  refine ro_V (C := RX4) (n := 1) ⟨hx, hb, hml, hown, hts⟩ hM hS hP (c_answeringOrder l D tc zb a a1 a2 tr qs g x hk hR (by omega)) gX6_answer_X4_answeringOrder rfl (by decide +kernel) ⟨Nat.le_of_ble_eq_true rfl, Nat.le_of_ble_eq_true rfl⟩ [1, 2, 3] rfl (va_recv hM.1 hP (ci := 3) (q0 := 1) rfl rfl) rfl hl.1 rfl (Nat.le_of_ble_eq_true rfl) dX6_answer_18 ⟨Nat.le_refl _, Nat.le_refl _⟩ ?_
  cases ho18 : k_or g x (g 41) 6 with
  | none =>
    refine ln_eq (x' := -1) rfl ?_
    refine lv_iload_n hx hb dX6_answer_21 rfl (lv_at hl 2 rfl) ?_
    refine ro_V (C := RX4) (n := 3) ⟨hx, hb, hml, hown, hts⟩ hM hS hP (c_answerAtN l D tc zb a a1 a2 tr qs g x pl hk hR (by omega) (by omega)) gX6_answer_X4_answerAt rfl (by decide +kernel) ⟨Nat.le_of_ble_eq_true rfl, Nat.le_of_ble_eq_true rfl⟩ [1, 2, 3] rfl (va_recv hM.1 hP (ci := 3) (q0 := 1) rfl rfl) rfl hl.1 rfl (Nat.le_of_ble_eq_true rfl) dX6_answer_22 ⟨Nat.le_refl _, Nat.le_refl _⟩ ?_
    exact ro_iret hx hb hr hlk dX6_answer_25 (congrArg oI (by rfl))
  | some r18 =>
    refine ln_eq (x' := nI r18) rfl ?_
    have hr9 := (k_or_lt ho18).1
    refine lv_iload_n hx hb dX6_answer_21 rfl (lv_at hl 2 rfl) ?_
    refine ro_V (C := RX4) (n := 3) ⟨hx, hb, hml, hown, hts⟩ hM hS hP (c_answerAt l D tc zb a a1 a2 tr qs g x r18 pl hk hR (by omega) (by omega) (by omega)) gX6_answer_X4_answerAt rfl (by decide +kernel) ⟨Nat.le_of_ble_eq_true rfl, Nat.le_of_ble_eq_true rfl⟩ [1, 2, 3] rfl (va_recv hM.1 hP (ci := 3) (q0 := 1) rfl rfl) rfl hl.1 rfl (Nat.le_of_ble_eq_true rfl) dX6_answer_22 ⟨Nat.le_refl _, Nat.le_refl _⟩ ?_
    exact ro_iret hx hb hr hlk dX6_answer_25 (congrArg oI (by rfl))
set_option maxHeartbeats 4000000 in
set_option maxRecDepth 100000 in
theorem c6_answer_b1 (l : Launch) (hfl : l.stackTraces = false) (D : va_G) (tc : Nat → ClassId) (zb : Nat) (x0 : Nat) (o : Nat → Value) (pp p2 : Int32) (hp : ¬ (nI 0 ≤ pp ∧ pp ≤ nI 1330)) : TH l yX6_answer wsX6_answer 7 102 D tc zb [(x0, .inr (5, [o 0, o 1, o 2, o 3, o 4, o 5, o 6]))] [.ref x0, .int (pp), .int (p2)] "java/lang/IllegalArgumentException" := by
  refine TH.of (cc := cX6_answer) (maxL := 3) (ret := (some .int)) (by decide) rfl (Nat.le_of_ble_eq_true rfl) ?_
  intro p e s m args below meth c hx hb hr hml hlk hts hown hex hM hS hP ls hl
  have hl : lv_has ls 3 [(0, .ref x0), (1, .int (pp)), (2, .int (p2))] := hl
  refine lv_iload_n hx hb dX6_answer_0 rfl (lv_at hl 1 rfl) ?_
  exact th_S (n := 1) ⟨hx, hb, hml, hown, hts⟩ hM hS hP (c6_needQuestion_b l hfl D tc zb ((pp)) (by first | assumption | exact hp.1)) gX6_answer_X6_needQuestion rfl (by decide +kernel) ⟨Nat.le_of_ble_eq_true rfl, Nat.le_of_ble_eq_true rfl⟩ [] rfl rfl hl.1 rfl (Nat.le_of_ble_eq_true rfl) dX6_answer_1 ⟨Nat.le_refl _, Nat.le_refl _⟩ (fun H1 q ce h1 h2 h3 h4 h5 => th_out hex hlk h1 h2 h3 h4 h5)
set_option maxHeartbeats 4000000 in
set_option maxRecDepth 100000 in
theorem c6_answer_b2 (l : Launch) (hfl : l.stackTraces = false) (D : va_G) (tc : Nat → ClassId) (zb : Nat) (x0 : Nat) (o : Nat → Value) (x : Nat) (pl9 : Int32) (hx9 : x < 1331) (hng : pl9 < 0) : TH l yX6_answer wsX6_answer 7 102 D tc zb [(x0, .inr (5, [o 0, o 1, o 2, o 3, o 4, o 5, o 6]))] [.ref x0, .int (nI x), .int (pl9)] "java/lang/IllegalArgumentException" := by
  refine TH.of (cc := cX6_answer) (maxL := 3) (ret := (some .int)) (by decide) rfl (Nat.le_of_ble_eq_true rfl) ?_
  intro p e s m args below meth c hx hb hr hml hlk hts hown hex hM hS hP ls hl
  have hl : lv_has ls 3 [(0, .ref x0), (1, .int (nI x)), (2, .int (pl9))] := hl
  refine lv_iload_n hx hb dX6_answer_0 rfl (lv_at hl 1 rfl) ?_
  refine rov_S (n := 1) ⟨hx, hb, hml, hown, hts⟩ hM hS hP (c6_needQuestion l D tc zb x (by omega)) gX6_answer_X6_needQuestion rfl (by decide +kernel) ⟨Nat.le_of_ble_eq_true rfl, Nat.le_of_ble_eq_true rfl⟩ [] rfl rfl hl.1 rfl (Nat.le_of_ble_eq_true rfl) dX6_answer_1 ⟨Nat.zero_le _, Nat.zero_le _⟩ ?_
  refine lv_iload_n hx hb dX6_answer_4 rfl (lv_at hl 2 rfl) ?_
  exact th_S (n := 1) ⟨hx, hb, hml, hown, hts⟩ hM hS hP (c6_needPlace_b l hfl D tc zb ((pl9)) (by assumption)) gX6_answer_X6_needPlace rfl (by decide +kernel) ⟨Nat.le_of_ble_eq_true rfl, Nat.le_of_ble_eq_true rfl⟩ [] rfl rfl hl.1 rfl (Nat.le_of_ble_eq_true rfl) dX6_answer_5 ⟨Nat.le_refl _, Nat.le_refl _⟩ (fun H1 q ce h1 h2 h3 h4 h5 => th_out hex hlk h1 h2 h3 h4 h5)
set_option maxHeartbeats 4000000 in
set_option maxRecDepth 100000 in
theorem c6_pairs_ok (l : Launch) (D : va_G) (tc : Nat → ClassId) (zb : Nat) (x0 : Nat) (o : Nat → Value) (a a1 a2 : Nat) (tr qs : Nat → Int32) (g : Nat → Nat) (f9 s9 a9 b9 : Nat) (hk : k_ok g) (hR : k_R tr qs g) (hf9 : f9 < 1331) (hs9 : s9 < 1331) (ha9 : a9 < 3) (hb9 : b9 < 3) : RO l yX6_pairs wsX6_pairs 2 47 D tc zb [(x0, .inr (5, [o 0, .ref a, o 2, o 3, o 4, o 5, o 6])), (a, .inr (3, [.ref a1, .int (nI (g 0)), .int (nI (g 41)), .int (nI (g 42)), .int (nI (g 43)), .int (nI (g 44)), .int (nI (g 45)), .ref a2, .int (nI (g 46)), .int (nI (g 59))])), (a1, .inl (tc 0, 40, .inl tr)), (a2, .inl (tc 0, 12, .inl qs))] [.ref x0, .int (nI f9), .int (nI s9), .int (nI a9), .int (nI b9)] (.int (nI (k_prs g f9 s9 a9 b9 (g 0)))) := by
  refine RO.of (cc := cX6_pairs) (maxL := 8) (ret := (some .int)) (by decide) rfl (Nat.le_of_ble_eq_true rfl) ?_
  intro p e s m args below meth c hx hb hr hml hlk hts hown hM hS hP ls hl
  have hl : lv_has ls 8 [(0, .ref x0), (1, .int (nI f9)), (2, .int (nI s9)), (3, .int (nI a9)), (4, .int (nI b9))] := hl
  have hinX6 : ∀ w ∈ u_ws RX6 TX6 7, w ∈ wsX6_pairs := by decide +kernel
  obtain ⟨ok0, ok1, ok2, ok3, ok4, ok5, ok6⟩ := id hk
  refine lv_iload_n hx hb dX6_pairs_0 rfl (lv_at hl 1 rfl) ?_
  refine lv_iload_n hx hb dX6_pairs_1 rfl (lv_at hl 2 rfl) ?_
  refine lv_iload_n hx hb dX6_pairs_2 rfl (lv_at hl 3 rfl) ?_
  refine lv_iload hx hb dX6_pairs_3 (lv_at hl 4 rfl) ?_
  refine rov_S (n := 4) ⟨hx, hb, hml, hown, hts⟩ hM hS hP (c6_needJoin l D tc zb f9 s9 a9 b9 (by omega) (by omega) (by omega) (by omega)) gX6_pairs_X6_needJoin rfl (by decide +kernel) ⟨Nat.le_of_ble_eq_true rfl, Nat.le_of_ble_eq_true rfl⟩ [] rfl rfl hl.1 rfl (Nat.le_of_ble_eq_true rfl) dX6_pairs_5 ⟨Nat.le_refl _, Nat.le_refl _⟩ ?_
  refine lv_iconst (v := (nI 0)) hx hb dX6_pairs_8 (by decide) ?_
  refine lv_istore (lv' := [(5, .int (nI 0)), (0, .ref x0), (1, .int (nI f9)), (2, .int (nI s9)), (3, .int (nI a9)), (4, .int (nI b9))]) hx hb dX6_pairs_9 hl (by decide) rfl (fun ls hl => ?_)
  refine lv_iconst (v := (nI 0)) hx hb dX6_pairs_11 (by decide) ?_
  refine lv_istore (lv' := [(6, .int (nI 0)), (5, .int (nI 0)), (0, .ref x0), (1, .int (nI f9)), (2, .int (nI s9)), (3, .int (nI a9)), (4, .int (nI b9))]) hx hb dX6_pairs_12 hl (by decide) rfl (fun ls hl => ?_)
  have lp14 : ∀ (n9 : Nat) (sm : Nat) (dd : Nat), (10 - dd) < n9 → (dd ≤ 10) → (sm = k_sd (fun d => k_oc g (k_bt f9 a9 d)) (fun d => k_oc g (k_bt s9 b9 d)) dd) → ∀ ls : Array Slot, lv_has ls 8 [(6, .int (nI dd)), (5, .int (nI sm)), (0, .ref x0), (1, .int (nI f9)), (2, .int (nI s9)), (3, .int (nI a9)), (4, .int (nI b9))] → W p l e ({ frames := 2, cells := 0, slots := 0, locals := 47 } : Room) s m args below meth c s.heap [] 0 0 (MQ below (roQ (.int (nI (k_prs g f9 s9 a9 b9 (g 0))))) args s 0 0 (fun _ => False)) (F0 m 14 ls []) := by
    intro n9
    induction n9 with
    | zero => intro sm dd hmu; exact absurd hmu (Nat.not_lt_zero _)
    | succ n9 ih14 =>
      intro sm dd hmu hd hs ls hl
      refine lv_iload hx hb dX6_pairs_14 (lv_at hl 0 rfl) ?_
      refine lv_bipush (v := (nI 10)) hx hb dX6_pairs_16 (by decide) ?_
      refine ln_icmp_ge (tgt := 66) hx hb dX6_pairs_18 (by decide) (by omega) (by decide) (fun h1 => ?_) (fun h1 => ?_)
      · refine lv_iload hx hb dX6_pairs_66 (lv_at hl 1 rfl) ?_
        exact ro_iret hx hb hr hlk dX6_pairs_68 (congrArg nI (by (have e9 : dd = 10 := by omega); subst e9; rw [hs]; exact k_prs_sd hk hf9 ha9))
      · refine lv_aload_n hx hb dX6_pairs_21 rfl (lv_at hl 2 rfl) ?_
        refine va_get (D := D) (ci := 5) (v := .ref a) (C := RX6) (T := TX6) (N := 7) hx hb hts hinX6 hown hM.1 hP 0 rfl rfl 1 (by decide) (hts (.fieldLink RX6 19 "TripleWays" "now" "LTripleWays$State;") (by decide +kernel)) (fun _ h9 => h9) rfl dX6_pairs_22 ?_
        refine lv_iload_n hx hb dX6_pairs_25 rfl (lv_at hl 3 rfl) ?_
        refine lv_iload_n hx hb dX6_pairs_26 rfl (lv_at hl 5 rfl) ?_
        refine lv_iload hx hb dX6_pairs_27 (lv_at hl 0 rfl) ?_
        refine ro_S (n := 3) ⟨hx, hb, hml, hown, hts⟩ hM hS hP (c_boundTo l D tc zb f9 a9 dd (by omega) (by first | omega | exact byf_lt _) (by omega)) gX6_pairs_X2_boundTo rfl (by decide +kernel) ⟨Nat.le_of_ble_eq_true rfl, Nat.le_of_ble_eq_true rfl⟩ [] rfl rfl hl.1 rfl (Nat.le_of_ble_eq_true rfl) dX6_pairs_29 ⟨Nat.le_refl _, Nat.le_refl _⟩ ?_
        cases ho29 : k_bt f9 a9 dd with
        | none =>
          refine ln_eq (x' := -1) rfl ?_
          refine ro_V (C := RX4) (n := 1) ⟨hx, hb, hml, hown, hts⟩ hM hS hP (c_countAnswersN l D tc zb a a1 a2 tr qs g hk hR) gX6_pairs_X4_countAnswers rfl (by decide +kernel) ⟨Nat.le_of_ble_eq_true rfl, Nat.le_of_ble_eq_true rfl⟩ [1, 2, 3] rfl (va_recv hM.1 hP (ci := 3) (q0 := 1) rfl rfl) rfl hl.1 rfl (Nat.le_of_ble_eq_true rfl) dX6_pairs_32 ⟨Nat.le_refl _, Nat.le_refl _⟩ ?_
          refine lv_istore (lv' := [(7, .int (nI 0)), (6, .int (nI dd)), (5, .int (nI sm)), (0, .ref x0), (1, .int (nI f9)), (2, .int (nI s9)), (3, .int (nI a9)), (4, .int (nI b9))]) hx hb dX6_pairs_35 hl (by decide) rfl (fun ls hl => ?_)
          refine lv_iload hx hb dX6_pairs_37 (lv_at hl 2 rfl) ?_
          refine lv_iload hx hb dX6_pairs_39 (lv_at hl 0 rfl) ?_
          refine lv_aload_n hx hb dX6_pairs_41 rfl (lv_at hl 3 rfl) ?_
          refine va_get (D := D) (ci := 5) (v := .ref a) (C := RX6) (T := TX6) (N := 7) hx hb hts hinX6 hown hM.1 hP 0 rfl rfl 1 (by decide) (hts (.fieldLink RX6 19 "TripleWays" "now" "LTripleWays$State;") (by decide +kernel)) (fun _ h9 => h9) rfl dX6_pairs_42 ?_
          refine lv_iload_n hx hb dX6_pairs_45 rfl (lv_at hl 5 rfl) ?_
          refine lv_iload hx hb dX6_pairs_46 (lv_at hl 7 rfl) ?_
          refine lv_iload hx hb dX6_pairs_48 (lv_at hl 1 rfl) ?_
          refine ro_S (n := 3) ⟨hx, hb, hml, hown, hts⟩ hM hS hP (c_boundTo l D tc zb s9 b9 dd (by omega) (by first | omega | exact byf_lt _) (by omega)) gX6_pairs_X2_boundTo rfl (by decide +kernel) ⟨Nat.le_of_ble_eq_true rfl, Nat.le_of_ble_eq_true rfl⟩ [] rfl rfl hl.1 rfl (Nat.le_of_ble_eq_true rfl) dX6_pairs_50 ⟨Nat.le_refl _, Nat.le_refl _⟩ ?_
          cases ho50 : k_bt s9 b9 dd with
          | none =>
            refine ln_eq (x' := -1) rfl ?_
            refine ro_V (C := RX4) (n := 1) ⟨hx, hb, hml, hown, hts⟩ hM hS hP (c_countAnswersN l D tc zb a a1 a2 tr qs g hk hR) gX6_pairs_X4_countAnswers rfl (by decide +kernel) ⟨Nat.le_of_ble_eq_true rfl, Nat.le_of_ble_eq_true rfl⟩ [1, 2, 3] rfl (va_recv hM.1 hP (ci := 3) (q0 := 1) rfl rfl) rfl hl.1 rfl (Nat.le_of_ble_eq_true rfl) dX6_pairs_53 ⟨Nat.le_refl _, Nat.le_refl _⟩ ?_
            refine lv_imul hx hb dX6_pairs_56 ?_
            refine ln_eq (x' := (nI 0)) (by decide) ?_
            refine ln_iadd hx hb dX6_pairs_57 ?_
            refine lv_istore (lv' := [(5, .int (nI (sm + 0))), (7, .int (nI 0)), (6, .int (nI dd)), (0, .ref x0), (1, .int (nI f9)), (2, .int (nI s9)), (3, .int (nI a9)), (4, .int (nI b9))]) hx hb dX6_pairs_58 hl (by decide) rfl (fun ls hl => ?_)
            refine lv_iinc (v := (nI (dd + 1))) (lv' := [(6, .int (nI (dd + 1))), (5, .int (nI (sm + 0))), (7, .int (nI 0)), (0, .ref x0), (1, .int (nI f9)), (2, .int (nI s9)), (3, .int (nI a9)), (4, .int (nI b9))]) hx hb dX6_pairs_60 hl (k := 2) rfl (nI_add dd 1) (by decide) rfl (fun ls hl => ?_)
            refine lv_goto (tgt := 14) hx hb dX6_pairs_63 (by decide) ?_
            exact ih14 (sm + 0) (dd + 1) (by omega) (by omega) (by rw [hs, k_sd]; simp only [ho29, ho50, k_oc]) _ (lv_sub hl [0, 1, 3, 4, 5, 6, 7] rfl)
          | some r50 =>
            refine ln_eq (x' := nI r50) rfl ?_
            have hbtho50 := k_bt_lt (by omega) ho50
            refine ro_V (C := RX4) (n := 1) ⟨hx, hb, hml, hown, hts⟩ hM hS hP (c_countAnswers l D tc zb a a1 a2 tr qs g r50 hk hR (by omega)) gX6_pairs_X4_countAnswers rfl (by decide +kernel) ⟨Nat.le_of_ble_eq_true rfl, Nat.le_of_ble_eq_true rfl⟩ [1, 2, 3] rfl (va_recv hM.1 hP (ci := 3) (q0 := 1) rfl rfl) rfl hl.1 rfl (Nat.le_of_ble_eq_true rfl) dX6_pairs_53 ⟨Nat.le_refl _, Nat.le_refl _⟩ ?_
            have hf2 := k_cnt_le g r50
            refine ln_imul hx hb dX6_pairs_56 ?_
            refine ln_iadd hx hb dX6_pairs_57 ?_
            refine lv_istore (lv' := [(5, .int (nI (sm + (0 * (k_cnt g r50))))), (7, .int (nI 0)), (6, .int (nI dd)), (0, .ref x0), (1, .int (nI f9)), (2, .int (nI s9)), (3, .int (nI a9)), (4, .int (nI b9))]) hx hb dX6_pairs_58 hl (by decide) rfl (fun ls hl => ?_)
            refine lv_iinc (v := (nI (dd + 1))) (lv' := [(6, .int (nI (dd + 1))), (5, .int (nI (sm + (0 * (k_cnt g r50))))), (7, .int (nI 0)), (0, .ref x0), (1, .int (nI f9)), (2, .int (nI s9)), (3, .int (nI a9)), (4, .int (nI b9))]) hx hb dX6_pairs_60 hl (k := 2) rfl (nI_add dd 1) (by decide) rfl (fun ls hl => ?_)
            refine lv_goto (tgt := 14) hx hb dX6_pairs_63 (by decide) ?_
            exact ih14 (sm + (0 * (k_cnt g r50))) (dd + 1) (by omega) (by omega) (by rw [hs, k_sd]; simp only [ho29, ho50, k_oc]) _ (lv_sub hl [0, 1, 3, 4, 5, 6, 7] rfl)
        | some r29 =>
          refine ln_eq (x' := nI r29) rfl ?_
          have hbtho29 := k_bt_lt (by omega) ho29
          refine ro_V (C := RX4) (n := 1) ⟨hx, hb, hml, hown, hts⟩ hM hS hP (c_countAnswers l D tc zb a a1 a2 tr qs g r29 hk hR (by omega)) gX6_pairs_X4_countAnswers rfl (by decide +kernel) ⟨Nat.le_of_ble_eq_true rfl, Nat.le_of_ble_eq_true rfl⟩ [1, 2, 3] rfl (va_recv hM.1 hP (ci := 3) (q0 := 1) rfl rfl) rfl hl.1 rfl (Nat.le_of_ble_eq_true rfl) dX6_pairs_32 ⟨Nat.le_refl _, Nat.le_refl _⟩ ?_
          have hf3 := k_cnt_le g r29
          refine lv_istore (lv' := [(7, .int (nI (k_cnt g r29))), (6, .int (nI dd)), (5, .int (nI sm)), (0, .ref x0), (1, .int (nI f9)), (2, .int (nI s9)), (3, .int (nI a9)), (4, .int (nI b9))]) hx hb dX6_pairs_35 hl (by decide) rfl (fun ls hl => ?_)
          refine lv_iload hx hb dX6_pairs_37 (lv_at hl 2 rfl) ?_
          refine lv_iload hx hb dX6_pairs_39 (lv_at hl 0 rfl) ?_
          refine lv_aload_n hx hb dX6_pairs_41 rfl (lv_at hl 3 rfl) ?_
          refine va_get (D := D) (ci := 5) (v := .ref a) (C := RX6) (T := TX6) (N := 7) hx hb hts hinX6 hown hM.1 hP 0 rfl rfl 1 (by decide) (hts (.fieldLink RX6 19 "TripleWays" "now" "LTripleWays$State;") (by decide +kernel)) (fun _ h9 => h9) rfl dX6_pairs_42 ?_
          refine lv_iload_n hx hb dX6_pairs_45 rfl (lv_at hl 5 rfl) ?_
          refine lv_iload hx hb dX6_pairs_46 (lv_at hl 7 rfl) ?_
          refine lv_iload hx hb dX6_pairs_48 (lv_at hl 1 rfl) ?_
          refine ro_S (n := 3) ⟨hx, hb, hml, hown, hts⟩ hM hS hP (c_boundTo l D tc zb s9 b9 dd (by omega) (by first | omega | exact byf_lt _) (by omega)) gX6_pairs_X2_boundTo rfl (by decide +kernel) ⟨Nat.le_of_ble_eq_true rfl, Nat.le_of_ble_eq_true rfl⟩ [] rfl rfl hl.1 rfl (Nat.le_of_ble_eq_true rfl) dX6_pairs_50 ⟨Nat.le_refl _, Nat.le_refl _⟩ ?_
          cases ho50 : k_bt s9 b9 dd with
          | none =>
            refine ln_eq (x' := -1) rfl ?_
            refine ro_V (C := RX4) (n := 1) ⟨hx, hb, hml, hown, hts⟩ hM hS hP (c_countAnswersN l D tc zb a a1 a2 tr qs g hk hR) gX6_pairs_X4_countAnswers rfl (by decide +kernel) ⟨Nat.le_of_ble_eq_true rfl, Nat.le_of_ble_eq_true rfl⟩ [1, 2, 3] rfl (va_recv hM.1 hP (ci := 3) (q0 := 1) rfl rfl) rfl hl.1 rfl (Nat.le_of_ble_eq_true rfl) dX6_pairs_53 ⟨Nat.le_refl _, Nat.le_refl _⟩ ?_
            refine ln_imul hx hb dX6_pairs_56 ?_
            refine ln_iadd hx hb dX6_pairs_57 ?_
            refine lv_istore (lv' := [(5, .int (nI (sm + ((k_cnt g r29) * 0)))), (7, .int (nI (k_cnt g r29))), (6, .int (nI dd)), (0, .ref x0), (1, .int (nI f9)), (2, .int (nI s9)), (3, .int (nI a9)), (4, .int (nI b9))]) hx hb dX6_pairs_58 hl (by decide) rfl (fun ls hl => ?_)
            refine lv_iinc (v := (nI (dd + 1))) (lv' := [(6, .int (nI (dd + 1))), (5, .int (nI (sm + ((k_cnt g r29) * 0)))), (7, .int (nI (k_cnt g r29))), (0, .ref x0), (1, .int (nI f9)), (2, .int (nI s9)), (3, .int (nI a9)), (4, .int (nI b9))]) hx hb dX6_pairs_60 hl (k := 2) rfl (nI_add dd 1) (by decide) rfl (fun ls hl => ?_)
            refine lv_goto (tgt := 14) hx hb dX6_pairs_63 (by decide) ?_
            exact ih14 (sm + ((k_cnt g r29) * 0)) (dd + 1) (by omega) (by omega) (by rw [hs, k_sd]; simp only [ho29, ho50, k_oc]) _ (lv_sub hl [0, 1, 3, 4, 5, 6, 7] rfl)
          | some r50 =>
            refine ln_eq (x' := nI r50) rfl ?_
            have hbtho50 := k_bt_lt (by omega) ho50
            refine ro_V (C := RX4) (n := 1) ⟨hx, hb, hml, hown, hts⟩ hM hS hP (c_countAnswers l D tc zb a a1 a2 tr qs g r50 hk hR (by omega)) gX6_pairs_X4_countAnswers rfl (by decide +kernel) ⟨Nat.le_of_ble_eq_true rfl, Nat.le_of_ble_eq_true rfl⟩ [1, 2, 3] rfl (va_recv hM.1 hP (ci := 3) (q0 := 1) rfl rfl) rfl hl.1 rfl (Nat.le_of_ble_eq_true rfl) dX6_pairs_53 ⟨Nat.le_refl _, Nat.le_refl _⟩ ?_
            have hf4 := k_cnt_le g r50
            refine ln_imul hx hb dX6_pairs_56 ?_
            refine ln_iadd hx hb dX6_pairs_57 ?_
            refine lv_istore (lv' := [(5, .int (nI (sm + ((k_cnt g r29) * (k_cnt g r50))))), (7, .int (nI (k_cnt g r29))), (6, .int (nI dd)), (0, .ref x0), (1, .int (nI f9)), (2, .int (nI s9)), (3, .int (nI a9)), (4, .int (nI b9))]) hx hb dX6_pairs_58 hl (by decide) rfl (fun ls hl => ?_)
            refine lv_iinc (v := (nI (dd + 1))) (lv' := [(6, .int (nI (dd + 1))), (5, .int (nI (sm + ((k_cnt g r29) * (k_cnt g r50))))), (7, .int (nI (k_cnt g r29))), (0, .ref x0), (1, .int (nI f9)), (2, .int (nI s9)), (3, .int (nI a9)), (4, .int (nI b9))]) hx hb dX6_pairs_60 hl (k := 2) rfl (nI_add dd 1) (by decide) rfl (fun ls hl => ?_)
            refine lv_goto (tgt := 14) hx hb dX6_pairs_63 (by decide) ?_
            exact ih14 (sm + ((k_cnt g r29) * (k_cnt g r50))) (dd + 1) (by omega) (by omega) (by rw [hs, k_sd]; simp only [ho29, ho50, k_oc]) _ (lv_sub hl [0, 1, 3, 4, 5, 6, 7] rfl)
  exact lp14 _ 0 0 (Nat.lt_succ_self _) (by omega) (by rfl) _ (lv_sub hl [0, 1, 2, 3, 4, 5, 6] rfl)
set_option maxHeartbeats 4000000 in
set_option maxRecDepth 100000 in
theorem c6_lookingUp (l : Launch) (D : va_G) (tc : Nat → ClassId) (zb : Nat) (x0 : Nat) (o : Nat → Value) (a a1 a2 : Nat) (tr qs : Nat → Int32) (g : Nat → Nat) (f9 s9 a9 b9 : Nat) (hk : k_ok g) (hR : k_R tr qs g) (hf9 : f9 < 1331) (hs9 : s9 < 1331) (ha9 : a9 < 3) (hb9 : b9 < 3) : RO l yX6_lookingUpCost wsX6_lookingUpCost 4 93 D tc zb [(x0, .inr (5, [o 0, .ref a, o 2, o 3, o 4, o 5, o 6])), (a, .inr (3, [.ref a1, .int (nI (g 0)), .int (nI (g 41)), .int (nI (g 42)), .int (nI (g 43)), .int (nI (g 44)), .int (nI (g 45)), .ref a2, .int (nI (g 46)), .int (nI (g 59))])), (a1, .inl (tc 0, 40, .inl tr)), (a2, .inl (tc 0, 12, .inl qs))] [.ref x0, .int (nI f9), .int (nI s9), .int (nI a9), .int (nI b9)] (.int (nI (k_jcs g f9 s9 a9 b9 (g 0)))) := by
  refine RO.of (cc := cX6_lookingUpCost) (maxL := 9) (ret := (some .int)) (by decide) rfl (Nat.le_of_ble_eq_true rfl) ?_
  intro p e s m args below meth c hx hb hr hml hlk hts hown hM hS hP ls hl
  have hl : lv_has ls 9 [(0, .ref x0), (1, .int (nI f9)), (2, .int (nI s9)), (3, .int (nI a9)), (4, .int (nI b9))] := hl
  have hinX6 : ∀ w ∈ u_ws RX6 TX6 7, w ∈ wsX6_lookingUpCost := by decide +kernel
  obtain ⟨ok0, ok1, ok2, ok3, ok4, ok5, ok6⟩ := id hk
  refine lv_aload_n hx hb dX6_lookingUpCost_0 rfl (lv_at hl 0 rfl) ?_
  refine va_get (D := D) (ci := 5) (v := .ref a) (C := RX6) (T := TX6) (N := 7) hx hb hts hinX6 hown hM.1 hP 0 rfl rfl 1 (by decide) (hts (.fieldLink RX6 19 "TripleWays" "now" "LTripleWays$State;") (by decide +kernel)) (fun _ h9 => h9) rfl dX6_lookingUpCost_1 ?_
  refine lv_iload_n hx hb dX6_lookingUpCost_4 rfl (lv_at hl 1 rfl) ?_
  refine ro_V (C := RX4) (n := 1) ⟨hx, hb, hml, hown, hts⟩ hM hS hP (c_costNow l D tc zb a a1 a2 tr qs g f9 hk hR (by omega)) gX6_lookingUpCost_X4_costNow rfl (by decide +kernel) ⟨Nat.le_of_ble_eq_true rfl, Nat.le_of_ble_eq_true rfl⟩ [1, 2, 3] rfl (va_recv hM.1 hP (ci := 3) (q0 := 1) rfl rfl) rfl hl.1 rfl (Nat.le_of_ble_eq_true rfl) dX6_lookingUpCost_5 ⟨Nat.le_refl _, Nat.le_refl _⟩ ?_
  have hf1 := k_mn_le g f9 (g 41) 6
  refine lv_istore (lv' := [(5, .int (nI (k_mn g f9 (g 41) 6))), (0, .ref x0), (1, .int (nI f9)), (2, .int (nI s9)), (3, .int (nI a9)), (4, .int (nI b9))]) hx hb dX6_lookingUpCost_8 hl (by decide) rfl (fun ls hl => ?_)
  refine lv_iconst (v := (nI 0)) hx hb dX6_lookingUpCost_10 (by decide) ?_
  refine lv_istore (lv' := [(6, .int (nI 0)), (5, .int (nI (k_mn g f9 (g 41) 6))), (0, .ref x0), (1, .int (nI f9)), (2, .int (nI s9)), (3, .int (nI a9)), (4, .int (nI b9))]) hx hb dX6_lookingUpCost_11 hl (by decide) rfl (fun ls hl => ?_)
  have lp13 : ∀ (n9 : Nat) (sm : Nat) (dd : Nat), (10 - dd) < n9 → (dd ≤ 10) → (sm = k_mn g f9 (g 41) 6 + k_sd (fun d => k_oc g (k_bt f9 a9 d)) (fun d => k_om g (k_bt s9 b9 d)) dd) → ∀ ls : Array Slot, lv_has ls 9 [(6, .int (nI dd)), (5, .int (nI sm)), (0, .ref x0), (1, .int (nI f9)), (2, .int (nI s9)), (3, .int (nI a9)), (4, .int (nI b9))] → W p l e ({ frames := 4, cells := 0, slots := 0, locals := 93 } : Room) s m args below meth c s.heap [] 0 0 (MQ below (roQ (.int (nI (k_jcs g f9 s9 a9 b9 (g 0))))) args s 0 0 (fun _ => False)) (F0 m 13 ls []) := by
    intro n9
    induction n9 with
    | zero => intro sm dd hmu; exact absurd hmu (Nat.not_lt_zero _)
    | succ n9 ih13 =>
      intro sm dd hmu hd hs ls hl
      refine lv_iload hx hb dX6_lookingUpCost_13 (lv_at hl 0 rfl) ?_
      refine lv_bipush (v := (nI 10)) hx hb dX6_lookingUpCost_15 (by decide) ?_
      refine ln_icmp_ge (tgt := 80) hx hb dX6_lookingUpCost_17 (by decide) (by omega) (by decide) (fun h2 => ?_) (fun h2 => ?_)
      · refine lv_iload hx hb dX6_lookingUpCost_80 (lv_at hl 1 rfl) ?_
        exact ro_iret hx hb hr hlk dX6_lookingUpCost_82 (congrArg nI (by (have e9 : dd = 10 := by omega); subst e9; rw [hs]; exact k_jcs_sd hk hf9 ha9))
      · refine lv_aload_n hx hb dX6_lookingUpCost_20 rfl (lv_at hl 2 rfl) ?_
        refine va_get (D := D) (ci := 5) (v := .ref a) (C := RX6) (T := TX6) (N := 7) hx hb hts hinX6 hown hM.1 hP 0 rfl rfl 1 (by decide) (hts (.fieldLink RX6 19 "TripleWays" "now" "LTripleWays$State;") (by decide +kernel)) (fun _ h9 => h9) rfl dX6_lookingUpCost_21 ?_
        refine lv_iload_n hx hb dX6_lookingUpCost_24 rfl (lv_at hl 3 rfl) ?_
        refine lv_iload_n hx hb dX6_lookingUpCost_25 rfl (lv_at hl 5 rfl) ?_
        refine lv_iload hx hb dX6_lookingUpCost_26 (lv_at hl 0 rfl) ?_
        refine ro_S (n := 3) ⟨hx, hb, hml, hown, hts⟩ hM hS hP (c_boundTo l D tc zb f9 a9 dd (by omega) (by first | omega | exact byf_lt _) (by omega)) gX6_lookingUpCost_X2_boundTo rfl (by decide +kernel) ⟨Nat.le_of_ble_eq_true rfl, Nat.le_of_ble_eq_true rfl⟩ [] rfl rfl hl.1 rfl (Nat.le_of_ble_eq_true rfl) dX6_lookingUpCost_28 ⟨Nat.le_refl _, Nat.le_refl _⟩ ?_
        cases ho28 : k_bt f9 a9 dd with
        | none =>
          refine ln_eq (x' := -1) rfl ?_
          refine ro_V (C := RX4) (n := 1) ⟨hx, hb, hml, hown, hts⟩ hM hS hP (c_countAnswersN l D tc zb a a1 a2 tr qs g hk hR) gX6_lookingUpCost_X4_countAnswers rfl (by decide +kernel) ⟨Nat.le_of_ble_eq_true rfl, Nat.le_of_ble_eq_true rfl⟩ [1, 2, 3] rfl (va_recv hM.1 hP (ci := 3) (q0 := 1) rfl rfl) rfl hl.1 rfl (Nat.le_of_ble_eq_true rfl) dX6_lookingUpCost_31 ⟨Nat.le_refl _, Nat.le_refl _⟩ ?_
          refine lv_istore (lv' := [(7, .int (nI 0)), (6, .int (nI dd)), (5, .int (nI sm)), (0, .ref x0), (1, .int (nI f9)), (2, .int (nI s9)), (3, .int (nI a9)), (4, .int (nI b9))]) hx hb dX6_lookingUpCost_34 hl (by decide) rfl (fun ls hl => ?_)
          refine lv_iload_n hx hb dX6_lookingUpCost_36 rfl (lv_at hl 5 rfl) ?_
          refine lv_iload hx hb dX6_lookingUpCost_37 (lv_at hl 7 rfl) ?_
          refine lv_iload hx hb dX6_lookingUpCost_39 (lv_at hl 1 rfl) ?_
          refine ro_S (n := 3) ⟨hx, hb, hml, hown, hts⟩ hM hS hP (c_boundTo l D tc zb s9 b9 dd (by omega) (by first | omega | exact byf_lt _) (by omega)) gX6_lookingUpCost_X2_boundTo rfl (by decide +kernel) ⟨Nat.le_of_ble_eq_true rfl, Nat.le_of_ble_eq_true rfl⟩ [] rfl rfl hl.1 rfl (Nat.le_of_ble_eq_true rfl) dX6_lookingUpCost_41 ⟨Nat.le_refl _, Nat.le_refl _⟩ ?_
          cases ho41 : k_bt s9 b9 dd with
          | none =>
            refine ln_eq (x' := -1) rfl ?_
            refine lv_istore (lv' := [(8, .int (-1)), (7, .int (nI 0)), (6, .int (nI dd)), (5, .int (nI sm)), (0, .ref x0), (1, .int (nI f9)), (2, .int (nI s9)), (3, .int (nI a9)), (4, .int (nI b9))]) hx hb dX6_lookingUpCost_44 hl (by decide) rfl (fun ls hl => ?_)
            refine lv_iload hx hb dX6_lookingUpCost_46 (lv_at hl 1 rfl) ?_
            refine lv_if_le (tgt := 74) hx hb dX6_lookingUpCost_48 (by decide) (fun _ => ?_) (fun h9 => False.elim (by revert h9; decide))
            refine lv_iinc (v := (nI (dd + 1))) (lv' := [(6, .int (nI (dd + 1))), (8, .int (-1)), (7, .int (nI 0)), (5, .int (nI sm)), (0, .ref x0), (1, .int (nI f9)), (2, .int (nI s9)), (3, .int (nI a9)), (4, .int (nI b9))]) hx hb dX6_lookingUpCost_74 hl (k := 2) rfl (nI_add dd 1) (by decide) rfl (fun ls hl => ?_)
            refine lv_goto (tgt := 13) hx hb dX6_lookingUpCost_77 (by decide) ?_
            exact ih13 sm (dd + 1) (by omega) (by omega) (by rw [hs, k_sd]; simp only [ho28, ho41, k_oc, k_om, Nat.zero_mul, Nat.mul_zero, Nat.add_zero] <;> first | omega | (rw [show k_cnt g r28 = 0 by omega, Nat.zero_mul, Nat.add_zero])) _ (lv_sub hl [0, 3, 4, 5, 6, 7, 8] rfl)
          | some r41 =>
            refine ln_eq (x' := nI r41) rfl ?_
            have hbtho41 := k_bt_lt (by omega) ho41
            refine lv_istore (lv' := [(8, .int (nI r41)), (7, .int (nI 0)), (6, .int (nI dd)), (5, .int (nI sm)), (0, .ref x0), (1, .int (nI f9)), (2, .int (nI s9)), (3, .int (nI a9)), (4, .int (nI b9))]) hx hb dX6_lookingUpCost_44 hl (by decide) rfl (fun ls hl => ?_)
            refine lv_iload hx hb dX6_lookingUpCost_46 (lv_at hl 1 rfl) ?_
            refine lv_if_le (tgt := 74) hx hb dX6_lookingUpCost_48 (by decide) (fun _ => ?_) (fun h9 => False.elim (by revert h9; decide))
            refine lv_iinc (v := (nI (dd + 1))) (lv' := [(6, .int (nI (dd + 1))), (8, .int (nI r41)), (7, .int (nI 0)), (5, .int (nI sm)), (0, .ref x0), (1, .int (nI f9)), (2, .int (nI s9)), (3, .int (nI a9)), (4, .int (nI b9))]) hx hb dX6_lookingUpCost_74 hl (k := 2) rfl (nI_add dd 1) (by decide) rfl (fun ls hl => ?_)
            refine lv_goto (tgt := 13) hx hb dX6_lookingUpCost_77 (by decide) ?_
            exact ih13 sm (dd + 1) (by omega) (by omega) (by rw [hs, k_sd]; simp only [ho28, ho41, k_oc, k_om, Nat.zero_mul, Nat.mul_zero, Nat.add_zero] <;> first | omega | (rw [show k_cnt g r28 = 0 by omega, Nat.zero_mul, Nat.add_zero])) _ (lv_sub hl [0, 3, 4, 5, 6, 7, 8] rfl)
        | some r28 =>
          refine ln_eq (x' := nI r28) rfl ?_
          have hbtho28 := k_bt_lt (by omega) ho28
          refine ro_V (C := RX4) (n := 1) ⟨hx, hb, hml, hown, hts⟩ hM hS hP (c_countAnswers l D tc zb a a1 a2 tr qs g r28 hk hR (by omega)) gX6_lookingUpCost_X4_countAnswers rfl (by decide +kernel) ⟨Nat.le_of_ble_eq_true rfl, Nat.le_of_ble_eq_true rfl⟩ [1, 2, 3] rfl (va_recv hM.1 hP (ci := 3) (q0 := 1) rfl rfl) rfl hl.1 rfl (Nat.le_of_ble_eq_true rfl) dX6_lookingUpCost_31 ⟨Nat.le_refl _, Nat.le_refl _⟩ ?_
          have hf3 := k_cnt_le g r28
          refine lv_istore (lv' := [(7, .int (nI (k_cnt g r28))), (6, .int (nI dd)), (5, .int (nI sm)), (0, .ref x0), (1, .int (nI f9)), (2, .int (nI s9)), (3, .int (nI a9)), (4, .int (nI b9))]) hx hb dX6_lookingUpCost_34 hl (by decide) rfl (fun ls hl => ?_)
          refine lv_iload_n hx hb dX6_lookingUpCost_36 rfl (lv_at hl 5 rfl) ?_
          refine lv_iload hx hb dX6_lookingUpCost_37 (lv_at hl 7 rfl) ?_
          refine lv_iload hx hb dX6_lookingUpCost_39 (lv_at hl 1 rfl) ?_
          refine ro_S (n := 3) ⟨hx, hb, hml, hown, hts⟩ hM hS hP (c_boundTo l D tc zb s9 b9 dd (by omega) (by first | omega | exact byf_lt _) (by omega)) gX6_lookingUpCost_X2_boundTo rfl (by decide +kernel) ⟨Nat.le_of_ble_eq_true rfl, Nat.le_of_ble_eq_true rfl⟩ [] rfl rfl hl.1 rfl (Nat.le_of_ble_eq_true rfl) dX6_lookingUpCost_41 ⟨Nat.le_refl _, Nat.le_refl _⟩ ?_
          cases ho41 : k_bt s9 b9 dd with
          | none =>
            refine ln_eq (x' := -1) rfl ?_
            refine lv_istore (lv' := [(8, .int (-1)), (7, .int (nI (k_cnt g r28))), (6, .int (nI dd)), (5, .int (nI sm)), (0, .ref x0), (1, .int (nI f9)), (2, .int (nI s9)), (3, .int (nI a9)), (4, .int (nI b9))]) hx hb dX6_lookingUpCost_44 hl (by decide) rfl (fun ls hl => ?_)
            refine lv_iload hx hb dX6_lookingUpCost_46 (lv_at hl 1 rfl) ?_
            refine ln_if_le (tgt := 74) hx hb dX6_lookingUpCost_48 (by decide) (by omega) (fun h4 => ?_) (fun h4 => ?_)
            · refine lv_iinc (v := (nI (dd + 1))) (lv' := [(6, .int (nI (dd + 1))), (8, .int (-1)), (7, .int (nI (k_cnt g r28))), (5, .int (nI sm)), (0, .ref x0), (1, .int (nI f9)), (2, .int (nI s9)), (3, .int (nI a9)), (4, .int (nI b9))]) hx hb dX6_lookingUpCost_74 hl (k := 2) rfl (nI_add dd 1) (by decide) rfl (fun ls hl => ?_)
              refine lv_goto (tgt := 13) hx hb dX6_lookingUpCost_77 (by decide) ?_
              exact ih13 sm (dd + 1) (by omega) (by omega) (by rw [hs, k_sd]; simp only [ho28, ho41, k_oc, k_om, Nat.zero_mul, Nat.mul_zero, Nat.add_zero] <;> first | omega | (rw [show k_cnt g r28 = 0 by omega, Nat.zero_mul, Nat.add_zero])) _ (lv_sub hl [0, 3, 4, 5, 6, 7, 8] rfl)
            · refine lv_iload hx hb dX6_lookingUpCost_51 (lv_at hl 0 rfl) ?_
              refine lv_iconst (v := (-1)) hx hb dX6_lookingUpCost_53 (by decide) ?_
              refine lv_icmp_eq (tgt := 74) hx hb dX6_lookingUpCost_54 (by decide) (fun _ => ?_) (fun h9 => False.elim (by revert h9; decide))
              refine lv_iinc (v := (nI (dd + 1))) (lv' := [(6, .int (nI (dd + 1))), (8, .int (-1)), (7, .int (nI (k_cnt g r28))), (5, .int (nI sm)), (0, .ref x0), (1, .int (nI f9)), (2, .int (nI s9)), (3, .int (nI a9)), (4, .int (nI b9))]) hx hb dX6_lookingUpCost_74 hl (k := 2) rfl (nI_add dd 1) (by decide) rfl (fun ls hl => ?_)
              refine lv_goto (tgt := 13) hx hb dX6_lookingUpCost_77 (by decide) ?_
              exact ih13 sm (dd + 1) (by omega) (by omega) (by rw [hs, k_sd]; simp only [ho28, ho41, k_oc, k_om, Nat.zero_mul, Nat.mul_zero, Nat.add_zero] <;> first | omega | (rw [show k_cnt g r28 = 0 by omega, Nat.zero_mul, Nat.add_zero])) _ (lv_sub hl [0, 3, 4, 5, 6, 7, 8] rfl)
          | some r41 =>
            refine ln_eq (x' := nI r41) rfl ?_
            have hbtho41 := k_bt_lt (by omega) ho41
            refine lv_istore (lv' := [(8, .int (nI r41)), (7, .int (nI (k_cnt g r28))), (6, .int (nI dd)), (5, .int (nI sm)), (0, .ref x0), (1, .int (nI f9)), (2, .int (nI s9)), (3, .int (nI a9)), (4, .int (nI b9))]) hx hb dX6_lookingUpCost_44 hl (by decide) rfl (fun ls hl => ?_)
            refine lv_iload hx hb dX6_lookingUpCost_46 (lv_at hl 1 rfl) ?_
            refine ln_if_le (tgt := 74) hx hb dX6_lookingUpCost_48 (by decide) (by omega) (fun h5 => ?_) (fun h5 => ?_)
            · refine lv_iinc (v := (nI (dd + 1))) (lv' := [(6, .int (nI (dd + 1))), (8, .int (nI r41)), (7, .int (nI (k_cnt g r28))), (5, .int (nI sm)), (0, .ref x0), (1, .int (nI f9)), (2, .int (nI s9)), (3, .int (nI a9)), (4, .int (nI b9))]) hx hb dX6_lookingUpCost_74 hl (k := 2) rfl (nI_add dd 1) (by decide) rfl (fun ls hl => ?_)
              refine lv_goto (tgt := 13) hx hb dX6_lookingUpCost_77 (by decide) ?_
              exact ih13 sm (dd + 1) (by omega) (by omega) (by rw [hs, k_sd]; simp only [ho28, ho41, k_oc, k_om, Nat.zero_mul, Nat.mul_zero, Nat.add_zero] <;> first | omega | (rw [show k_cnt g r28 = 0 by omega, Nat.zero_mul, Nat.add_zero])) _ (lv_sub hl [0, 3, 4, 5, 6, 7, 8] rfl)
            · refine lv_iload hx hb dX6_lookingUpCost_51 (lv_at hl 0 rfl) ?_
              refine lv_iconst (v := (-1)) hx hb dX6_lookingUpCost_53 (by decide) ?_
              refine ln_eq_m1 (tgt := 74) hx hb dX6_lookingUpCost_54 (by decide) (by omega) ?_
              refine lv_iload hx hb dX6_lookingUpCost_57 (lv_at hl 3 rfl) ?_
              refine lv_iload hx hb dX6_lookingUpCost_59 (lv_at hl 1 rfl) ?_
              refine lv_aload_n hx hb dX6_lookingUpCost_61 rfl (lv_at hl 4 rfl) ?_
              refine va_get (D := D) (ci := 5) (v := .ref a) (C := RX6) (T := TX6) (N := 7) hx hb hts hinX6 hown hM.1 hP 0 rfl rfl 1 (by decide) (hts (.fieldLink RX6 19 "TripleWays" "now" "LTripleWays$State;") (by decide +kernel)) (fun _ h9 => h9) rfl dX6_lookingUpCost_62 ?_
              refine lv_iload hx hb dX6_lookingUpCost_65 (lv_at hl 0 rfl) ?_
              refine ro_V (C := RX4) (n := 1) ⟨hx, hb, hml, hown, hts⟩ hM hS hP (c_costNow l D tc zb a a1 a2 tr qs g r41 hk hR (by omega)) gX6_lookingUpCost_X4_costNow rfl (by decide +kernel) ⟨Nat.le_of_ble_eq_true rfl, Nat.le_of_ble_eq_true rfl⟩ [1, 2, 3] rfl (va_recv hM.1 hP (ci := 3) (q0 := 1) rfl rfl) rfl hl.1 rfl (Nat.le_of_ble_eq_true rfl) dX6_lookingUpCost_67 ⟨Nat.le_refl _, Nat.le_refl _⟩ ?_
              have hf6 := k_mn_le g r41 (g 41) 6
              refine ln_imul hx hb dX6_lookingUpCost_70 ?_
              refine ln_iadd hx hb dX6_lookingUpCost_71 ?_
              refine lv_istore (lv' := [(5, .int (nI (sm + ((k_cnt g r28) * (k_mn g r41 (g 41) 6))))), (8, .int (nI r41)), (7, .int (nI (k_cnt g r28))), (6, .int (nI dd)), (0, .ref x0), (1, .int (nI f9)), (2, .int (nI s9)), (3, .int (nI a9)), (4, .int (nI b9))]) hx hb dX6_lookingUpCost_72 hl (by decide) rfl (fun ls hl => ?_)
              refine lv_iinc (v := (nI (dd + 1))) (lv' := [(6, .int (nI (dd + 1))), (5, .int (nI (sm + ((k_cnt g r28) * (k_mn g r41 (g 41) 6))))), (8, .int (nI r41)), (7, .int (nI (k_cnt g r28))), (0, .ref x0), (1, .int (nI f9)), (2, .int (nI s9)), (3, .int (nI a9)), (4, .int (nI b9))]) hx hb dX6_lookingUpCost_74 hl (k := 3) rfl (nI_add dd 1) (by decide) rfl (fun ls hl => ?_)
              refine lv_goto (tgt := 13) hx hb dX6_lookingUpCost_77 (by decide) ?_
              exact ih13 (sm + ((k_cnt g r28) * (k_mn g r41 (g 41) 6))) (dd + 1) (by omega) (by omega) (by rw [hs, k_sd]; simp only [ho28, ho41, k_oc, k_om, Nat.zero_mul, Nat.mul_zero, Nat.add_zero] <;> first | omega | (rw [show k_cnt g r28 = 0 by omega, Nat.zero_mul, Nat.add_zero])) _ (lv_sub hl [0, 1, 4, 5, 6, 7, 8] rfl)
  exact lp13 _ (k_mn g f9 (g 41) 6) 0 (Nat.lt_succ_self _) (by omega) (by rfl) _ (lv_sub hl [0, 1, 2, 3, 4, 5, 6] rfl)
set_option maxHeartbeats 4000000 in
set_option maxRecDepth 100000 in
theorem c6_merging (l : Launch) (D : va_G) (tc : Nat → ClassId) (zb : Nat) (x0 : Nat) (o : Nat → Value) (a a1 a2 : Nat) (tr qs : Nat → Int32) (g : Nat → Nat) (f9 s9 a9 b9 : Nat) (hk : k_ok g) (hR : k_R tr qs g) (hf9 : f9 < 1331) (hs9 : s9 < 1331) (ha9 : a9 < 3) (hb9 : b9 < 3) : RO l yX6_mergingCost wsX6_mergingCost 5 113 D tc zb [(x0, .inr (5, [o 0, .ref a, o 2, o 3, o 4, o 5, o 6])), (a, .inr (3, [.ref a1, .int (nI (g 0)), .int (nI (g 41)), .int (nI (g 42)), .int (nI (g 43)), .int (nI (g 44)), .int (nI (g 45)), .ref a2, .int (nI (g 46)), .int (nI (g 59))])), (a1, .inl (tc 0, 40, .inl tr)), (a2, .inl (tc 0, 12, .inl qs))] [.ref x0, .int (nI f9), .int (nI s9), .int (nI a9), .int (nI b9)] (.int (oI (k_jm g f9 s9 a9 b9))) := by
  refine RO.of (cc := cX6_mergingCost) (maxL := 7) (ret := (some .int)) (by decide) rfl (Nat.le_of_ble_eq_true rfl) ?_
  intro p e s m args below meth c hx hb hr hml hlk hts hown hM hS hP ls hl
  have hl : lv_has ls 7 [(0, .ref x0), (1, .int (nI f9)), (2, .int (nI s9)), (3, .int (nI a9)), (4, .int (nI b9))] := hl
  have hinX6 : ∀ w ∈ u_ws RX6 TX6 7, w ∈ wsX6_mergingCost := by decide +kernel
  obtain ⟨ok0, ok1, ok2, ok3, ok4, ok5, ok6⟩ := id hk
  refine lv_aload_n hx hb dX6_mergingCost_0 rfl (lv_at hl 0 rfl) ?_
  refine va_get (D := D) (ci := 5) (v := .ref a) (C := RX6) (T := TX6) (N := 7) hx hb hts hinX6 hown hM.1 hP 0 rfl rfl 1 (by decide) (hts (.fieldLink RX6 19 "TripleWays" "now" "LTripleWays$State;") (by decide +kernel)) (fun _ h9 => h9) rfl dX6_mergingCost_1 ?_
  refine lv_iload_n hx hb dX6_mergingCost_4 rfl (lv_at hl 1 rfl) ?_
  refine lv_iload_n hx hb dX6_mergingCost_5 rfl (lv_at hl 3 rfl) ?_
  refine ro_V (C := RX4) (n := 2) ⟨hx, hb, hml, hown, hts⟩ hM hS hP (c_costSortedBy l D tc zb a a1 a2 tr qs g f9 a9 hk hR (by omega) (by omega)) gX6_mergingCost_X4_costSortedBy rfl (by decide +kernel) ⟨Nat.le_of_ble_eq_true rfl, Nat.le_of_ble_eq_true rfl⟩ [1, 2, 3] rfl (va_recv hM.1 hP (ci := 3) (q0 := 1) rfl rfl) rfl hl.1 rfl (Nat.le_of_ble_eq_true rfl) dX6_mergingCost_6 ⟨Nat.le_refl _, Nat.le_refl _⟩ ?_
  cases ho6 : k_ms g f9 a9 6 with
  | none =>
    refine ln_eq (x' := -1) rfl ?_
    refine lv_istore (lv' := [(5, .int (-1)), (0, .ref x0), (1, .int (nI f9)), (2, .int (nI s9)), (3, .int (nI a9)), (4, .int (nI b9))]) hx hb dX6_mergingCost_9 hl (by decide) rfl (fun ls hl => ?_)
    refine lv_aload_n hx hb dX6_mergingCost_11 rfl (lv_at hl 1 rfl) ?_
    refine va_get (D := D) (ci := 5) (v := .ref a) (C := RX6) (T := TX6) (N := 7) hx hb hts hinX6 hown hM.1 hP 0 rfl rfl 1 (by decide) (hts (.fieldLink RX6 19 "TripleWays" "now" "LTripleWays$State;") (by decide +kernel)) (fun _ h9 => h9) rfl dX6_mergingCost_12 ?_
    refine lv_iload_n hx hb dX6_mergingCost_15 rfl (lv_at hl 3 rfl) ?_
    refine lv_iload hx hb dX6_mergingCost_16 (lv_at hl 5 rfl) ?_
    refine ro_V (C := RX4) (n := 2) ⟨hx, hb, hml, hown, hts⟩ hM hS hP (c_costSortedBy l D tc zb a a1 a2 tr qs g s9 b9 hk hR (by omega) (by omega)) gX6_mergingCost_X4_costSortedBy rfl (by decide +kernel) ⟨Nat.le_of_ble_eq_true rfl, Nat.le_of_ble_eq_true rfl⟩ [1, 2, 3] rfl (va_recv hM.1 hP (ci := 3) (q0 := 1) rfl rfl) rfl hl.1 rfl (Nat.le_of_ble_eq_true rfl) dX6_mergingCost_18 ⟨Nat.le_refl _, Nat.le_refl _⟩ ?_
    cases ho18 : k_ms g s9 b9 6 with
    | none =>
      refine ln_eq (x' := -1) rfl ?_
      refine lv_istore (lv' := [(6, .int (-1)), (5, .int (-1)), (0, .ref x0), (1, .int (nI f9)), (2, .int (nI s9)), (3, .int (nI a9)), (4, .int (nI b9))]) hx hb dX6_mergingCost_21 hl (by decide) rfl (fun ls hl => ?_)
      refine lv_iload hx hb dX6_mergingCost_23 (lv_at hl 1 rfl) ?_
      refine lv_iconst (v := (-1)) hx hb dX6_mergingCost_25 (by decide) ?_
      refine lv_icmp_eq (tgt := 35) hx hb dX6_mergingCost_26 (by decide) (fun _ => ?_) (fun h9 => False.elim (by revert h9; decide))
      refine lv_iconst (v := (-1)) hx hb dX6_mergingCost_35 (by decide) ?_
      refine lv_goto (tgt := 44) hx hb dX6_mergingCost_36 (by decide) ?_
      exact ro_iret hx hb hr hlk dX6_mergingCost_44 (show oI none = _ from congrArg oI (by simp only [k_jm, ho6, ho18]))
    | some r18 =>
      refine ln_eq (x' := nI r18) rfl ?_
      have hmho18 := k_ms_le ho18
      refine lv_istore (lv' := [(6, .int (nI r18)), (5, .int (-1)), (0, .ref x0), (1, .int (nI f9)), (2, .int (nI s9)), (3, .int (nI a9)), (4, .int (nI b9))]) hx hb dX6_mergingCost_21 hl (by decide) rfl (fun ls hl => ?_)
      refine lv_iload hx hb dX6_mergingCost_23 (lv_at hl 1 rfl) ?_
      refine lv_iconst (v := (-1)) hx hb dX6_mergingCost_25 (by decide) ?_
      refine lv_icmp_eq (tgt := 35) hx hb dX6_mergingCost_26 (by decide) (fun _ => ?_) (fun h9 => False.elim (by revert h9; decide))
      refine lv_iconst (v := (-1)) hx hb dX6_mergingCost_35 (by decide) ?_
      refine lv_goto (tgt := 44) hx hb dX6_mergingCost_36 (by decide) ?_
      exact ro_iret hx hb hr hlk dX6_mergingCost_44 (show oI none = _ from congrArg oI (by simp only [k_jm, ho6, ho18]))
  | some r6 =>
    refine ln_eq (x' := nI r6) rfl ?_
    have hmho6 := k_ms_le ho6
    refine lv_istore (lv' := [(5, .int (nI r6)), (0, .ref x0), (1, .int (nI f9)), (2, .int (nI s9)), (3, .int (nI a9)), (4, .int (nI b9))]) hx hb dX6_mergingCost_9 hl (by decide) rfl (fun ls hl => ?_)
    refine lv_aload_n hx hb dX6_mergingCost_11 rfl (lv_at hl 1 rfl) ?_
    refine va_get (D := D) (ci := 5) (v := .ref a) (C := RX6) (T := TX6) (N := 7) hx hb hts hinX6 hown hM.1 hP 0 rfl rfl 1 (by decide) (hts (.fieldLink RX6 19 "TripleWays" "now" "LTripleWays$State;") (by decide +kernel)) (fun _ h9 => h9) rfl dX6_mergingCost_12 ?_
    refine lv_iload_n hx hb dX6_mergingCost_15 rfl (lv_at hl 3 rfl) ?_
    refine lv_iload hx hb dX6_mergingCost_16 (lv_at hl 5 rfl) ?_
    refine ro_V (C := RX4) (n := 2) ⟨hx, hb, hml, hown, hts⟩ hM hS hP (c_costSortedBy l D tc zb a a1 a2 tr qs g s9 b9 hk hR (by omega) (by omega)) gX6_mergingCost_X4_costSortedBy rfl (by decide +kernel) ⟨Nat.le_of_ble_eq_true rfl, Nat.le_of_ble_eq_true rfl⟩ [1, 2, 3] rfl (va_recv hM.1 hP (ci := 3) (q0 := 1) rfl rfl) rfl hl.1 rfl (Nat.le_of_ble_eq_true rfl) dX6_mergingCost_18 ⟨Nat.le_refl _, Nat.le_refl _⟩ ?_
    cases ho18 : k_ms g s9 b9 6 with
    | none =>
      refine ln_eq (x' := -1) rfl ?_
      refine lv_istore (lv' := [(6, .int (-1)), (5, .int (nI r6)), (0, .ref x0), (1, .int (nI f9)), (2, .int (nI s9)), (3, .int (nI a9)), (4, .int (nI b9))]) hx hb dX6_mergingCost_21 hl (by decide) rfl (fun ls hl => ?_)
      refine lv_iload hx hb dX6_mergingCost_23 (lv_at hl 1 rfl) ?_
      refine lv_iconst (v := (-1)) hx hb dX6_mergingCost_25 (by decide) ?_
      refine ln_eq_m1 (tgt := 35) hx hb dX6_mergingCost_26 (by decide) (by omega) ?_
      refine lv_iload hx hb dX6_mergingCost_29 (lv_at hl 0 rfl) ?_
      refine lv_iconst (v := (-1)) hx hb dX6_mergingCost_31 (by decide) ?_
      refine lv_icmp_ne (tgt := 39) hx hb dX6_mergingCost_32 (by decide) (fun h9 => False.elim (by revert h9; decide)) (fun _ => ?_)
      refine lv_iconst (v := (-1)) hx hb dX6_mergingCost_35 (by decide) ?_
      refine lv_goto (tgt := 44) hx hb dX6_mergingCost_36 (by decide) ?_
      exact ro_iret hx hb hr hlk dX6_mergingCost_44 (show oI none = _ from congrArg oI (by simp only [k_jm, ho6, ho18]))
    | some r18 =>
      refine ln_eq (x' := nI r18) rfl ?_
      have hmho18 := k_ms_le ho18
      refine lv_istore (lv' := [(6, .int (nI r18)), (5, .int (nI r6)), (0, .ref x0), (1, .int (nI f9)), (2, .int (nI s9)), (3, .int (nI a9)), (4, .int (nI b9))]) hx hb dX6_mergingCost_21 hl (by decide) rfl (fun ls hl => ?_)
      refine lv_iload hx hb dX6_mergingCost_23 (lv_at hl 1 rfl) ?_
      refine lv_iconst (v := (-1)) hx hb dX6_mergingCost_25 (by decide) ?_
      refine ln_eq_m1 (tgt := 35) hx hb dX6_mergingCost_26 (by decide) (by omega) ?_
      refine lv_iload hx hb dX6_mergingCost_29 (lv_at hl 0 rfl) ?_
      refine lv_iconst (v := (-1)) hx hb dX6_mergingCost_31 (by decide) ?_
      refine ln_ne_m1 (tgt := 39) hx hb dX6_mergingCost_32 (by decide) (by omega) ?_
      refine lv_iload hx hb dX6_mergingCost_39 (lv_at hl 1 rfl) ?_
      refine lv_iload hx hb dX6_mergingCost_41 (lv_at hl 0 rfl) ?_
      refine ln_iadd hx hb dX6_mergingCost_43 ?_
      exact ro_iret hx hb hr hlk dX6_mergingCost_44 (show oI (some (r6 + r18)) = _ from congrArg oI (by simp only [k_jm, ho6, ho18]))
set_option maxHeartbeats 4000000 in
set_option maxRecDepth 100000 in
theorem c6_joinCost_m (l : Launch) (D : va_G) (tc : Nat → ClassId) (zb : Nat) (x0 : Nat) (o : Nat → Value) (a a1 a2 : Nat) (tr qs : Nat → Int32) (g : Nat → Nat) (f9 s9 a9 b9 : Nat) (hk : k_ok g) (hR : k_R tr qs g) (hf9 : f9 < 1331) (hs9 : s9 < 1331) (ha9 : a9 < 3) (hb9 : b9 < 3) : RO l yX6_joinCost wsX6_joinCost 6 139 D tc zb [(x0, .inr (5, [o 0, .ref a, o 2, o 3, o 4, o 5, o 6])), (a, .inr (3, [.ref a1, .int (nI (g 0)), .int (nI (g 41)), .int (nI (g 42)), .int (nI (g 43)), .int (nI (g 44)), .int (nI (g 45)), .ref a2, .int (nI (g 46)), .int (nI (g 59))])), (a1, .inl (tc 0, 40, .inl tr)), (a2, .inl (tc 0, 12, .inl qs))] [.ref x0, .int (nI f9), .int (nI s9), .int (nI a9), .int (nI b9), .int (nI 1)] (.int (oI (k_jm g f9 s9 a9 b9))) := by
  refine RO.of (cc := cX6_joinCost) (maxL := 6) (ret := (some .int)) (by decide) rfl (Nat.le_of_ble_eq_true rfl) ?_
  intro p e s m args below meth c hx hb hr hml hlk hts hown hM hS hP ls hl
  have hl : lv_has ls 6 [(0, .ref x0), (1, .int (nI f9)), (2, .int (nI s9)), (3, .int (nI a9)), (4, .int (nI b9)), (5, .int (nI 1))] := hl
  obtain ⟨ok0, ok1, ok2, ok3, ok4, ok5, ok6⟩ := id hk
  refine lv_iload_n hx hb dX6_joinCost_0 rfl (lv_at hl 1 rfl) ?_
  refine lv_iload_n hx hb dX6_joinCost_1 rfl (lv_at hl 2 rfl) ?_
  refine lv_iload_n hx hb dX6_joinCost_2 rfl (lv_at hl 3 rfl) ?_
  refine lv_iload hx hb dX6_joinCost_3 (lv_at hl 4 rfl) ?_
  refine rov_S (n := 4) ⟨hx, hb, hml, hown, hts⟩ hM hS hP (c6_needJoin l D tc zb f9 s9 a9 b9 (by omega) (by omega) (by omega) (by omega)) gX6_joinCost_X6_needJoin rfl (by decide +kernel) ⟨Nat.le_of_ble_eq_true rfl, Nat.le_of_ble_eq_true rfl⟩ [] rfl rfl hl.1 rfl (Nat.le_of_ble_eq_true rfl) dX6_joinCost_5 ⟨Nat.le_refl _, Nat.le_refl _⟩ ?_
  refine lv_iload hx hb dX6_joinCost_8 (lv_at hl 5 rfl) ?_
  refine lv_if_eq (tgt := 25) hx hb dX6_joinCost_10 (by decide) (fun h9 => False.elim (by revert h9; decide)) (fun _ => ?_)
  refine lv_aload_n hx hb dX6_joinCost_13 rfl (lv_at hl 0 rfl) ?_
  refine lv_iload_n hx hb dX6_joinCost_14 rfl (lv_at hl 1 rfl) ?_
  refine lv_iload_n hx hb dX6_joinCost_15 rfl (lv_at hl 2 rfl) ?_
  refine lv_iload_n hx hb dX6_joinCost_16 rfl (lv_at hl 3 rfl) ?_
  refine lv_iload hx hb dX6_joinCost_17 (lv_at hl 4 rfl) ?_
  refine ro_V (C := RX6) (n := 4) ⟨hx, hb, hml, hown, hts⟩ hM hS hP (c6_merging l D tc zb x0 o a a1 a2 tr qs g f9 s9 a9 b9 hk hR (by omega) (by omega) (by omega) (by omega)) gX6_joinCost_X6_mergingCost rfl (by decide +kernel) ⟨Nat.le_of_ble_eq_true rfl, Nat.le_of_ble_eq_true rfl⟩ [0, 1, 2, 3] rfl (va_recv hM.1 hP (ci := 5) (q0 := 0) rfl rfl) rfl hl.1 rfl (Nat.le_of_ble_eq_true rfl) dX6_joinCost_19 ⟨Nat.le_refl _, Nat.le_refl _⟩ ?_
  refine lv_goto (tgt := 34) hx hb dX6_joinCost_22 (by decide) ?_
  exact ro_iret hx hb hr hlk dX6_joinCost_34 (rfl)
set_option maxHeartbeats 4000000 in
set_option maxRecDepth 100000 in
theorem c6_joinCost_l (l : Launch) (D : va_G) (tc : Nat → ClassId) (zb : Nat) (x0 : Nat) (o : Nat → Value) (a a1 a2 : Nat) (tr qs : Nat → Int32) (g : Nat → Nat) (f9 s9 a9 b9 : Nat) (hk : k_ok g) (hR : k_R tr qs g) (hf9 : f9 < 1331) (hs9 : s9 < 1331) (ha9 : a9 < 3) (hb9 : b9 < 3) : RO l yX6_joinCost wsX6_joinCost 5 121 D tc zb [(x0, .inr (5, [o 0, .ref a, o 2, o 3, o 4, o 5, o 6])), (a, .inr (3, [.ref a1, .int (nI (g 0)), .int (nI (g 41)), .int (nI (g 42)), .int (nI (g 43)), .int (nI (g 44)), .int (nI (g 45)), .ref a2, .int (nI (g 46)), .int (nI (g 59))])), (a1, .inl (tc 0, 40, .inl tr)), (a2, .inl (tc 0, 12, .inl qs))] [.ref x0, .int (nI f9), .int (nI s9), .int (nI a9), .int (nI b9), .int (nI 0)] (.int (nI (k_jcs g f9 s9 a9 b9 (g 0)))) := by
  refine RO.of (cc := cX6_joinCost) (maxL := 6) (ret := (some .int)) (by decide) rfl (Nat.le_of_ble_eq_true rfl) ?_
  intro p e s m args below meth c hx hb hr hml hlk hts hown hM hS hP ls hl
  have hl : lv_has ls 6 [(0, .ref x0), (1, .int (nI f9)), (2, .int (nI s9)), (3, .int (nI a9)), (4, .int (nI b9)), (5, .int (nI 0))] := hl
  obtain ⟨ok0, ok1, ok2, ok3, ok4, ok5, ok6⟩ := id hk
  refine lv_iload_n hx hb dX6_joinCost_0 rfl (lv_at hl 1 rfl) ?_
  refine lv_iload_n hx hb dX6_joinCost_1 rfl (lv_at hl 2 rfl) ?_
  refine lv_iload_n hx hb dX6_joinCost_2 rfl (lv_at hl 3 rfl) ?_
  refine lv_iload hx hb dX6_joinCost_3 (lv_at hl 4 rfl) ?_
  refine rov_S (n := 4) ⟨hx, hb, hml, hown, hts⟩ hM hS hP (c6_needJoin l D tc zb f9 s9 a9 b9 (by omega) (by omega) (by omega) (by omega)) gX6_joinCost_X6_needJoin rfl (by decide +kernel) ⟨Nat.le_of_ble_eq_true rfl, Nat.le_of_ble_eq_true rfl⟩ [] rfl rfl hl.1 rfl (Nat.le_of_ble_eq_true rfl) dX6_joinCost_5 ⟨Nat.le_refl _, Nat.le_refl _⟩ ?_
  refine lv_iload hx hb dX6_joinCost_8 (lv_at hl 5 rfl) ?_
  refine lv_if_eq (tgt := 25) hx hb dX6_joinCost_10 (by decide) (fun _ => ?_) (fun h9 => False.elim (by revert h9; decide))
  refine lv_aload_n hx hb dX6_joinCost_25 rfl (lv_at hl 0 rfl) ?_
  refine lv_iload_n hx hb dX6_joinCost_26 rfl (lv_at hl 1 rfl) ?_
  refine lv_iload_n hx hb dX6_joinCost_27 rfl (lv_at hl 2 rfl) ?_
  refine lv_iload_n hx hb dX6_joinCost_28 rfl (lv_at hl 3 rfl) ?_
  refine lv_iload hx hb dX6_joinCost_29 (lv_at hl 4 rfl) ?_
  refine ro_V (C := RX6) (n := 4) ⟨hx, hb, hml, hown, hts⟩ hM hS hP (c6_lookingUp l D tc zb x0 o a a1 a2 tr qs g f9 s9 a9 b9 hk hR (by omega) (by omega) (by omega) (by omega)) gX6_joinCost_X6_lookingUpCost rfl (by decide +kernel) ⟨Nat.le_of_ble_eq_true rfl, Nat.le_of_ble_eq_true rfl⟩ [0, 1, 2, 3] rfl (va_recv hM.1 hP (ci := 5) (q0 := 0) rfl rfl) rfl hl.1 rfl (Nat.le_of_ble_eq_true rfl) dX6_joinCost_31 ⟨Nat.le_refl _, Nat.le_refl _⟩ ?_
  exact ro_iret hx hb hr hlk dX6_joinCost_34 (rfl)
set_option maxHeartbeats 4000000 in
set_option maxRecDepth 100000 in
theorem c6_pairs_b1 (l : Launch) (hfl : l.stackTraces = false) (D : va_G) (tc : Nat → ClassId) (zb : Nat) (x0 : Nat) (o : Nat → Value) (pp p2 p3 p4 : Int32)  (hp : ¬ (nI 0 ≤ pp ∧ pp ≤ nI 1330)) : TH l yX6_pairs wsX6_pairs 8 125 D tc zb [(x0, .inr (5, [o 0, o 1, o 2, o 3, o 4, o 5, o 6]))] [.ref x0, .int (pp), .int (p2), .int (p3), .int (p4)] "java/lang/IllegalArgumentException" := by
  refine TH.of (cc := cX6_pairs) (maxL := 8) (ret := (some .int)) (by decide) rfl (Nat.le_of_ble_eq_true rfl) ?_
  intro p e s m args below meth c hx hb hr hml hlk hts hown hex hM hS hP ls hl
  have hl : lv_has ls 8 [(0, .ref x0), (1, .int (pp)), (2, .int (p2)), (3, .int (p3)), (4, .int (p4))] := hl
  refine lv_iload_n hx hb dX6_pairs_0 rfl (lv_at hl 1 rfl) ?_
  refine lv_iload_n hx hb dX6_pairs_1 rfl (lv_at hl 2 rfl) ?_
  refine lv_iload_n hx hb dX6_pairs_2 rfl (lv_at hl 3 rfl) ?_
  refine lv_iload hx hb dX6_pairs_3 (lv_at hl 4 rfl) ?_
  exact th_S (n := 4) ⟨hx, hb, hml, hown, hts⟩ hM hS hP (c6_needJoin_b1 l hfl D tc zb ((pp)) ((p2)) ((p3)) ((p4)) (by assumption)) gX6_pairs_X6_needJoin rfl (by decide +kernel) ⟨Nat.le_of_ble_eq_true rfl, Nat.le_of_ble_eq_true rfl⟩ [] rfl rfl hl.1 rfl (Nat.le_of_ble_eq_true rfl) dX6_pairs_5 ⟨Nat.le_refl _, Nat.le_refl _⟩ (fun H1 q ce h1 h2 h3 h4 h5 => th_out hex hlk h1 h2 h3 h4 h5)
set_option maxHeartbeats 4000000 in
set_option maxRecDepth 100000 in
theorem c6_pairs_b2 (l : Launch) (hfl : l.stackTraces = false) (D : va_G) (tc : Nat → ClassId) (zb : Nat) (x0 : Nat) (o : Nat → Value) (f9 : Nat) (p2 p3 p4 : Int32) (hf9 : f9 < 1331) (hp : ¬ (nI 0 ≤ p2 ∧ p2 ≤ nI 1330)) : TH l yX6_pairs wsX6_pairs 8 125 D tc zb [(x0, .inr (5, [o 0, o 1, o 2, o 3, o 4, o 5, o 6]))] [.ref x0, .int (nI f9), .int (p2), .int (p3), .int (p4)] "java/lang/IllegalArgumentException" := by
  refine TH.of (cc := cX6_pairs) (maxL := 8) (ret := (some .int)) (by decide) rfl (Nat.le_of_ble_eq_true rfl) ?_
  intro p e s m args below meth c hx hb hr hml hlk hts hown hex hM hS hP ls hl
  have hl : lv_has ls 8 [(0, .ref x0), (1, .int (nI f9)), (2, .int (p2)), (3, .int (p3)), (4, .int (p4))] := hl
  refine lv_iload_n hx hb dX6_pairs_0 rfl (lv_at hl 1 rfl) ?_
  refine lv_iload_n hx hb dX6_pairs_1 rfl (lv_at hl 2 rfl) ?_
  refine lv_iload_n hx hb dX6_pairs_2 rfl (lv_at hl 3 rfl) ?_
  refine lv_iload hx hb dX6_pairs_3 (lv_at hl 4 rfl) ?_
  exact th_S (n := 4) ⟨hx, hb, hml, hown, hts⟩ hM hS hP (c6_needJoin_b2 l hfl D tc zb f9 ((p2)) ((p3)) ((p4)) (by omega) (by assumption)) gX6_pairs_X6_needJoin rfl (by decide +kernel) ⟨Nat.le_of_ble_eq_true rfl, Nat.le_of_ble_eq_true rfl⟩ [] rfl rfl hl.1 rfl (Nat.le_of_ble_eq_true rfl) dX6_pairs_5 ⟨Nat.le_refl _, Nat.le_refl _⟩ (fun H1 q ce h1 h2 h3 h4 h5 => th_out hex hlk h1 h2 h3 h4 h5)
set_option maxHeartbeats 4000000 in
set_option maxRecDepth 100000 in
theorem c6_pairs_b3 (l : Launch) (hfl : l.stackTraces = false) (D : va_G) (tc : Nat → ClassId) (zb : Nat) (x0 : Nat) (o : Nat → Value) (f9 s9 : Nat) (p3 p4 : Int32) (hf9 : f9 < 1331) (hs9 : s9 < 1331) (hp : ¬ (nI 0 ≤ p3 ∧ p3 ≤ nI 2)) : TH l yX6_pairs wsX6_pairs 8 125 D tc zb [(x0, .inr (5, [o 0, o 1, o 2, o 3, o 4, o 5, o 6]))] [.ref x0, .int (nI f9), .int (nI s9), .int (p3), .int (p4)] "java/lang/IllegalArgumentException" := by
  refine TH.of (cc := cX6_pairs) (maxL := 8) (ret := (some .int)) (by decide) rfl (Nat.le_of_ble_eq_true rfl) ?_
  intro p e s m args below meth c hx hb hr hml hlk hts hown hex hM hS hP ls hl
  have hl : lv_has ls 8 [(0, .ref x0), (1, .int (nI f9)), (2, .int (nI s9)), (3, .int (p3)), (4, .int (p4))] := hl
  refine lv_iload_n hx hb dX6_pairs_0 rfl (lv_at hl 1 rfl) ?_
  refine lv_iload_n hx hb dX6_pairs_1 rfl (lv_at hl 2 rfl) ?_
  refine lv_iload_n hx hb dX6_pairs_2 rfl (lv_at hl 3 rfl) ?_
  refine lv_iload hx hb dX6_pairs_3 (lv_at hl 4 rfl) ?_
  exact th_S (n := 4) ⟨hx, hb, hml, hown, hts⟩ hM hS hP (c6_needJoin_b3 l hfl D tc zb f9 s9 ((p3)) ((p4)) (by omega) (by omega) (by assumption)) gX6_pairs_X6_needJoin rfl (by decide +kernel) ⟨Nat.le_of_ble_eq_true rfl, Nat.le_of_ble_eq_true rfl⟩ [] rfl rfl hl.1 rfl (Nat.le_of_ble_eq_true rfl) dX6_pairs_5 ⟨Nat.le_refl _, Nat.le_refl _⟩ (fun H1 q ce h1 h2 h3 h4 h5 => th_out hex hlk h1 h2 h3 h4 h5)
set_option maxHeartbeats 4000000 in
set_option maxRecDepth 100000 in
theorem c6_pairs_b4 (l : Launch) (hfl : l.stackTraces = false) (D : va_G) (tc : Nat → ClassId) (zb : Nat) (x0 : Nat) (o : Nat → Value) (f9 s9 a9 : Nat) (p4 : Int32) (hf9 : f9 < 1331) (hs9 : s9 < 1331) (ha9 : a9 < 3) (hp : ¬ (nI 0 ≤ p4 ∧ p4 ≤ nI 2)) : TH l yX6_pairs wsX6_pairs 8 125 D tc zb [(x0, .inr (5, [o 0, o 1, o 2, o 3, o 4, o 5, o 6]))] [.ref x0, .int (nI f9), .int (nI s9), .int (nI a9), .int (p4)] "java/lang/IllegalArgumentException" := by
  refine TH.of (cc := cX6_pairs) (maxL := 8) (ret := (some .int)) (by decide) rfl (Nat.le_of_ble_eq_true rfl) ?_
  intro p e s m args below meth c hx hb hr hml hlk hts hown hex hM hS hP ls hl
  have hl : lv_has ls 8 [(0, .ref x0), (1, .int (nI f9)), (2, .int (nI s9)), (3, .int (nI a9)), (4, .int (p4))] := hl
  refine lv_iload_n hx hb dX6_pairs_0 rfl (lv_at hl 1 rfl) ?_
  refine lv_iload_n hx hb dX6_pairs_1 rfl (lv_at hl 2 rfl) ?_
  refine lv_iload_n hx hb dX6_pairs_2 rfl (lv_at hl 3 rfl) ?_
  refine lv_iload hx hb dX6_pairs_3 (lv_at hl 4 rfl) ?_
  exact th_S (n := 4) ⟨hx, hb, hml, hown, hts⟩ hM hS hP (c6_needJoin_b4 l hfl D tc zb f9 s9 a9 ((p4)) (by omega) (by omega) (by omega) (by assumption)) gX6_pairs_X6_needJoin rfl (by decide +kernel) ⟨Nat.le_of_ble_eq_true rfl, Nat.le_of_ble_eq_true rfl⟩ [] rfl rfl hl.1 rfl (Nat.le_of_ble_eq_true rfl) dX6_pairs_5 ⟨Nat.le_refl _, Nat.le_refl _⟩ (fun H1 q ce h1 h2 h3 h4 h5 => th_out hex hlk h1 h2 h3 h4 h5)
set_option maxHeartbeats 4000000 in
set_option maxRecDepth 100000 in
theorem c6_joinCost_b1 (l : Launch) (hfl : l.stackTraces = false) (D : va_G) (tc : Nat → ClassId) (zb : Nat) (x0 : Nat) (o : Nat → Value) (pp p2 p3 p4 : Int32) (p5 : Int32)  (hp : ¬ (nI 0 ≤ pp ∧ pp ≤ nI 1330)) : TH l yX6_joinCost wsX6_joinCost 8 125 D tc zb [(x0, .inr (5, [o 0, o 1, o 2, o 3, o 4, o 5, o 6]))] [.ref x0, .int (pp), .int (p2), .int (p3), .int (p4), .int (p5)] "java/lang/IllegalArgumentException" := by
  refine TH.of (cc := cX6_joinCost) (maxL := 6) (ret := (some .int)) (by decide) rfl (Nat.le_of_ble_eq_true rfl) ?_
  intro p e s m args below meth c hx hb hr hml hlk hts hown hex hM hS hP ls hl
  have hl : lv_has ls 6 [(0, .ref x0), (1, .int (pp)), (2, .int (p2)), (3, .int (p3)), (4, .int (p4)), (5, .int (p5))] := hl
  refine lv_iload_n hx hb dX6_joinCost_0 rfl (lv_at hl 1 rfl) ?_
  refine lv_iload_n hx hb dX6_joinCost_1 rfl (lv_at hl 2 rfl) ?_
  refine lv_iload_n hx hb dX6_joinCost_2 rfl (lv_at hl 3 rfl) ?_
  refine lv_iload hx hb dX6_joinCost_3 (lv_at hl 4 rfl) ?_
  exact th_S (n := 4) ⟨hx, hb, hml, hown, hts⟩ hM hS hP (c6_needJoin_b1 l hfl D tc zb ((pp)) ((p2)) ((p3)) ((p4)) (by assumption)) gX6_joinCost_X6_needJoin rfl (by decide +kernel) ⟨Nat.le_of_ble_eq_true rfl, Nat.le_of_ble_eq_true rfl⟩ [] rfl rfl hl.1 rfl (Nat.le_of_ble_eq_true rfl) dX6_joinCost_5 ⟨Nat.le_refl _, Nat.le_refl _⟩ (fun H1 q ce h1 h2 h3 h4 h5 => th_out hex hlk h1 h2 h3 h4 h5)
set_option maxHeartbeats 4000000 in
set_option maxRecDepth 100000 in
theorem c6_joinCost_b2 (l : Launch) (hfl : l.stackTraces = false) (D : va_G) (tc : Nat → ClassId) (zb : Nat) (x0 : Nat) (o : Nat → Value) (f9 : Nat) (p2 p3 p4 : Int32) (p5 : Int32) (hf9 : f9 < 1331) (hp : ¬ (nI 0 ≤ p2 ∧ p2 ≤ nI 1330)) : TH l yX6_joinCost wsX6_joinCost 8 125 D tc zb [(x0, .inr (5, [o 0, o 1, o 2, o 3, o 4, o 5, o 6]))] [.ref x0, .int (nI f9), .int (p2), .int (p3), .int (p4), .int (p5)] "java/lang/IllegalArgumentException" := by
  refine TH.of (cc := cX6_joinCost) (maxL := 6) (ret := (some .int)) (by decide) rfl (Nat.le_of_ble_eq_true rfl) ?_
  intro p e s m args below meth c hx hb hr hml hlk hts hown hex hM hS hP ls hl
  have hl : lv_has ls 6 [(0, .ref x0), (1, .int (nI f9)), (2, .int (p2)), (3, .int (p3)), (4, .int (p4)), (5, .int (p5))] := hl
  refine lv_iload_n hx hb dX6_joinCost_0 rfl (lv_at hl 1 rfl) ?_
  refine lv_iload_n hx hb dX6_joinCost_1 rfl (lv_at hl 2 rfl) ?_
  refine lv_iload_n hx hb dX6_joinCost_2 rfl (lv_at hl 3 rfl) ?_
  refine lv_iload hx hb dX6_joinCost_3 (lv_at hl 4 rfl) ?_
  exact th_S (n := 4) ⟨hx, hb, hml, hown, hts⟩ hM hS hP (c6_needJoin_b2 l hfl D tc zb f9 ((p2)) ((p3)) ((p4)) (by omega) (by assumption)) gX6_joinCost_X6_needJoin rfl (by decide +kernel) ⟨Nat.le_of_ble_eq_true rfl, Nat.le_of_ble_eq_true rfl⟩ [] rfl rfl hl.1 rfl (Nat.le_of_ble_eq_true rfl) dX6_joinCost_5 ⟨Nat.le_refl _, Nat.le_refl _⟩ (fun H1 q ce h1 h2 h3 h4 h5 => th_out hex hlk h1 h2 h3 h4 h5)
set_option maxHeartbeats 4000000 in
set_option maxRecDepth 100000 in
theorem c6_joinCost_b3 (l : Launch) (hfl : l.stackTraces = false) (D : va_G) (tc : Nat → ClassId) (zb : Nat) (x0 : Nat) (o : Nat → Value) (f9 s9 : Nat) (p3 p4 : Int32) (p5 : Int32) (hf9 : f9 < 1331) (hs9 : s9 < 1331) (hp : ¬ (nI 0 ≤ p3 ∧ p3 ≤ nI 2)) : TH l yX6_joinCost wsX6_joinCost 8 125 D tc zb [(x0, .inr (5, [o 0, o 1, o 2, o 3, o 4, o 5, o 6]))] [.ref x0, .int (nI f9), .int (nI s9), .int (p3), .int (p4), .int (p5)] "java/lang/IllegalArgumentException" := by
  refine TH.of (cc := cX6_joinCost) (maxL := 6) (ret := (some .int)) (by decide) rfl (Nat.le_of_ble_eq_true rfl) ?_
  intro p e s m args below meth c hx hb hr hml hlk hts hown hex hM hS hP ls hl
  have hl : lv_has ls 6 [(0, .ref x0), (1, .int (nI f9)), (2, .int (nI s9)), (3, .int (p3)), (4, .int (p4)), (5, .int (p5))] := hl
  refine lv_iload_n hx hb dX6_joinCost_0 rfl (lv_at hl 1 rfl) ?_
  refine lv_iload_n hx hb dX6_joinCost_1 rfl (lv_at hl 2 rfl) ?_
  refine lv_iload_n hx hb dX6_joinCost_2 rfl (lv_at hl 3 rfl) ?_
  refine lv_iload hx hb dX6_joinCost_3 (lv_at hl 4 rfl) ?_
  exact th_S (n := 4) ⟨hx, hb, hml, hown, hts⟩ hM hS hP (c6_needJoin_b3 l hfl D tc zb f9 s9 ((p3)) ((p4)) (by omega) (by omega) (by assumption)) gX6_joinCost_X6_needJoin rfl (by decide +kernel) ⟨Nat.le_of_ble_eq_true rfl, Nat.le_of_ble_eq_true rfl⟩ [] rfl rfl hl.1 rfl (Nat.le_of_ble_eq_true rfl) dX6_joinCost_5 ⟨Nat.le_refl _, Nat.le_refl _⟩ (fun H1 q ce h1 h2 h3 h4 h5 => th_out hex hlk h1 h2 h3 h4 h5)
set_option maxHeartbeats 4000000 in
set_option maxRecDepth 100000 in
theorem c6_joinCost_b4 (l : Launch) (hfl : l.stackTraces = false) (D : va_G) (tc : Nat → ClassId) (zb : Nat) (x0 : Nat) (o : Nat → Value) (f9 s9 a9 : Nat) (p4 : Int32) (p5 : Int32) (hf9 : f9 < 1331) (hs9 : s9 < 1331) (ha9 : a9 < 3) (hp : ¬ (nI 0 ≤ p4 ∧ p4 ≤ nI 2)) : TH l yX6_joinCost wsX6_joinCost 8 125 D tc zb [(x0, .inr (5, [o 0, o 1, o 2, o 3, o 4, o 5, o 6]))] [.ref x0, .int (nI f9), .int (nI s9), .int (nI a9), .int (p4), .int (p5)] "java/lang/IllegalArgumentException" := by
  refine TH.of (cc := cX6_joinCost) (maxL := 6) (ret := (some .int)) (by decide) rfl (Nat.le_of_ble_eq_true rfl) ?_
  intro p e s m args below meth c hx hb hr hml hlk hts hown hex hM hS hP ls hl
  have hl : lv_has ls 6 [(0, .ref x0), (1, .int (nI f9)), (2, .int (nI s9)), (3, .int (nI a9)), (4, .int (p4)), (5, .int (p5))] := hl
  refine lv_iload_n hx hb dX6_joinCost_0 rfl (lv_at hl 1 rfl) ?_
  refine lv_iload_n hx hb dX6_joinCost_1 rfl (lv_at hl 2 rfl) ?_
  refine lv_iload_n hx hb dX6_joinCost_2 rfl (lv_at hl 3 rfl) ?_
  refine lv_iload hx hb dX6_joinCost_3 (lv_at hl 4 rfl) ?_
  exact th_S (n := 4) ⟨hx, hb, hml, hown, hts⟩ hM hS hP (c6_needJoin_b4 l hfl D tc zb f9 s9 a9 ((p4)) (by omega) (by omega) (by omega) (by assumption)) gX6_joinCost_X6_needJoin rfl (by decide +kernel) ⟨Nat.le_of_ble_eq_true rfl, Nat.le_of_ble_eq_true rfl⟩ [] rfl rfl hl.1 rfl (Nat.le_of_ble_eq_true rfl) dX6_joinCost_5 ⟨Nat.le_refl _, Nat.le_refl _⟩ (fun H1 q ce h1 h2 h3 h4 h5 => th_out hex hlk h1 h2 h3 h4 h5)
