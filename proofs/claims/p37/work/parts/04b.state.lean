set_option maxHeartbeats 4000000 in
set_option maxRecDepth 100000 in
theorem c_look (l : Launch) (D : va_G) (tc : Nat → ClassId) (zb : Nat) (a a1 a2 : Nat) (tr qs : Nat → Int32) (g : Nat → Nat) (hk : k_ok g) (hR : k_R tr qs g) : RO l yX4_look wsX4_look 0 0 D tc zb (w_st tc a a1 a2 tr qs g) [.ref a] (.int (nI (k_lk (g 0)))) := by
  refine RO.of (cc := cX4_look) (maxL := 2) (ret := (some .int)) (by decide) rfl (Nat.le_of_ble_eq_true rfl) ?_
  intro p e s m args below meth c hx hb hr hml hlk hts hown hM hS hP ls hl
  have hl : lv_has ls 2 [(0, .ref a)] := hl
  have hinX4 : ∀ w ∈ u_ws RX4 TX4 10, w ∈ wsX4_look := by decide +kernel
  obtain ⟨ok0, ok1, ok2, ok3, ok4, ok5, ok6⟩ := id hk
  refine lv_iconst (v := (nI 0)) hx hb dX4_look_0 (by decide) ?_
  refine lv_istore_n (lv' := [(1, .int (nI 0)), (0, .ref a)]) hx hb dX4_look_1 rfl hl (by decide) rfl (fun ls hl => ?_)
  have lp2 : ∀ (n9 : Nat) (k : Nat), (6 - k) < n9 → (k ≤ 6) → (k = 0 ∨ 2 ^ (k - 1) ≤ g 0) → ∀ ls : Array Slot, lv_has ls 2 [(1, .int (nI k)), (0, .ref a)] → W p l e ({ frames := 0, cells := 0, slots := 0, locals := 0 } : Room) s m args below meth c s.heap [] 0 0 (MQ below (roQ (.int (nI (k_lk (g 0))))) args s 0 0 (fun _ => False)) (F0 m 2 ls []) := by
    intro n9
    induction n9 with
    | zero => intro k hmu; exact absurd hmu (Nat.not_lt_zero _)
    | succ n9 ih2 =>
      intro k hmu hi hv ls hl
      have hpw : 2 ^ k ≤ 2 ^ 6 := Nat.pow_le_pow_right (by decide) hi
      refine lv_iload_n hx hb dX4_look_2 rfl (lv_at hl 0 rfl) ?_
      refine lv_bipush (v := (nI 30)) hx hb dX4_look_3 (by decide) ?_
      refine ln_icmp_ge (tgt := 24) hx hb dX4_look_5 (by decide) (by omega) (by decide) (fun h1 => ?_) (fun h1 => ?_)
      · refine lv_iload_n hx hb dX4_look_24 rfl (lv_at hl 0 rfl) ?_
        exact ro_iret hx hb hr hlk dX4_look_25 (congrArg nI (by exact (k_lk_c _ _ (by omega) (by omega) (by omega) (by omega)).symm))
      · refine lv_iconst (v := (nI 1)) hx hb dX4_look_8 (by decide) ?_
        refine lv_iload_n hx hb dX4_look_9 rfl (lv_at hl 0 rfl) ?_
        refine ln_ishl1 hx hb dX4_look_10 (by omega) ?_
        refine lv_aload_n hx hb dX4_look_11 rfl (lv_at hl 1 rfl) ?_
        refine va_get (D := D) (ci := 3) (v := .int (nI (g 0))) (C := RX4) (T := TX4) (N := 10) hx hb hts hinX4 hown hM.1 hP 0 rfl rfl 1 (by decide) (hts (.fieldLink RX4 25 "TripleWays$State" "size" "I") (by decide +kernel)) (fun _ h9 => h9) rfl dX4_look_12 ?_
        refine ln_icmp_gt (tgt := 24) hx hb dX4_look_15 (by decide) (by omega) (by omega) (fun h2 => ?_) (fun h2 => ?_)
        · refine lv_iload_n hx hb dX4_look_24 rfl (lv_at hl 0 rfl) ?_
          exact ro_iret hx hb hr hlk dX4_look_25 (congrArg nI (by exact (k_lk_c _ _ (by omega) (by omega) (by omega) (by omega)).symm))
        · have hkk := (k_lk_up hi (by assumption) ok0).1
          refine lv_iinc (v := (nI (k + 1))) (lv' := [(1, .int (nI (k + 1))), (0, .ref a)]) hx hb dX4_look_18 hl (k := 0) rfl (nI_add k 1) (by decide) rfl (fun ls hl => ?_)
          refine lv_goto (tgt := 2) hx hb dX4_look_21 (by decide) ?_
          exact ih2 (k + 1) (by omega) (by exact (k_lk_up hi (by assumption) ok0).1) (by exact (k_lk_up hi (by assumption) ok0).2) _ (lv_sub hl [0, 1] rfl)
  exact lp2 _ 0 (Nat.lt_succ_self _) (by omega) (by exact Or.inl rfl) _ (lv_sub hl [0, 1] rfl)
set_option maxHeartbeats 4000000 in
set_option maxRecDepth 100000 in
theorem c_tripleAt (l : Launch) (D : va_G) (tc : Nat → ClassId) (zb : Nat) (a a1 a2 : Nat) (tr qs : Nat → Int32) (g : Nat → Nat) (i : Nat) (hk : k_ok g) (hR : k_R tr qs g) (hi : i < g 0) : RO l yX4_tripleAt wsX4_tripleAt 0 0 D tc zb (w_st tc a a1 a2 tr qs g) [.ref a, .int (nI i)] (.int (nI (g (1 + i)))) := by
  refine RO.of (cc := cX4_tripleAt) (maxL := 2) (ret := (some .int)) (by decide) rfl (Nat.le_of_ble_eq_true rfl) ?_
  intro p e s m args below meth c hx hb hr hml hlk hts hown hM hS hP ls hl
  have hl : lv_has ls 2 [(0, .ref a), (1, .int (nI i))] := hl
  have hinX4 : ∀ w ∈ u_ws RX4 TX4 10, w ∈ wsX4_tripleAt := by decide +kernel
  obtain ⟨ok0, ok1, ok2, ok3, ok4, ok5, ok6⟩ := id hk
  refine lv_iload_n hx hb dX4_tripleAt_0 rfl (lv_at hl 1 rfl) ?_
  refine ln_if_lt (tgt := 30) hx hb dX4_tripleAt_1 (by decide) (by omega) ?_
  refine lv_iload_n hx hb dX4_tripleAt_4 rfl (lv_at hl 1 rfl) ?_
  refine lv_aload_n hx hb dX4_tripleAt_5 rfl (lv_at hl 0 rfl) ?_
  refine va_get (D := D) (ci := 3) (v := .int (nI (g 0))) (C := RX4) (T := TX4) (N := 10) hx hb hts hinX4 hown hM.1 hP 0 rfl rfl 1 (by decide) (hts (.fieldLink RX4 25 "TripleWays$State" "size" "I") (by decide +kernel)) (fun _ h9 => h9) rfl dX4_tripleAt_6 ?_
  refine ln_icmp_ge (tgt := 30) hx hb dX4_tripleAt_9 (by decide) (by omega) (by omega) (fun h1 => ?_) (fun h1 => ?_)
  · refine lv_iconst (v := (-1)) hx hb dX4_tripleAt_30 (by decide) ?_
    exact ro_iret hx hb hr hlk dX4_tripleAt_31 (by omega)
  · refine lv_iload_n hx hb dX4_tripleAt_12 rfl (lv_at hl 1 rfl) ?_
    refine lv_aload_n hx hb dX4_tripleAt_13 rfl (lv_at hl 0 rfl) ?_
    refine va_get (D := D) (ci := 3) (v := .ref a1) (C := RX4) (T := TX4) (N := 10) hx hb hts hinX4 hown hM.1 hP 0 rfl rfl 0 (by decide) (hts (.fieldLink RX4 9 "TripleWays$State" "triples" "[I") (by decide +kernel)) (fun _ h9 => h9) rfl dX4_tripleAt_14 ?_
    refine va_alen hx hb hM.1 hP 1 0 rfl rfl (v := nI 40) rfl dX4_tripleAt_17 ?_
    refine ln_icmp_ge (tgt := 30) hx hb dX4_tripleAt_18 (by decide) (by omega) (by decide) (fun h2 => ?_) (fun h2 => ?_)
    · refine lv_iconst (v := (-1)) hx hb dX4_tripleAt_30 (by decide) ?_
      exact ro_iret hx hb hr hlk dX4_tripleAt_31 (by omega)
    · refine lv_aload_n hx hb dX4_tripleAt_21 rfl (lv_at hl 0 rfl) ?_
      refine va_get (D := D) (ci := 3) (v := .ref a1) (C := RX4) (T := TX4) (N := 10) hx hb hts hinX4 hown hM.1 hP 0 rfl rfl 0 (by decide) (hts (.fieldLink RX4 9 "TripleWays$State" "triples" "[I") (by decide +kernel)) (fun _ h9 => h9) rfl dX4_tripleAt_22 ?_
      refine lv_iload_n hx hb dX4_tripleAt_25 rfl (lv_at hl 1 rfl) ?_
      refine ln_iald hx hb hM.1 hP 1 0 rfl rfl dX4_tripleAt_26 (by decide) (by omega) (hR.1 _ (by omega)) ?_
      refine lv_goto (tgt := 31) hx hb dX4_tripleAt_27 (by decide) ?_
      exact ro_iret hx hb hr hlk dX4_tripleAt_31 (rfl)
set_option maxHeartbeats 4000000 in
set_option maxRecDepth 100000 in
theorem c_questionAt (l : Launch) (D : va_G) (tc : Nat → ClassId) (zb : Nat) (a a1 a2 : Nat) (tr qs : Nat → Int32) (g : Nat → Nat) (i : Nat) (hk : k_ok g) (hR : k_R tr qs g) (hi : i < g 46) : RO l yX4_questionAt wsX4_questionAt 0 0 D tc zb (w_st tc a a1 a2 tr qs g) [.ref a, .int (nI i)] (.int (nI (g (47 + i)))) := by
  refine RO.of (cc := cX4_questionAt) (maxL := 2) (ret := (some .int)) (by decide) rfl (Nat.le_of_ble_eq_true rfl) ?_
  intro p e s m args below meth c hx hb hr hml hlk hts hown hM hS hP ls hl
  have hl : lv_has ls 2 [(0, .ref a), (1, .int (nI i))] := hl
  have hinX4 : ∀ w ∈ u_ws RX4 TX4 10, w ∈ wsX4_questionAt := by decide +kernel
  obtain ⟨ok0, ok1, ok2, ok3, ok4, ok5, ok6⟩ := id hk
  refine lv_iload_n hx hb dX4_questionAt_0 rfl (lv_at hl 1 rfl) ?_
  refine ln_if_lt (tgt := 30) hx hb dX4_questionAt_1 (by decide) (by omega) ?_
  refine lv_iload_n hx hb dX4_questionAt_4 rfl (lv_at hl 1 rfl) ?_
  refine lv_aload_n hx hb dX4_questionAt_5 rfl (lv_at hl 0 rfl) ?_
  refine va_get (D := D) (ci := 3) (v := .int (nI (g 46))) (C := RX4) (T := TX4) (N := 10) hx hb hts hinX4 hown hM.1 hP 0 rfl rfl 8 (by decide) (hts (.fieldLink RX4 44 "TripleWays$State" "questionCount" "I") (by decide +kernel)) (fun _ h9 => h9) rfl dX4_questionAt_6 ?_
  refine ln_icmp_ge (tgt := 30) hx hb dX4_questionAt_9 (by decide) (by omega) (by omega) (fun h1 => ?_) (fun h1 => ?_)
  · refine lv_iconst (v := (-1)) hx hb dX4_questionAt_30 (by decide) ?_
    exact ro_iret hx hb hr hlk dX4_questionAt_31 (by omega)
  · refine lv_iload_n hx hb dX4_questionAt_12 rfl (lv_at hl 1 rfl) ?_
    refine lv_aload_n hx hb dX4_questionAt_13 rfl (lv_at hl 0 rfl) ?_
    refine va_get (D := D) (ci := 3) (v := .ref a2) (C := RX4) (T := TX4) (N := 10) hx hb hts hinX4 hown hM.1 hP 0 rfl rfl 7 (by decide) (hts (.fieldLink RX4 19 "TripleWays$State" "questions" "[I") (by decide +kernel)) (fun _ h9 => h9) rfl dX4_questionAt_14 ?_
    refine va_alen hx hb hM.1 hP 2 0 rfl rfl (v := nI 12) rfl dX4_questionAt_17 ?_
    refine ln_icmp_ge (tgt := 30) hx hb dX4_questionAt_18 (by decide) (by omega) (by decide) (fun h2 => ?_) (fun h2 => ?_)
    · refine lv_iconst (v := (-1)) hx hb dX4_questionAt_30 (by decide) ?_
      exact ro_iret hx hb hr hlk dX4_questionAt_31 (by omega)
    · refine lv_aload_n hx hb dX4_questionAt_21 rfl (lv_at hl 0 rfl) ?_
      refine va_get (D := D) (ci := 3) (v := .ref a2) (C := RX4) (T := TX4) (N := 10) hx hb hts hinX4 hown hM.1 hP 0 rfl rfl 7 (by decide) (hts (.fieldLink RX4 19 "TripleWays$State" "questions" "[I") (by decide +kernel)) (fun _ h9 => h9) rfl dX4_questionAt_22 ?_
      refine lv_iload_n hx hb dX4_questionAt_25 rfl (lv_at hl 1 rfl) ?_
      refine ln_iald hx hb hM.1 hP 2 0 rfl rfl dX4_questionAt_26 (by decide) (by omega) (hR.2 _ (by omega)) ?_
      refine lv_goto (tgt := 31) hx hb dX4_questionAt_27 (by decide) ?_
      exact ro_iret hx hb hr hlk dX4_questionAt_31 (rfl)
set_option maxHeartbeats 4000000 in
set_option maxRecDepth 100000 in
theorem c_keeps (l : Launch) (D : va_G) (tc : Nat → ClassId) (zb : Nat) (a a1 a2 : Nat) (tr qs : Nat → Int32) (g : Nat → Nat) (q : Nat) (hk : k_ok g) (hR : k_R tr qs g) (hq : q < 6) : RO l yX4_keeps wsX4_keeps 0 0 D tc zb (w_st tc a a1 a2 tr qs g) [.ref a, .int (nI q)] (.int (bI (k_in (g 41) q))) := by
  refine RO.of (cc := cX4_keeps) (maxL := 2) (ret := (some .boolean)) (by decide) rfl (Nat.le_of_ble_eq_true rfl) ?_
  intro p e s m args below meth c hx hb hr hml hlk hts hown hM hS hP ls hl
  have hl : lv_has ls 2 [(0, .ref a), (1, .int (nI q))] := hl
  have hinX4 : ∀ w ∈ u_ws RX4 TX4 10, w ∈ wsX4_keeps := by decide +kernel
  obtain ⟨ok0, ok1, ok2, ok3, ok4, ok5, ok6⟩ := id hk
  refine lv_aload_n hx hb dX4_keeps_0 rfl (lv_at hl 0 rfl) ?_
  refine va_get (D := D) (ci := 3) (v := .int (nI (g 41))) (C := RX4) (T := TX4) (N := 10) hx hb hts hinX4 hown hM.1 hP 0 rfl rfl 2 (by decide) (hts (.fieldLink RX4 15 "TripleWays$State" "kept" "I") (by decide +kernel)) (fun _ h9 => h9) rfl dX4_keeps_1 ?_
  refine lv_iload_n hx hb dX4_keeps_4 rfl (lv_at hl 1 rfl) ?_
  refine ln_ishr hx hb dX4_keeps_5 (by omega) (by omega) ?_
  refine lv_iconst (v := (nI 1)) hx hb dX4_keeps_6 (by decide) ?_
  refine ln_iand1 hx hb dX4_keeps_7 (Nat.lt_of_le_of_lt (Nat.div_le_self _ _) (by omega)) ?_
  refine lv_iconst (v := (nI 1)) hx hb dX4_keeps_8 (by decide) ?_
  refine ln_icmp_ne (tgt := 16) hx hb dX4_keeps_9 (by decide) (by omega) (by decide) (fun h1 => ?_) (fun h1 => ?_)
  · refine lv_iconst (v := (nI 0)) hx hb dX4_keeps_16 (by decide) ?_
    exact ro_zret hx hb hr hlk dX4_keeps_17 (show bI false = _ from congrArg bI (by simp [k_in, *]))
  · refine lv_iconst (v := (nI 1)) hx hb dX4_keeps_12 (by decide) ?_
    refine lv_goto (tgt := 17) hx hb dX4_keeps_13 (by decide) ?_
    exact ro_zret hx hb hr hlk dX4_keeps_17 (show bI true = _ from congrArg bI (by simp [k_in, *]))
set_option maxHeartbeats 4000000 in
set_option maxRecDepth 100000 in
theorem c_fits (l : Launch) (D : va_G) (tc : Nat → ClassId) (zb : Nat) (t x : Nat) (ht : t < 1000) (hx9 : x < 1331) : RO l yX4_fits wsX4_fits 0 0 D tc zb [] [.int (nI t), .int (nI x)] (.int (bI (k_isA x t))) := by
  refine RO.of (cc := cX4_fits) (maxL := 5) (ret := (some .boolean)) (by decide) rfl (Nat.le_of_ble_eq_true rfl) ?_
  intro p e s m args below meth c hx hb hr hml hlk hts hown hM hS hP ls hl
  have hl : lv_has ls 5 [(0, .int (nI t)), (1, .int (nI x))] := hl
  refine lv_iload_n hx hb dX4_fits_0 rfl (lv_at hl 1 rfl) ?_
  refine ln_if_ge (tgt := 6) hx hb dX4_fits_1 (by decide) (by omega) ?_
  refine lv_iload_n hx hb dX4_fits_6 rfl (lv_at hl 1 rfl) ?_
  refine lv_bipush (v := (nI 121)) hx hb dX4_fits_7 (by decide) ?_
  refine ln_idiv hx hb dX4_fits_9 (by omega) (by decide) (by decide) ?_
  refine lv_istore_n (lv' := [(2, .int (nI (x / 121))), (0, .int (nI t)), (1, .int (nI x))]) hx hb dX4_fits_10 rfl hl (by decide) rfl (fun ls hl => ?_)
  refine lv_iload_n hx hb dX4_fits_11 rfl (lv_at hl 2 rfl) ?_
  refine lv_bipush (v := (nI 11)) hx hb dX4_fits_12 (by decide) ?_
  refine ln_idiv hx hb dX4_fits_14 (by omega) (by decide) (by decide) ?_
  refine lv_bipush (v := (nI 11)) hx hb dX4_fits_15 (by decide) ?_
  refine ln_irem hx hb dX4_fits_17 (by omega) (by decide) (by decide) ?_
  refine lv_istore_n (lv' := [(3, .int (nI ((x / 11) % 11))), (2, .int (nI (x / 121))), (0, .int (nI t)), (1, .int (nI x))]) hx hb dX4_fits_18 rfl hl (by decide) rfl (fun ls hl => ?_)
  refine lv_iload_n hx hb dX4_fits_19 rfl (lv_at hl 3 rfl) ?_
  refine lv_bipush (v := (nI 11)) hx hb dX4_fits_20 (by decide) ?_
  refine ln_irem hx hb dX4_fits_22 (by omega) (by decide) (by decide) ?_
  refine lv_istore (lv' := [(4, .int (nI (x % 11))), (3, .int (nI ((x / 11) % 11))), (2, .int (nI (x / 121))), (0, .int (nI t)), (1, .int (nI x))]) hx hb dX4_fits_23 hl (by decide) rfl (fun ls hl => ?_)
  refine lv_iload_n hx hb dX4_fits_25 rfl (lv_at hl 2 rfl) ?_
  refine lv_bipush (v := (nI 10)) hx hb dX4_fits_26 (by decide) ?_
  refine ln_icmp_eq (tgt := 39) hx hb dX4_fits_28 (by decide) (by omega) (by decide) (fun h1 => ?_) (fun h1 => ?_)
  · refine lv_iload_n hx hb dX4_fits_39 rfl (lv_at hl 1 rfl) ?_
    refine lv_bipush (v := (nI 10)) hx hb dX4_fits_40 (by decide) ?_
    refine ln_icmp_eq (tgt := 56) hx hb dX4_fits_42 (by decide) (by omega) (by decide) (fun h2 => ?_) (fun h2 => ?_)
    · refine lv_iload hx hb dX4_fits_56 (lv_at hl 0 rfl) ?_
      refine lv_bipush (v := (nI 10)) hx hb dX4_fits_58 (by decide) ?_
      refine ln_icmp_eq (tgt := 72) hx hb dX4_fits_60 (by decide) (by omega) (by decide) (fun h3 => ?_) (fun h3 => ?_)
      · refine lv_iconst (v := (nI 1)) hx hb dX4_fits_72 (by decide) ?_
        refine lv_goto (tgt := 77) hx hb dX4_fits_73 (by decide) ?_
        exact ro_zret hx hb hr hlk dX4_fits_77 (show bI true = _ from congrArg bI (by simp [k_isA, k_dg, k_pt, *]))
      · refine lv_iload hx hb dX4_fits_63 (lv_at hl 0 rfl) ?_
        refine lv_iload_n hx hb dX4_fits_65 rfl (lv_at hl 3 rfl) ?_
        refine lv_bipush (v := (nI 10)) hx hb dX4_fits_66 (by decide) ?_
        refine ln_irem hx hb dX4_fits_68 (by omega) (by decide) (by decide) ?_
        refine ln_icmp_ne (tgt := 76) hx hb dX4_fits_69 (by decide) (by omega) (by omega) (fun h4 => ?_) (fun h4 => ?_)
        · refine lv_iconst (v := (nI 0)) hx hb dX4_fits_76 (by decide) ?_
          exact ro_zret hx hb hr hlk dX4_fits_77 (show bI false = _ from congrArg bI (by simp [k_isA, k_dg, k_pt, *]))
        · refine lv_iconst (v := (nI 1)) hx hb dX4_fits_72 (by decide) ?_
          refine lv_goto (tgt := 77) hx hb dX4_fits_73 (by decide) ?_
          exact ro_zret hx hb hr hlk dX4_fits_77 (show bI true = _ from congrArg bI (by simp [k_isA, k_dg, k_pt, *]))
    · refine lv_iload_n hx hb dX4_fits_45 rfl (lv_at hl 1 rfl) ?_
      refine lv_iload_n hx hb dX4_fits_46 rfl (lv_at hl 3 rfl) ?_
      refine lv_bipush (v := (nI 10)) hx hb dX4_fits_47 (by decide) ?_
      refine ln_idiv hx hb dX4_fits_49 (by omega) (by decide) (by decide) ?_
      refine lv_bipush (v := (nI 10)) hx hb dX4_fits_50 (by decide) ?_
      refine ln_irem hx hb dX4_fits_52 (by omega) (by decide) (by decide) ?_
      refine ln_icmp_ne (tgt := 76) hx hb dX4_fits_53 (by decide) (by omega) (by omega) (fun h5 => ?_) (fun h5 => ?_)
      · refine lv_iconst (v := (nI 0)) hx hb dX4_fits_76 (by decide) ?_
        exact ro_zret hx hb hr hlk dX4_fits_77 (show bI false = _ from congrArg bI (by simp [k_isA, k_dg, k_pt, *]))
      · refine lv_iload hx hb dX4_fits_56 (lv_at hl 0 rfl) ?_
        refine lv_bipush (v := (nI 10)) hx hb dX4_fits_58 (by decide) ?_
        refine ln_icmp_eq (tgt := 72) hx hb dX4_fits_60 (by decide) (by omega) (by decide) (fun h6 => ?_) (fun h6 => ?_)
        · refine lv_iconst (v := (nI 1)) hx hb dX4_fits_72 (by decide) ?_
          refine lv_goto (tgt := 77) hx hb dX4_fits_73 (by decide) ?_
          exact ro_zret hx hb hr hlk dX4_fits_77 (show bI true = _ from congrArg bI (by simp [k_isA, k_dg, k_pt, *]))
        · refine lv_iload hx hb dX4_fits_63 (lv_at hl 0 rfl) ?_
          refine lv_iload_n hx hb dX4_fits_65 rfl (lv_at hl 3 rfl) ?_
          refine lv_bipush (v := (nI 10)) hx hb dX4_fits_66 (by decide) ?_
          refine ln_irem hx hb dX4_fits_68 (by omega) (by decide) (by decide) ?_
          refine ln_icmp_ne (tgt := 76) hx hb dX4_fits_69 (by decide) (by omega) (by omega) (fun h7 => ?_) (fun h7 => ?_)
          · refine lv_iconst (v := (nI 0)) hx hb dX4_fits_76 (by decide) ?_
            exact ro_zret hx hb hr hlk dX4_fits_77 (show bI false = _ from congrArg bI (by simp [k_isA, k_dg, k_pt, *]))
          · refine lv_iconst (v := (nI 1)) hx hb dX4_fits_72 (by decide) ?_
            refine lv_goto (tgt := 77) hx hb dX4_fits_73 (by decide) ?_
            exact ro_zret hx hb hr hlk dX4_fits_77 (show bI true = _ from congrArg bI (by simp [k_isA, k_dg, k_pt, *]))
  · refine lv_iload_n hx hb dX4_fits_31 rfl (lv_at hl 2 rfl) ?_
    refine lv_iload_n hx hb dX4_fits_32 rfl (lv_at hl 3 rfl) ?_
    refine lv_bipush (v := (nI 100)) hx hb dX4_fits_33 (by decide) ?_
    refine ln_idiv hx hb dX4_fits_35 (by omega) (by decide) (by decide) ?_
    refine ln_icmp_ne (tgt := 76) hx hb dX4_fits_36 (by decide) (by omega) (by omega) (fun h8 => ?_) (fun h8 => ?_)
    · refine lv_iconst (v := (nI 0)) hx hb dX4_fits_76 (by decide) ?_
      exact ro_zret hx hb hr hlk dX4_fits_77 (show bI false = _ from congrArg bI (by simp [k_isA, k_dg, k_pt, *]))
    · refine lv_iload_n hx hb dX4_fits_39 rfl (lv_at hl 1 rfl) ?_
      refine lv_bipush (v := (nI 10)) hx hb dX4_fits_40 (by decide) ?_
      refine ln_icmp_eq (tgt := 56) hx hb dX4_fits_42 (by decide) (by omega) (by decide) (fun h9 => ?_) (fun h9 => ?_)
      · refine lv_iload hx hb dX4_fits_56 (lv_at hl 0 rfl) ?_
        refine lv_bipush (v := (nI 10)) hx hb dX4_fits_58 (by decide) ?_
        refine ln_icmp_eq (tgt := 72) hx hb dX4_fits_60 (by decide) (by omega) (by decide) (fun h10 => ?_) (fun h10 => ?_)
        · refine lv_iconst (v := (nI 1)) hx hb dX4_fits_72 (by decide) ?_
          refine lv_goto (tgt := 77) hx hb dX4_fits_73 (by decide) ?_
          exact ro_zret hx hb hr hlk dX4_fits_77 (show bI true = _ from congrArg bI (by simp [k_isA, k_dg, k_pt, *]))
        · refine lv_iload hx hb dX4_fits_63 (lv_at hl 0 rfl) ?_
          refine lv_iload_n hx hb dX4_fits_65 rfl (lv_at hl 3 rfl) ?_
          refine lv_bipush (v := (nI 10)) hx hb dX4_fits_66 (by decide) ?_
          refine ln_irem hx hb dX4_fits_68 (by omega) (by decide) (by decide) ?_
          refine ln_icmp_ne (tgt := 76) hx hb dX4_fits_69 (by decide) (by omega) (by omega) (fun h11 => ?_) (fun h11 => ?_)
          · refine lv_iconst (v := (nI 0)) hx hb dX4_fits_76 (by decide) ?_
            exact ro_zret hx hb hr hlk dX4_fits_77 (show bI false = _ from congrArg bI (by simp [k_isA, k_dg, k_pt, *]))
          · refine lv_iconst (v := (nI 1)) hx hb dX4_fits_72 (by decide) ?_
            refine lv_goto (tgt := 77) hx hb dX4_fits_73 (by decide) ?_
            exact ro_zret hx hb hr hlk dX4_fits_77 (show bI true = _ from congrArg bI (by simp [k_isA, k_dg, k_pt, *]))
      · refine lv_iload_n hx hb dX4_fits_45 rfl (lv_at hl 1 rfl) ?_
        refine lv_iload_n hx hb dX4_fits_46 rfl (lv_at hl 3 rfl) ?_
        refine lv_bipush (v := (nI 10)) hx hb dX4_fits_47 (by decide) ?_
        refine ln_idiv hx hb dX4_fits_49 (by omega) (by decide) (by decide) ?_
        refine lv_bipush (v := (nI 10)) hx hb dX4_fits_50 (by decide) ?_
        refine ln_irem hx hb dX4_fits_52 (by omega) (by decide) (by decide) ?_
        refine ln_icmp_ne (tgt := 76) hx hb dX4_fits_53 (by decide) (by omega) (by omega) (fun h12 => ?_) (fun h12 => ?_)
        · refine lv_iconst (v := (nI 0)) hx hb dX4_fits_76 (by decide) ?_
          exact ro_zret hx hb hr hlk dX4_fits_77 (show bI false = _ from congrArg bI (by simp [k_isA, k_dg, k_pt, *]))
        · refine lv_iload hx hb dX4_fits_56 (lv_at hl 0 rfl) ?_
          refine lv_bipush (v := (nI 10)) hx hb dX4_fits_58 (by decide) ?_
          refine ln_icmp_eq (tgt := 72) hx hb dX4_fits_60 (by decide) (by omega) (by decide) (fun h13 => ?_) (fun h13 => ?_)
          · refine lv_iconst (v := (nI 1)) hx hb dX4_fits_72 (by decide) ?_
            refine lv_goto (tgt := 77) hx hb dX4_fits_73 (by decide) ?_
            exact ro_zret hx hb hr hlk dX4_fits_77 (show bI true = _ from congrArg bI (by simp [k_isA, k_dg, k_pt, *]))
          · refine lv_iload hx hb dX4_fits_63 (lv_at hl 0 rfl) ?_
            refine lv_iload_n hx hb dX4_fits_65 rfl (lv_at hl 3 rfl) ?_
            refine lv_bipush (v := (nI 10)) hx hb dX4_fits_66 (by decide) ?_
            refine ln_irem hx hb dX4_fits_68 (by omega) (by decide) (by decide) ?_
            refine ln_icmp_ne (tgt := 76) hx hb dX4_fits_69 (by decide) (by omega) (by omega) (fun h14 => ?_) (fun h14 => ?_)
            · refine lv_iconst (v := (nI 0)) hx hb dX4_fits_76 (by decide) ?_
              exact ro_zret hx hb hr hlk dX4_fits_77 (show bI false = _ from congrArg bI (by simp [k_isA, k_dg, k_pt, *]))
            · refine lv_iconst (v := (nI 1)) hx hb dX4_fits_72 (by decide) ?_
              refine lv_goto (tgt := 77) hx hb dX4_fits_73 (by decide) ?_
              exact ro_zret hx hb hr hlk dX4_fits_77 (show bI true = _ from congrArg bI (by simp [k_isA, k_dg, k_pt, *]))
set_option maxHeartbeats 4000000 in
set_option maxRecDepth 100000 in
theorem c_fitsN (l : Launch) (D : va_G) (tc : Nat → ClassId) (zb : Nat) (t : Nat) (ht : t < 1000) : RO l yX4_fits wsX4_fits 0 0 D tc zb [] [.int (nI t), .int (-1)] (.int (bI (false))) := by
  refine RO.of (cc := cX4_fits) (maxL := 5) (ret := (some .boolean)) (by decide) rfl (Nat.le_of_ble_eq_true rfl) ?_
  intro p e s m args below meth c hx hb hr hml hlk hts hown hM hS hP ls hl
  have hl : lv_has ls 5 [(0, .int (nI t)), (1, .int (-1))] := hl
  refine lv_iload_n hx hb dX4_fits_0 rfl (lv_at hl 1 rfl) ?_
  refine lv_if_ge (tgt := 6) hx hb dX4_fits_1 (by decide) (fun h9 => False.elim (by revert h9; decide)) (fun _ => ?_)
  refine lv_iconst (v := (nI 0)) hx hb dX4_fits_4 (by decide) ?_
  exact ro_zret hx hb hr hlk dX4_fits_5 (show bI false = _ from congrArg bI (by simp [k_isA, k_dg, k_pt, *]))
set_option maxHeartbeats 4000000 in
set_option maxRecDepth 100000 in
theorem c_indexOf (l : Launch) (D : va_G) (tc : Nat → ClassId) (zb : Nat) (a a1 a2 : Nat) (tr qs : Nat → Int32) (g : Nat → Nat) (t : Nat) (hk : k_ok g) (hR : k_R tr qs g) (ht : t < 1000) : RO l yX4_indexOf wsX4_indexOf 1 21 D tc zb (w_st tc a a1 a2 tr qs g) [.ref a, .int (nI t)] (.int (oI (k_ix g t))) := by
  refine RO.of (cc := cX4_indexOf) (maxL := 3) (ret := (some .int)) (by decide) rfl (Nat.le_of_ble_eq_true rfl) ?_
  intro p e s m args below meth c hx hb hr hml hlk hts hown hM hS hP ls hl
  have hl : lv_has ls 3 [(0, .ref a), (1, .int (nI t))] := hl
  have hinX4 : ∀ w ∈ u_ws RX4 TX4 10, w ∈ wsX4_indexOf := by decide +kernel
  obtain ⟨ok0, ok1, ok2, ok3, ok4, ok5, ok6⟩ := id hk
  refine lv_iconst (v := (nI 0)) hx hb dX4_indexOf_0 (by decide) ?_
  refine lv_istore_n (lv' := [(2, .int (nI 0)), (0, .ref a), (1, .int (nI t))]) hx hb dX4_indexOf_1 rfl hl (by decide) rfl (fun ls hl => ?_)
  have lp2 : ∀ (n9 : Nat) (i : Nat), (g 0 - i) < n9 → (i ≤ g 0) → (k_ix0 g t i = none) → ∀ ls : Array Slot, lv_has ls 3 [(2, .int (nI i)), (0, .ref a), (1, .int (nI t))] → W p l e ({ frames := 1, cells := 0, slots := 0, locals := 21 } : Room) s m args below meth c s.heap [] 0 0 (MQ below (roQ (.int (oI (k_ix g t)))) args s 0 0 (fun _ => False)) (F0 m 2 ls []) := by
    intro n9
    induction n9 with
    | zero => intro i hmu; exact absurd hmu (Nat.not_lt_zero _)
    | succ n9 ih2 =>
      intro i hmu hi hv ls hl
      refine lv_iload_n hx hb dX4_indexOf_2 rfl (lv_at hl 0 rfl) ?_
      refine lv_aload_n hx hb dX4_indexOf_3 rfl (lv_at hl 1 rfl) ?_
      refine va_get (D := D) (ci := 3) (v := .int (nI (g 0))) (C := RX4) (T := TX4) (N := 10) hx hb hts hinX4 hown hM.1 hP 0 rfl rfl 1 (by decide) (hts (.fieldLink RX4 25 "TripleWays$State" "size" "I") (by decide +kernel)) (fun _ h9 => h9) rfl dX4_indexOf_4 ?_
      refine ln_icmp_ge (tgt := 27) hx hb dX4_indexOf_7 (by decide) (by omega) (by omega) (fun h1 => ?_) (fun h1 => ?_)
      · refine lv_iconst (v := (-1)) hx hb dX4_indexOf_27 (by decide) ?_
        exact ro_iret hx hb hr hlk dX4_indexOf_28 (show oI none = _ from congrArg oI (by have e9 : i = g 0 := (by omega); subst e9; exact hv.symm))
      · refine lv_aload_n hx hb dX4_indexOf_10 rfl (lv_at hl 1 rfl) ?_
        refine lv_iload_n hx hb dX4_indexOf_11 rfl (lv_at hl 0 rfl) ?_
        refine ro_V (C := RX4) (n := 1) ⟨hx, hb, hml, hown, hts⟩ hM hS hP (c_tripleAt l D tc zb a a1 a2 tr qs g i hk hR (by omega)) gX4_indexOf_X4_tripleAt rfl (by decide +kernel) ⟨Nat.le_of_ble_eq_true rfl, Nat.le_of_ble_eq_true rfl⟩ [0, 1, 2] rfl (va_recv hM.1 hP (ci := 3) (q0 := 0) rfl rfl) rfl hl.1 rfl (Nat.le_of_ble_eq_true rfl) dX4_indexOf_12 ⟨Nat.le_refl _, Nat.le_refl _⟩ ?_
        have hf2 := hk.2.2.2.2.1 i (by omega)
        refine lv_iload_n hx hb dX4_indexOf_15 rfl (lv_at hl 2 rfl) ?_
        refine ln_icmp_ne (tgt := 21) hx hb dX4_indexOf_16 (by decide) (by omega) (by omega) (fun h3 => ?_) (fun h3 => ?_)
        · refine lv_iinc (v := (nI (i + 1))) (lv' := [(2, .int (nI (i + 1))), (0, .ref a), (1, .int (nI t))]) hx hb dX4_indexOf_21 hl (k := 0) rfl (nI_add i 1) (by decide) rfl (fun ls hl => ?_)
          refine lv_goto (tgt := 2) hx hb dX4_indexOf_24 (by decide) ?_
          exact ih2 (i + 1) (by omega) (by omega) (by simp [k_ix0, *]) _ (lv_sub hl [0, 1, 2] rfl)
        · refine lv_iload_n hx hb dX4_indexOf_19 rfl (lv_at hl 0 rfl) ?_
          exact ro_iret hx hb hr hlk dX4_indexOf_20 (show oI (some i) = _ from congrArg oI (by exact (k_ix_hit hv (by omega) (by omega)).symm))
  exact lp2 _ 0 (Nat.lt_succ_self _) (by omega) (by rfl) _ (lv_sub hl [0, 1, 2] rfl)
set_option maxHeartbeats 4000000 in
set_option maxRecDepth 100000 in
theorem c_canPut (l : Launch) (D : va_G) (tc : Nat → ClassId) (zb : Nat) (a a1 a2 : Nat) (tr qs : Nat → Int32) (g : Nat → Nat) (t : Nat) (hk : k_ok g) (hR : k_R tr qs g) (ht : t < 1000) : RO l yX4_canPut wsX4_canPut 2 43 D tc zb (w_st tc a a1 a2 tr qs g) [.ref a, .int (nI t)] (.int (bI (decide (g 0 < 40) || (k_ix g t).isSome))) := by
  refine RO.of (cc := cX4_canPut) (maxL := 2) (ret := (some .boolean)) (by decide) rfl (Nat.le_of_ble_eq_true rfl) ?_
  intro p e s m args below meth c hx hb hr hml hlk hts hown hM hS hP ls hl
  have hl : lv_has ls 2 [(0, .ref a), (1, .int (nI t))] := hl
  have hinX4 : ∀ w ∈ u_ws RX4 TX4 10, w ∈ wsX4_canPut := by decide +kernel
  obtain ⟨ok0, ok1, ok2, ok3, ok4, ok5, ok6⟩ := id hk
  refine lv_aload_n hx hb dX4_canPut_0 rfl (lv_at hl 0 rfl) ?_
  refine va_get (D := D) (ci := 3) (v := .int (nI (g 0))) (C := RX4) (T := TX4) (N := 10) hx hb hts hinX4 hown hM.1 hP 0 rfl rfl 1 (by decide) (hts (.fieldLink RX4 25 "TripleWays$State" "size" "I") (by decide +kernel)) (fun _ h9 => h9) rfl dX4_canPut_1 ?_
  refine lv_aload_n hx hb dX4_canPut_4 rfl (lv_at hl 0 rfl) ?_
  refine va_get (D := D) (ci := 3) (v := .ref a1) (C := RX4) (T := TX4) (N := 10) hx hb hts hinX4 hown hM.1 hP 0 rfl rfl 0 (by decide) (hts (.fieldLink RX4 9 "TripleWays$State" "triples" "[I") (by decide +kernel)) (fun _ h9 => h9) rfl dX4_canPut_5 ?_
  refine va_alen hx hb hM.1 hP 1 0 rfl rfl (v := nI 40) rfl dX4_canPut_8 ?_
  refine ln_icmp_lt (tgt := 21) hx hb dX4_canPut_9 (by decide) (by omega) (by decide) (fun h1 => ?_) (fun h1 => ?_)
  · refine lv_iconst (v := (nI 1)) hx hb dX4_canPut_21 (by decide) ?_
    refine lv_goto (tgt := 26) hx hb dX4_canPut_22 (by decide) ?_
    exact ro_zret hx hb hr hlk dX4_canPut_26 (show bI true = _ from congrArg bI (by simp [*] <;> omega))
  · refine lv_aload_n hx hb dX4_canPut_12 rfl (lv_at hl 0 rfl) ?_
    refine lv_iload_n hx hb dX4_canPut_13 rfl (lv_at hl 1 rfl) ?_
    refine ro_V (C := RX4) (n := 1) ⟨hx, hb, hml, hown, hts⟩ hM hS hP (c_indexOf l D tc zb a a1 a2 tr qs g t hk hR (by omega)) gX4_canPut_X4_indexOf rfl (by decide +kernel) ⟨Nat.le_of_ble_eq_true rfl, Nat.le_of_ble_eq_true rfl⟩ [0, 1, 2] rfl (va_recv hM.1 hP (ci := 3) (q0 := 0) rfl rfl) rfl hl.1 rfl (Nat.le_of_ble_eq_true rfl) dX4_canPut_14 ⟨Nat.le_refl _, Nat.le_refl _⟩ ?_
    cases ho14 : k_ix g t with
    | none =>
      refine ln_eq (x' := -1) rfl ?_
      refine lv_iconst (v := (-1)) hx hb dX4_canPut_17 (by decide) ?_
      refine lv_icmp_eq (tgt := 25) hx hb dX4_canPut_18 (by decide) (fun _ => ?_) (fun h9 => False.elim (by revert h9; decide))
      refine lv_iconst (v := (nI 0)) hx hb dX4_canPut_25 (by decide) ?_
      exact ro_zret hx hb hr hlk dX4_canPut_26 (show bI false = _ from congrArg bI (by simp [*] <;> omega))
    | some r14 =>
      refine ln_eq (x' := nI r14) rfl ?_
      have hr9 := k_ix_lt ho14
      refine lv_iconst (v := (-1)) hx hb dX4_canPut_17 (by decide) ?_
      refine ln_eq_m1 (tgt := 25) hx hb dX4_canPut_18 (by decide) (by omega) ?_
      refine lv_iconst (v := (nI 1)) hx hb dX4_canPut_21 (by decide) ?_
      refine lv_goto (tgt := 26) hx hb dX4_canPut_22 (by decide) ?_
      exact ro_zret hx hb hr hlk dX4_canPut_26 (show bI true = _ from congrArg bI (by simp [*] <;> omega))
set_option maxHeartbeats 4000000 in
set_option maxRecDepth 100000 in
theorem c_countAnswers (l : Launch) (D : va_G) (tc : Nat → ClassId) (zb : Nat) (a a1 a2 : Nat) (tr qs : Nat → Int32) (g : Nat → Nat) (x : Nat) (hk : k_ok g) (hR : k_R tr qs g) (hx9 : x < 1331) : RO l yX4_countAnswers wsX4_countAnswers 1 24 D tc zb (w_st tc a a1 a2 tr qs g) [.ref a, .int (nI x)] (.int (nI (k_cnt g x))) := by
  refine RO.of (cc := cX4_countAnswers) (maxL := 4) (ret := (some .int)) (by decide) rfl (Nat.le_of_ble_eq_true rfl) ?_
  intro p e s m args below meth c hx hb hr hml hlk hts hown hM hS hP ls hl
  have hl : lv_has ls 4 [(0, .ref a), (1, .int (nI x))] := hl
  have hinX4 : ∀ w ∈ u_ws RX4 TX4 10, w ∈ wsX4_countAnswers := by decide +kernel
  obtain ⟨ok0, ok1, ok2, ok3, ok4, ok5, ok6⟩ := id hk
  refine lv_iconst (v := (nI 0)) hx hb dX4_countAnswers_0 (by decide) ?_
  refine lv_istore_n (lv' := [(2, .int (nI 0)), (0, .ref a), (1, .int (nI x))]) hx hb dX4_countAnswers_1 rfl hl (by decide) rfl (fun ls hl => ?_)
  refine lv_iconst (v := (nI 0)) hx hb dX4_countAnswers_2 (by decide) ?_
  refine lv_istore_n (lv' := [(3, .int (nI 0)), (2, .int (nI 0)), (0, .ref a), (1, .int (nI x))]) hx hb dX4_countAnswers_3 rfl hl (by decide) rfl (fun ls hl => ?_)
  have lp4 : ∀ (n9 : Nat) (acc : Nat) (i : Nat), (g 0 - i) < n9 → (i ≤ g 0) → (acc = k_cn g x i) → (acc ≤ i) → ∀ ls : Array Slot, lv_has ls 4 [(3, .int (nI i)), (2, .int (nI acc)), (0, .ref a), (1, .int (nI x))] → W p l e ({ frames := 1, cells := 0, slots := 0, locals := 24 } : Room) s m args below meth c s.heap [] 0 0 (MQ below (roQ (.int (nI (k_cnt g x)))) args s 0 0 (fun _ => False)) (F0 m 4 ls []) := by
    intro n9
    induction n9 with
    | zero => intro acc i hmu; exact absurd hmu (Nat.not_lt_zero _)
    | succ n9 ih4 =>
      intro acc i hmu hi hv hac ls hl
      refine lv_iload_n hx hb dX4_countAnswers_4 rfl (lv_at hl 0 rfl) ?_
      refine lv_aload_n hx hb dX4_countAnswers_5 rfl (lv_at hl 2 rfl) ?_
      refine va_get (D := D) (ci := 3) (v := .int (nI (g 0))) (C := RX4) (T := TX4) (N := 10) hx hb hts hinX4 hown hM.1 hP 0 rfl rfl 1 (by decide) (hts (.fieldLink RX4 25 "TripleWays$State" "size" "I") (by decide +kernel)) (fun _ h9 => h9) rfl dX4_countAnswers_6 ?_
      refine ln_icmp_ge (tgt := 33) hx hb dX4_countAnswers_9 (by decide) (by omega) (by omega) (fun h1 => ?_) (fun h1 => ?_)
      · refine lv_iload_n hx hb dX4_countAnswers_33 rfl (lv_at hl 1 rfl) ?_
        exact ro_iret hx hb hr hlk dX4_countAnswers_34 (congrArg nI (by have e9 : i = g 0 := (by omega); subst e9; exact hv))
      · refine lv_aload_n hx hb dX4_countAnswers_12 rfl (lv_at hl 2 rfl) ?_
        refine lv_iload_n hx hb dX4_countAnswers_13 rfl (lv_at hl 0 rfl) ?_
        refine ro_V (C := RX4) (n := 1) ⟨hx, hb, hml, hown, hts⟩ hM hS hP (c_tripleAt l D tc zb a a1 a2 tr qs g i hk hR (by omega)) gX4_countAnswers_X4_tripleAt rfl (by decide +kernel) ⟨Nat.le_of_ble_eq_true rfl, Nat.le_of_ble_eq_true rfl⟩ [0, 1, 2] rfl (va_recv hM.1 hP (ci := 3) (q0 := 0) rfl rfl) rfl hl.1 rfl (Nat.le_of_ble_eq_true rfl) dX4_countAnswers_14 ⟨Nat.le_refl _, Nat.le_refl _⟩ ?_
        have hf2 := hk.2.2.2.2.1 i (by omega)
        refine lv_iload_n hx hb dX4_countAnswers_17 rfl (lv_at hl 3 rfl) ?_
        refine ro_S (n := 2) ⟨hx, hb, hml, hown, hts⟩ hM hS hP (c_fits l D tc zb (g (1 + i)) x (by omega) (by omega)) gX4_countAnswers_X4_fits rfl (by decide +kernel) ⟨Nat.le_of_ble_eq_true rfl, Nat.le_of_ble_eq_true rfl⟩ [] rfl rfl hl.1 rfl (Nat.le_of_ble_eq_true rfl) dX4_countAnswers_18 ⟨Nat.le_refl _, Nat.le_refl _⟩ ?_
        refine ln_if_eqB (tgt := 27) hx hb dX4_countAnswers_21 (by decide) (fun h3 => ?_) (fun h3 => ?_)
        · refine lv_iinc (v := (nI (i + 1))) (lv' := [(3, .int (nI (i + 1))), (2, .int (nI acc)), (0, .ref a), (1, .int (nI x))]) hx hb dX4_countAnswers_27 hl (k := 0) rfl (nI_add i 1) (by decide) rfl (fun ls hl => ?_)
          refine lv_goto (tgt := 4) hx hb dX4_countAnswers_30 (by decide) ?_
          exact ih4 acc (i + 1) (by omega) (by omega) (by simp [k_cn, *]) (by omega) _ (lv_sub hl [0, 1, 2, 3] rfl)
        · refine lv_iinc (v := (nI (acc + 1))) (lv' := [(2, .int (nI (acc + 1))), (3, .int (nI i)), (0, .ref a), (1, .int (nI x))]) hx hb dX4_countAnswers_24 hl (k := 1) rfl (nI_add acc 1) (by decide) rfl (fun ls hl => ?_)
          refine lv_iinc (v := (nI (i + 1))) (lv' := [(3, .int (nI (i + 1))), (2, .int (nI (acc + 1))), (0, .ref a), (1, .int (nI x))]) hx hb dX4_countAnswers_27 hl (k := 1) rfl (nI_add i 1) (by decide) rfl (fun ls hl => ?_)
          refine lv_goto (tgt := 4) hx hb dX4_countAnswers_30 (by decide) ?_
          exact ih4 (acc + 1) (i + 1) (by omega) (by omega) (by simp [k_cn, *]) (by omega) _ (lv_sub hl [0, 1, 2, 3] rfl)
  exact lp4 _ 0 0 (Nat.lt_succ_self _) (by omega) (by rfl) (by omega) _ (lv_sub hl [0, 1, 2, 3] rfl)
set_option maxHeartbeats 4000000 in
set_option maxRecDepth 100000 in
theorem c_countAnswersN (l : Launch) (D : va_G) (tc : Nat → ClassId) (zb : Nat) (a a1 a2 : Nat) (tr qs : Nat → Int32) (g : Nat → Nat) (hk : k_ok g) (hR : k_R tr qs g) : RO l yX4_countAnswers wsX4_countAnswers 1 24 D tc zb (w_st tc a a1 a2 tr qs g) [.ref a, .int (-1)] (.int (nI 0)) := by
  refine RO.of (cc := cX4_countAnswers) (maxL := 4) (ret := (some .int)) (by decide) rfl (Nat.le_of_ble_eq_true rfl) ?_
  intro p e s m args below meth c hx hb hr hml hlk hts hown hM hS hP ls hl
  have hl : lv_has ls 4 [(0, .ref a), (1, .int (-1))] := hl
  have hinX4 : ∀ w ∈ u_ws RX4 TX4 10, w ∈ wsX4_countAnswers := by decide +kernel
  obtain ⟨ok0, ok1, ok2, ok3, ok4, ok5, ok6⟩ := id hk
  refine lv_iconst (v := (nI 0)) hx hb dX4_countAnswers_0 (by decide) ?_
  refine lv_istore_n (lv' := [(2, .int (nI 0)), (0, .ref a), (1, .int (-1))]) hx hb dX4_countAnswers_1 rfl hl (by decide) rfl (fun ls hl => ?_)
  refine lv_iconst (v := (nI 0)) hx hb dX4_countAnswers_2 (by decide) ?_
  refine lv_istore_n (lv' := [(3, .int (nI 0)), (2, .int (nI 0)), (0, .ref a), (1, .int (-1))]) hx hb dX4_countAnswers_3 rfl hl (by decide) rfl (fun ls hl => ?_)
  have lp4 : ∀ (n9 : Nat) (acc : Nat) (i : Nat), (g 0 - i) < n9 → (i ≤ g 0) → (acc = 0) → (acc ≤ i) → ∀ ls : Array Slot, lv_has ls 4 [(3, .int (nI i)), (2, .int (nI acc)), (0, .ref a), (1, .int (-1))] → W p l e ({ frames := 1, cells := 0, slots := 0, locals := 24 } : Room) s m args below meth c s.heap [] 0 0 (MQ below (roQ (.int (nI 0))) args s 0 0 (fun _ => False)) (F0 m 4 ls []) := by
    intro n9
    induction n9 with
    | zero => intro acc i hmu; exact absurd hmu (Nat.not_lt_zero _)
    | succ n9 ih4 =>
      intro acc i hmu hi hv hac ls hl
      refine lv_iload_n hx hb dX4_countAnswers_4 rfl (lv_at hl 0 rfl) ?_
      refine lv_aload_n hx hb dX4_countAnswers_5 rfl (lv_at hl 2 rfl) ?_
      refine va_get (D := D) (ci := 3) (v := .int (nI (g 0))) (C := RX4) (T := TX4) (N := 10) hx hb hts hinX4 hown hM.1 hP 0 rfl rfl 1 (by decide) (hts (.fieldLink RX4 25 "TripleWays$State" "size" "I") (by decide +kernel)) (fun _ h9 => h9) rfl dX4_countAnswers_6 ?_
      refine ln_icmp_ge (tgt := 33) hx hb dX4_countAnswers_9 (by decide) (by omega) (by omega) (fun h1 => ?_) (fun h1 => ?_)
      · refine lv_iload_n hx hb dX4_countAnswers_33 rfl (lv_at hl 1 rfl) ?_
        exact ro_iret hx hb hr hlk dX4_countAnswers_34 (congrArg nI (by exact hv))
      · refine lv_aload_n hx hb dX4_countAnswers_12 rfl (lv_at hl 2 rfl) ?_
        refine lv_iload_n hx hb dX4_countAnswers_13 rfl (lv_at hl 0 rfl) ?_
        refine ro_V (C := RX4) (n := 1) ⟨hx, hb, hml, hown, hts⟩ hM hS hP (c_tripleAt l D tc zb a a1 a2 tr qs g i hk hR (by omega)) gX4_countAnswers_X4_tripleAt rfl (by decide +kernel) ⟨Nat.le_of_ble_eq_true rfl, Nat.le_of_ble_eq_true rfl⟩ [0, 1, 2] rfl (va_recv hM.1 hP (ci := 3) (q0 := 0) rfl rfl) rfl hl.1 rfl (Nat.le_of_ble_eq_true rfl) dX4_countAnswers_14 ⟨Nat.le_refl _, Nat.le_refl _⟩ ?_
        have hf2 := hk.2.2.2.2.1 i (by omega)
        refine lv_iload_n hx hb dX4_countAnswers_17 rfl (lv_at hl 3 rfl) ?_
        refine ro_S (n := 2) ⟨hx, hb, hml, hown, hts⟩ hM hS hP (c_fitsN l D tc zb (g (1 + i)) (by omega)) gX4_countAnswers_X4_fits rfl (by decide +kernel) ⟨Nat.le_of_ble_eq_true rfl, Nat.le_of_ble_eq_true rfl⟩ [] rfl rfl hl.1 rfl (Nat.le_of_ble_eq_true rfl) dX4_countAnswers_18 ⟨Nat.le_refl _, Nat.le_refl _⟩ ?_
        refine lv_if_eq (tgt := 27) hx hb dX4_countAnswers_21 (by decide) (fun _ => ?_) (fun h9 => False.elim (by revert h9; decide))
        refine lv_iinc (v := (nI (i + 1))) (lv' := [(3, .int (nI (i + 1))), (2, .int (nI acc)), (0, .ref a), (1, .int (-1))]) hx hb dX4_countAnswers_27 hl (k := 0) rfl (nI_add i 1) (by decide) rfl (fun ls hl => ?_)
        refine lv_goto (tgt := 4) hx hb dX4_countAnswers_30 (by decide) ?_
        exact ih4 acc (i + 1) (by omega) (by omega) (by simp_all) (by omega) _ (lv_sub hl [0, 1, 2, 3] rfl)
  exact lp4 _ 0 0 (Nat.lt_succ_self _) (by omega) (by rfl) (by omega) _ (lv_sub hl [0, 1, 2, 3] rfl)
set_option maxHeartbeats 4000000 in
set_option maxRecDepth 100000 in
theorem c_costBy (l : Launch) (D : va_G) (tc : Nat → ClassId) (zb : Nat) (a a1 a2 : Nat) (tr qs : Nat → Int32) (g : Nat → Nat) (x q : Nat) (hk : k_ok g) (hR : k_R tr qs g) (hx9 : x < 1331) (hq : q < 6) : RO l yX4_costBy wsX4_costBy 2 47 D tc zb (w_st tc a a1 a2 tr qs g) [.ref a, .int (nI x), .int (nI q)] (.int (nI (k_cb g x q))) := by
  refine RO.of (cc := cX4_costBy) (maxL := 4) (ret := (some .int)) (by decide) rfl (Nat.le_of_ble_eq_true rfl) ?_
  intro p e s m args below meth c hx hb hr hml hlk hts hown hM hS hP ls hl
  have hl : lv_has ls 4 [(0, .ref a), (1, .int (nI x)), (2, .int (nI q))] := hl
  have hinX4 : ∀ w ∈ u_ws RX4 TX4 10, w ∈ wsX4_costBy := by decide +kernel
  obtain ⟨ok0, ok1, ok2, ok3, ok4, ok5, ok6⟩ := id hk
  refine lv_iload_n hx hb dX4_costBy_0 rfl (lv_at hl 1 rfl) ?_
  refine lv_iload_n hx hb dX4_costBy_1 rfl (lv_at hl 2 rfl) ?_
  refine ro_S (n := 2) ⟨hx, hb, hml, hown, hts⟩ hM hS hP (c_reachOf l D tc zb x q (by omega) (by omega)) gX4_costBy_X2_reachOf rfl (by decide +kernel) ⟨Nat.le_of_ble_eq_true rfl, Nat.le_of_ble_eq_true rfl⟩ [] rfl rfl hl.1 rfl (Nat.le_of_ble_eq_true rfl) dX4_costBy_2 ⟨Nat.le_refl _, Nat.le_refl _⟩ ?_
  have hf1 := k_rch_le x q
  refine lv_istore_n (lv' := [(3, .int (nI (k_rch x q))), (0, .ref a), (1, .int (nI x)), (2, .int (nI q))]) hx hb dX4_costBy_5 rfl hl (by decide) rfl (fun ls hl => ?_)
  refine lv_iload_n hx hb dX4_costBy_6 rfl (lv_at hl 0 rfl) ?_
  refine ln_if_ne (tgt := 17) hx hb dX4_costBy_7 (by decide) (by omega) (fun h2 => ?_) (fun h2 => ?_)
  · refine lv_aload_n hx hb dX4_costBy_17 rfl (lv_at hl 1 rfl) ?_
    refine ro_V (C := RX4) (n := 0) ⟨hx, hb, hml, hown, hts⟩ hM hS hP (c_look l D tc zb a a1 a2 tr qs g hk hR) gX4_costBy_X4_look rfl (by decide +kernel) ⟨Nat.le_of_ble_eq_true rfl, Nat.le_of_ble_eq_true rfl⟩ [0, 1, 2] rfl (va_recv hM.1 hP (ci := 3) (q0 := 0) rfl rfl) rfl hl.1 rfl (Nat.le_of_ble_eq_true rfl) dX4_costBy_18 ⟨Nat.le_refl _, Nat.le_refl _⟩ ?_
    have hf3 := k_lk_le (g 0)
    refine lv_aload_n hx hb dX4_costBy_21 rfl (lv_at hl 1 rfl) ?_
    refine lv_iload_n hx hb dX4_costBy_22 rfl (lv_at hl 2 rfl) ?_
    refine lv_iload_n hx hb dX4_costBy_23 rfl (lv_at hl 3 rfl) ?_
    refine lv_iload_n hx hb dX4_costBy_24 rfl (lv_at hl 0 rfl) ?_
    refine ro_S (n := 3) ⟨hx, hb, hml, hown, hts⟩ hM hS hP (c_reachedPart l D tc zb x q (k_rch x q) (by omega) (by omega) (by omega)) gX4_costBy_X2_reachedPart rfl (by decide +kernel) ⟨Nat.le_of_ble_eq_true rfl, Nat.le_of_ble_eq_true rfl⟩ [] rfl rfl hl.1 rfl (Nat.le_of_ble_eq_true rfl) dX4_costBy_25 ⟨Nat.le_refl _, Nat.le_refl _⟩ ?_
    have hf4 := show k_red x q (k_rch x q) < 1331 from k_red_lt (by omega) (by omega)
    refine ro_V (C := RX4) (n := 1) ⟨hx, hb, hml, hown, hts⟩ hM hS hP (c_countAnswers l D tc zb a a1 a2 tr qs g (k_red x q (k_rch x q)) hk hR (by omega)) gX4_costBy_X4_countAnswers rfl (by decide +kernel) ⟨Nat.le_of_ble_eq_true rfl, Nat.le_of_ble_eq_true rfl⟩ [0, 1, 2] rfl (va_recv hM.1 hP (ci := 3) (q0 := 0) rfl rfl) rfl hl.1 rfl (Nat.le_of_ble_eq_true rfl) dX4_costBy_28 ⟨Nat.le_refl _, Nat.le_refl _⟩ ?_
    have hf5 := k_cnt_le g (k_red x q (k_rch x q))
    refine ln_iadd hx hb dX4_costBy_31 ?_
    exact ro_iret hx hb hr hlk dX4_costBy_32 (congrArg nI (by unfold k_cb; (repeat' split) <;> omega))
  · refine lv_aload_n hx hb dX4_costBy_10 rfl (lv_at hl 1 rfl) ?_
    refine va_get (D := D) (ci := 3) (v := .int (nI (g 0))) (C := RX4) (T := TX4) (N := 10) hx hb hts hinX4 hown hM.1 hP 0 rfl rfl 1 (by decide) (hts (.fieldLink RX4 25 "TripleWays$State" "size" "I") (by decide +kernel)) (fun _ h9 => h9) rfl dX4_costBy_11 ?_
    refine lv_goto (tgt := 32) hx hb dX4_costBy_14 (by decide) ?_
    exact ro_iret hx hb hr hlk dX4_costBy_32 (congrArg nI (by unfold k_cb; (repeat' split) <;> omega))
set_option maxHeartbeats 4000000 in
set_option maxRecDepth 100000 in
theorem c_costNow (l : Launch) (D : va_G) (tc : Nat → ClassId) (zb : Nat) (a a1 a2 : Nat) (tr qs : Nat → Int32) (g : Nat → Nat) (x : Nat) (hk : k_ok g) (hR : k_R tr qs g) (hx9 : x < 1331) : RO l yX4_costNow wsX4_costNow 3 70 D tc zb (w_st tc a a1 a2 tr qs g) [.ref a, .int (nI x)] (.int (nI (k_mn g x (g 41) 6))) := by
  refine RO.of (cc := cX4_costNow) (maxL := 4) (ret := (some .int)) (by decide) rfl (Nat.le_of_ble_eq_true rfl) ?_
  intro p e s m args below meth c hx hb hr hml hlk hts hown hM hS hP ls hl
  have hl : lv_has ls 4 [(0, .ref a), (1, .int (nI x))] := hl
  have hinX4 : ∀ w ∈ u_ws RX4 TX4 10, w ∈ wsX4_costNow := by decide +kernel
  obtain ⟨ok0, ok1, ok2, ok3, ok4, ok5, ok6⟩ := id hk
  refine lv_aload_n hx hb dX4_costNow_0 rfl (lv_at hl 0 rfl) ?_
  refine va_get (D := D) (ci := 3) (v := .int (nI (g 0))) (C := RX4) (T := TX4) (N := 10) hx hb hts hinX4 hown hM.1 hP 0 rfl rfl 1 (by decide) (hts (.fieldLink RX4 25 "TripleWays$State" "size" "I") (by decide +kernel)) (fun _ h9 => h9) rfl dX4_costNow_1 ?_
  refine lv_istore_n (lv' := [(2, .int (nI (g 0))), (0, .ref a), (1, .int (nI x))]) hx hb dX4_costNow_4 rfl hl (by decide) rfl (fun ls hl => ?_)
  refine lv_iconst (v := (nI 0)) hx hb dX4_costNow_5 (by decide) ?_
  refine lv_istore_n (lv' := [(3, .int (nI 0)), (2, .int (nI (g 0))), (0, .ref a), (1, .int (nI x))]) hx hb dX4_costNow_6 rfl hl (by decide) rfl (fun ls hl => ?_)
  have lp7 : ∀ (n9 : Nat) (v : Nat) (i : Nat), (6 - i) < n9 → (i ≤ 6) → (v = k_mn g x (g 41) i) → (v ≤ g 0) → ∀ ls : Array Slot, lv_has ls 4 [(3, .int (nI i)), (2, .int (nI v)), (0, .ref a), (1, .int (nI x))] → W p l e ({ frames := 3, cells := 0, slots := 0, locals := 70 } : Room) s m args below meth c s.heap [] 0 0 (MQ below (roQ (.int (nI (k_mn g x (g 41) 6)))) args s 0 0 (fun _ => False)) (F0 m 7 ls []) := by
    intro n9
    induction n9 with
    | zero => intro v i hmu; exact absurd hmu (Nat.not_lt_zero _)
    | succ n9 ih7 =>
      intro v i hmu hi hv hvb ls hl
      refine lv_iload_n hx hb dX4_costNow_7 rfl (lv_at hl 0 rfl) ?_
      refine lv_bipush (v := (nI 6)) hx hb dX4_costNow_8 (by decide) ?_
      refine ln_icmp_ge (tgt := 38) hx hb dX4_costNow_10 (by decide) (by omega) (by decide) (fun h1 => ?_) (fun h1 => ?_)
      · refine lv_iload_n hx hb dX4_costNow_38 rfl (lv_at hl 1 rfl) ?_
        exact ro_iret hx hb hr hlk dX4_costNow_39 (congrArg nI (by have e9 : i = 6 := (by omega); subst e9; exact hv))
      · refine lv_aload_n hx hb dX4_costNow_13 rfl (lv_at hl 2 rfl) ?_
        refine lv_iload_n hx hb dX4_costNow_14 rfl (lv_at hl 0 rfl) ?_
        refine ro_V (C := RX4) (n := 1) ⟨hx, hb, hml, hown, hts⟩ hM hS hP (c_keeps l D tc zb a a1 a2 tr qs g i hk hR (by omega)) gX4_costNow_X4_keeps rfl (by decide +kernel) ⟨Nat.le_of_ble_eq_true rfl, Nat.le_of_ble_eq_true rfl⟩ [0, 1, 2] rfl (va_recv hM.1 hP (ci := 3) (q0 := 0) rfl rfl) rfl hl.1 rfl (Nat.le_of_ble_eq_true rfl) dX4_costNow_15 ⟨Nat.le_refl _, Nat.le_refl _⟩ ?_
        refine ln_if_eqB (tgt := 32) hx hb dX4_costNow_18 (by decide) (fun h2 => ?_) (fun h2 => ?_)
        · refine lv_iinc (v := (nI (i + 1))) (lv' := [(3, .int (nI (i + 1))), (2, .int (nI v)), (0, .ref a), (1, .int (nI x))]) hx hb dX4_costNow_32 hl (k := 0) rfl (nI_add i 1) (by decide) rfl (fun ls hl => ?_)
          refine lv_goto (tgt := 7) hx hb dX4_costNow_35 (by decide) ?_
          exact ih7 v (i + 1) (by omega) (by omega) (by simp [k_mn, *]) (by omega) _ (lv_sub hl [0, 1, 2, 3] rfl)
        · refine lv_iload_n hx hb dX4_costNow_21 rfl (lv_at hl 1 rfl) ?_
          refine lv_aload_n hx hb dX4_costNow_22 rfl (lv_at hl 2 rfl) ?_
          refine lv_iload_n hx hb dX4_costNow_23 rfl (lv_at hl 3 rfl) ?_
          refine lv_iload_n hx hb dX4_costNow_24 rfl (lv_at hl 0 rfl) ?_
          refine ro_V (C := RX4) (n := 2) ⟨hx, hb, hml, hown, hts⟩ hM hS hP (c_costBy l D tc zb a a1 a2 tr qs g x i hk hR (by omega) (by omega)) gX4_costNow_X4_costBy rfl (by decide +kernel) ⟨Nat.le_of_ble_eq_true rfl, Nat.le_of_ble_eq_true rfl⟩ [0, 1, 2] rfl (va_recv hM.1 hP (ci := 3) (q0 := 0) rfl rfl) rfl hl.1 rfl (Nat.le_of_ble_eq_true rfl) dX4_costNow_25 ⟨Nat.le_refl _, Nat.le_refl _⟩ ?_
          have hf3 := k_cb_le g x i
          refine va_mmin hx hb (hml.trans hl.1.symm) hown (hts (.methodLink RX4 90 Lib.Math.min.name) (by decide +kernel)) (hts (.static Lib.Math.min.name) (by decide +kernel)) (hts (.initialized "java/lang/Math") (by decide +kernel)) (hts (.code Lib.Math.min.name Lib.Math.min.code 2 (some .int)) (by decide +kernel)) (Nat.le_of_ble_eq_true rfl) (Nat.le_of_ble_eq_true rfl) (Nat.le_refl _) (Nat.le_refl _) dX4_costNow_28 ?_
          refine ln_eq (x' := nI (min v (k_cb g x i))) (k_min (by omega) (by omega)) ?_
          refine lv_istore_n (lv' := [(2, .int (nI (min v (k_cb g x i)))), (3, .int (nI i)), (0, .ref a), (1, .int (nI x))]) hx hb dX4_costNow_31 rfl hl (by decide) rfl (fun ls hl => ?_)
          refine lv_iinc (v := (nI (i + 1))) (lv' := [(3, .int (nI (i + 1))), (2, .int (nI (min v (k_cb g x i)))), (0, .ref a), (1, .int (nI x))]) hx hb dX4_costNow_32 hl (k := 1) rfl (nI_add i 1) (by decide) rfl (fun ls hl => ?_)
          refine lv_goto (tgt := 7) hx hb dX4_costNow_35 (by decide) ?_
          exact ih7 (min v (k_cb g x i)) (i + 1) (by omega) (by omega) (by simp [k_mn, *]) (by omega) _ (lv_sub hl [0, 1, 2, 3] rfl)
  exact lp7 _ (g 0) 0 (Nat.lt_succ_self _) (by omega) (by rfl) (by omega) _ (lv_sub hl [0, 1, 2, 3] rfl)
set_option maxHeartbeats 4000000 in
set_option maxRecDepth 100000 in
theorem c_answeringOrder (l : Launch) (D : va_G) (tc : Nat → ClassId) (zb : Nat) (a a1 a2 : Nat) (tr qs : Nat → Int32) (g : Nat → Nat) (x : Nat) (hk : k_ok g) (hR : k_R tr qs g) (hx9 : x < 1331) : RO l yX4_answeringOrder wsX4_answeringOrder 3 70 D tc zb (w_st tc a a1 a2 tr qs g) [.ref a, .int (nI x)] (.int (oI (k_or g x (g 41) 6))) := by
  refine RO.of (cc := cX4_answeringOrder) (maxL := 6) (ret := (some .int)) (by decide) rfl (Nat.le_of_ble_eq_true rfl) ?_
  intro p e s m args below meth c hx hb hr hml hlk hts hown hM hS hP ls hl
  have hl : lv_has ls 6 [(0, .ref a), (1, .int (nI x))] := hl
  have hinX4 : ∀ w ∈ u_ws RX4 TX4 10, w ∈ wsX4_answeringOrder := by decide +kernel
  obtain ⟨ok0, ok1, ok2, ok3, ok4, ok5, ok6⟩ := id hk
  refine lv_iconst (v := (-1)) hx hb dX4_answeringOrder_0 (by decide) ?_
  refine lv_istore_n (lv' := [(2, .int (-1)), (0, .ref a), (1, .int (nI x))]) hx hb dX4_answeringOrder_1 rfl hl (by decide) rfl (fun ls hl => ?_)
  refine lv_aload_n hx hb dX4_answeringOrder_2 rfl (lv_at hl 1 rfl) ?_
  refine va_get (D := D) (ci := 3) (v := .int (nI (g 0))) (C := RX4) (T := TX4) (N := 10) hx hb hts hinX4 hown hM.1 hP 0 rfl rfl 1 (by decide) (hts (.fieldLink RX4 25 "TripleWays$State" "size" "I") (by decide +kernel)) (fun _ h9 => h9) rfl dX4_answeringOrder_3 ?_
  refine lv_istore_n (lv' := [(3, .int (nI (g 0))), (2, .int (-1)), (0, .ref a), (1, .int (nI x))]) hx hb dX4_answeringOrder_6 rfl hl (by decide) rfl (fun ls hl => ?_)
  refine lv_iconst (v := (nI 0)) hx hb dX4_answeringOrder_7 (by decide) ?_
  refine lv_istore (lv' := [(4, .int (nI 0)), (3, .int (nI (g 0))), (2, .int (-1)), (0, .ref a), (1, .int (nI x))]) hx hb dX4_answeringOrder_8 hl (by decide) rfl (fun ls hl => ?_)
  have lp10 : ∀ (n9 : Nat) (bo : Option Nat) (v : Nat) (i : Nat), (6 - i) < n9 → (i ≤ 6) → (v = k_mn g x (g 41) i) → (v ≤ g 0) → (bo = k_or g x (g 41) i) → ∀ ls : Array Slot, lv_has ls 6 [(4, .int (nI i)), (3, .int (nI v)), (2, .int (oI (bo))), (0, .ref a), (1, .int (nI x))] → W p l e ({ frames := 3, cells := 0, slots := 0, locals := 70 } : Room) s m args below meth c s.heap [] 0 0 (MQ below (roQ (.int (oI (k_or g x (g 41) 6)))) args s 0 0 (fun _ => False)) (F0 m 10 ls []) := by
    intro n9
    induction n9 with
    | zero => intro bo v i hmu; exact absurd hmu (Nat.not_lt_zero _)
    | succ n9 ih10 =>
      intro bo v i hmu hi hv hvb hb9 ls hl
      refine lv_iload hx hb dX4_answeringOrder_10 (lv_at hl 0 rfl) ?_
      refine lv_bipush (v := (nI 6)) hx hb dX4_answeringOrder_12 (by decide) ?_
      refine ln_icmp_ge (tgt := 60) hx hb dX4_answeringOrder_14 (by decide) (by omega) (by decide) (fun h1 => ?_) (fun h1 => ?_)
      · refine lv_iload_n hx hb dX4_answeringOrder_60 rfl (lv_at hl 2 rfl) ?_
        exact ro_iret hx hb hr hlk dX4_answeringOrder_61 (congrArg oI (by have e9 : i = 6 := (by omega); subst e9; exact hb9))
      · refine lv_aload_n hx hb dX4_answeringOrder_17 rfl (lv_at hl 3 rfl) ?_
        refine lv_iload hx hb dX4_answeringOrder_18 (lv_at hl 0 rfl) ?_
        refine ro_V (C := RX4) (n := 1) ⟨hx, hb, hml, hown, hts⟩ hM hS hP (c_keeps l D tc zb a a1 a2 tr qs g i hk hR (by omega)) gX4_answeringOrder_X4_keeps rfl (by decide +kernel) ⟨Nat.le_of_ble_eq_true rfl, Nat.le_of_ble_eq_true rfl⟩ [0, 1, 2] rfl (va_recv hM.1 hP (ci := 3) (q0 := 0) rfl rfl) rfl hl.1 rfl (Nat.le_of_ble_eq_true rfl) dX4_answeringOrder_20 ⟨Nat.le_refl _, Nat.le_refl _⟩ ?_
        refine ln_if_eqB (tgt := 36) hx hb dX4_answeringOrder_23 (by decide) (fun h2 => ?_) (fun h2 => ?_)
        · refine lv_aload_n hx hb dX4_answeringOrder_36 rfl (lv_at hl 3 rfl) ?_
          refine va_get (D := D) (ci := 3) (v := .int (nI (g 0))) (C := RX4) (T := TX4) (N := 10) hx hb hts hinX4 hown hM.1 hP 0 rfl rfl 1 (by decide) (hts (.fieldLink RX4 25 "TripleWays$State" "size" "I") (by decide +kernel)) (fun _ h9 => h9) rfl dX4_answeringOrder_37 ?_
          refine lv_istore (lv' := [(5, .int (nI (g 0))), (4, .int (nI i)), (3, .int (nI v)), (2, .int (oI (bo))), (0, .ref a), (1, .int (nI x))]) hx hb dX4_answeringOrder_40 hl (by decide) rfl (fun ls hl => ?_)
          refine lv_iload hx hb dX4_answeringOrder_42 (lv_at hl 0 rfl) ?_
          refine lv_iload_n hx hb dX4_answeringOrder_44 rfl (lv_at hl 2 rfl) ?_
          refine ln_icmp_ge (tgt := 54) hx hb dX4_answeringOrder_45 (by decide) (by omega) (by omega) (fun h3 => ?_) (fun h3 => ?_)
          · refine lv_iinc (v := (nI (i + 1))) (lv' := [(4, .int (nI (i + 1))), (5, .int (nI (g 0))), (3, .int (nI v)), (2, .int (oI (bo))), (0, .ref a), (1, .int (nI x))]) hx hb dX4_answeringOrder_54 hl (k := 1) rfl (nI_add i 1) (by decide) rfl (fun ls hl => ?_)
            refine lv_goto (tgt := 10) hx hb dX4_answeringOrder_57 (by decide) ?_
            exact ih10 bo v (i + 1) (by omega) (by omega) (by first | (rw [k_mn, if_pos (by assumption), ← hv, Nat.min_eq_right (by omega)]) | (rw [k_mn, if_pos (by assumption), ← hv, Nat.min_eq_left (by omega)]) | (rw [k_mn, if_neg (by simp [*])]; exact hv) | (exfalso; omega)) (by omega) (by first | (rw [k_or, if_pos ⟨by assumption, by omega⟩]) | (rw [k_or, if_neg (fun h9 => by have := h9.2; omega)]; exact hb9) | (rw [k_or, if_neg (fun h9 => by have := h9.1; simp_all)]; exact hb9) | (exfalso; omega)) _ (lv_sub hl [0, 2, 3, 4, 5] rfl)
          · refine lv_iload hx hb dX4_answeringOrder_48 (lv_at hl 0 rfl) ?_
            refine lv_istore_n (lv' := [(3, .int (nI (g 0))), (5, .int (nI (g 0))), (4, .int (nI i)), (2, .int (oI (bo))), (0, .ref a), (1, .int (nI x))]) hx hb dX4_answeringOrder_50 rfl hl (by decide) rfl (fun ls hl => ?_)
            refine lv_iload hx hb dX4_answeringOrder_51 (lv_at hl 2 rfl) ?_
            refine lv_istore_n (lv' := [(2, .int (nI i)), (3, .int (nI (g 0))), (5, .int (nI (g 0))), (4, .int (nI i)), (0, .ref a), (1, .int (nI x))]) hx hb dX4_answeringOrder_53 rfl hl (by decide) rfl (fun ls hl => ?_)
            refine lv_iinc (v := (nI (i + 1))) (lv' := [(4, .int (nI (i + 1))), (2, .int (nI i)), (3, .int (nI (g 0))), (5, .int (nI (g 0))), (0, .ref a), (1, .int (nI x))]) hx hb dX4_answeringOrder_54 hl (k := 3) rfl (nI_add i 1) (by decide) rfl (fun ls hl => ?_)
            refine lv_goto (tgt := 10) hx hb dX4_answeringOrder_57 (by decide) ?_
            exact ih10 (some i) (g 0) (i + 1) (by omega) (by omega) (by first | (rw [k_mn, if_pos (by assumption), ← hv, Nat.min_eq_right (by omega)]) | (rw [k_mn, if_pos (by assumption), ← hv, Nat.min_eq_left (by omega)]) | (rw [k_mn, if_neg (by simp [*])]; exact hv) | (exfalso; omega)) (by omega) (by first | (rw [k_or, if_pos ⟨by assumption, by omega⟩]) | (rw [k_or, if_neg (fun h9 => by have := h9.2; omega)]; exact hb9) | (rw [k_or, if_neg (fun h9 => by have := h9.1; simp_all)]; exact hb9) | (exfalso; omega)) _ (lv_sub hl [0, 2, 1, 4, 5] rfl)
        · refine lv_aload_n hx hb dX4_answeringOrder_26 rfl (lv_at hl 3 rfl) ?_
          refine lv_iload_n hx hb dX4_answeringOrder_27 rfl (lv_at hl 4 rfl) ?_
          refine lv_iload hx hb dX4_answeringOrder_28 (lv_at hl 0 rfl) ?_
          refine ro_V (C := RX4) (n := 2) ⟨hx, hb, hml, hown, hts⟩ hM hS hP (c_costBy l D tc zb a a1 a2 tr qs g x i hk hR (by omega) (by omega)) gX4_answeringOrder_X4_costBy rfl (by decide +kernel) ⟨Nat.le_of_ble_eq_true rfl, Nat.le_of_ble_eq_true rfl⟩ [0, 1, 2] rfl (va_recv hM.1 hP (ci := 3) (q0 := 0) rfl rfl) rfl hl.1 rfl (Nat.le_of_ble_eq_true rfl) dX4_answeringOrder_30 ⟨Nat.le_refl _, Nat.le_refl _⟩ ?_
          have hf4 := k_cb_le g x i
          refine lv_goto (tgt := 40) hx hb dX4_answeringOrder_33 (by decide) ?_
          refine lv_istore (lv' := [(5, .int (nI (k_cb g x i))), (4, .int (nI i)), (3, .int (nI v)), (2, .int (oI (bo))), (0, .ref a), (1, .int (nI x))]) hx hb dX4_answeringOrder_40 hl (by decide) rfl (fun ls hl => ?_)
          refine lv_iload hx hb dX4_answeringOrder_42 (lv_at hl 0 rfl) ?_
          refine lv_iload_n hx hb dX4_answeringOrder_44 rfl (lv_at hl 2 rfl) ?_
          refine ln_icmp_ge (tgt := 54) hx hb dX4_answeringOrder_45 (by decide) (by omega) (by omega) (fun h5 => ?_) (fun h5 => ?_)
          · refine lv_iinc (v := (nI (i + 1))) (lv' := [(4, .int (nI (i + 1))), (5, .int (nI (k_cb g x i))), (3, .int (nI v)), (2, .int (oI (bo))), (0, .ref a), (1, .int (nI x))]) hx hb dX4_answeringOrder_54 hl (k := 1) rfl (nI_add i 1) (by decide) rfl (fun ls hl => ?_)
            refine lv_goto (tgt := 10) hx hb dX4_answeringOrder_57 (by decide) ?_
            exact ih10 bo v (i + 1) (by omega) (by omega) (by first | (rw [k_mn, if_pos (by assumption), ← hv, Nat.min_eq_right (by omega)]) | (rw [k_mn, if_pos (by assumption), ← hv, Nat.min_eq_left (by omega)]) | (rw [k_mn, if_neg (by simp [*])]; exact hv) | (exfalso; omega)) (by omega) (by first | (rw [k_or, if_pos ⟨by assumption, by omega⟩]) | (rw [k_or, if_neg (fun h9 => by have := h9.2; omega)]; exact hb9) | (rw [k_or, if_neg (fun h9 => by have := h9.1; simp_all)]; exact hb9) | (exfalso; omega)) _ (lv_sub hl [0, 2, 3, 4, 5] rfl)
          · refine lv_iload hx hb dX4_answeringOrder_48 (lv_at hl 0 rfl) ?_
            refine lv_istore_n (lv' := [(3, .int (nI (k_cb g x i))), (5, .int (nI (k_cb g x i))), (4, .int (nI i)), (2, .int (oI (bo))), (0, .ref a), (1, .int (nI x))]) hx hb dX4_answeringOrder_50 rfl hl (by decide) rfl (fun ls hl => ?_)
            refine lv_iload hx hb dX4_answeringOrder_51 (lv_at hl 2 rfl) ?_
            refine lv_istore_n (lv' := [(2, .int (nI i)), (3, .int (nI (k_cb g x i))), (5, .int (nI (k_cb g x i))), (4, .int (nI i)), (0, .ref a), (1, .int (nI x))]) hx hb dX4_answeringOrder_53 rfl hl (by decide) rfl (fun ls hl => ?_)
            refine lv_iinc (v := (nI (i + 1))) (lv' := [(4, .int (nI (i + 1))), (2, .int (nI i)), (3, .int (nI (k_cb g x i))), (5, .int (nI (k_cb g x i))), (0, .ref a), (1, .int (nI x))]) hx hb dX4_answeringOrder_54 hl (k := 3) rfl (nI_add i 1) (by decide) rfl (fun ls hl => ?_)
            refine lv_goto (tgt := 10) hx hb dX4_answeringOrder_57 (by decide) ?_
            exact ih10 (some i) (k_cb g x i) (i + 1) (by omega) (by omega) (by first | (rw [k_mn, if_pos (by assumption), ← hv, Nat.min_eq_right (by omega)]) | (rw [k_mn, if_pos (by assumption), ← hv, Nat.min_eq_left (by omega)]) | (rw [k_mn, if_neg (by simp [*])]; exact hv) | (exfalso; omega)) (by omega) (by first | (rw [k_or, if_pos ⟨by assumption, by omega⟩]) | (rw [k_or, if_neg (fun h9 => by have := h9.2; omega)]; exact hb9) | (rw [k_or, if_neg (fun h9 => by have := h9.1; simp_all)]; exact hb9) | (exfalso; omega)) _ (lv_sub hl [0, 2, 1, 4, 5] rfl)
  exact lp10 _ none (g 0) 0 (Nat.lt_succ_self _) (by omega) (by rfl) (by omega) (by rfl) _ (lv_sub hl [0, 1, 2, 3, 4] rfl)


set_option maxHeartbeats 4000000 in
set_option maxRecDepth 100000 in
theorem c_rankAt (l : Launch) (D : va_G) (tc : Nat → ClassId) (zb : Nat) (a a1 a2 : Nat) (tr qs : Nat → Int32) (g : Nat → Nat) (i q : Nat) (hk : k_ok g) (hR : k_R tr qs g) (hi : i < g 0) (hq : q < 6) : RO l yX4_rankAt wsX4_rankAt 2 45 D tc zb (w_st tc a a1 a2 tr qs g) [.ref a, .int (nI i), .int (nI q)] (.int (nI (k_ra g (some q) i))) := by
  refine RO.of (cc := cX4_rankAt) (maxL := 3) (ret := (some .int)) (by decide) rfl (Nat.le_of_ble_eq_true rfl) ?_
  intro p e s m args below meth c hx hb hr hml hlk hts hown hM hS hP ls hl
  have hl : lv_has ls 3 [(0, .ref a), (1, .int (nI i)), (2, .int (nI q))] := hl
  obtain ⟨ok0, ok1, ok2, ok3, ok4, ok5, ok6⟩ := id hk
  refine lv_iload_n hx hb dX4_rankAt_0 rfl (lv_at hl 2 rfl) ?_
  refine lv_iconst (v := (-1)) hx hb dX4_rankAt_1 (by decide) ?_
  refine ln_ne_m1 (tgt := 9) hx hb dX4_rankAt_2 (by decide) (by omega) ?_
  refine lv_aload_n hx hb dX4_rankAt_9 rfl (lv_at hl 0 rfl) ?_
  refine lv_iload_n hx hb dX4_rankAt_10 rfl (lv_at hl 1 rfl) ?_
  refine ro_V (C := RX4) (n := 1) ⟨hx, hb, hml, hown, hts⟩ hM hS hP (c_tripleAt l D tc zb a a1 a2 tr qs g i hk hR (by omega)) gX4_rankAt_X4_tripleAt rfl (by decide +kernel) ⟨Nat.le_of_ble_eq_true rfl, Nat.le_of_ble_eq_true rfl⟩ [0, 1, 2] rfl (va_recv hM.1 hP (ci := 3) (q0 := 0) rfl rfl) rfl hl.1 rfl (Nat.le_of_ble_eq_true rfl) dX4_rankAt_11 ⟨Nat.le_refl _, Nat.le_refl _⟩ ?_
  have hf1 := hk.2.2.2.2.1 i (by omega)
  refine lv_iload_n hx hb dX4_rankAt_14 rfl (lv_at hl 2 rfl) ?_
  refine ro_S (n := 2) ⟨hx, hb, hml, hown, hts⟩ hM hS hP (c_rankOf l D tc zb (g (1 + i)) q (by omega) (by omega)) gX4_rankAt_X2_rankOf rfl (by decide +kernel) ⟨Nat.le_of_ble_eq_true rfl, Nat.le_of_ble_eq_true rfl⟩ [] rfl rfl hl.1 rfl (Nat.le_of_ble_eq_true rfl) dX4_rankAt_15 ⟨Nat.le_refl _, Nat.le_refl _⟩ ?_
  exact ro_iret hx hb hr hlk dX4_rankAt_18 (congrArg nI (by rfl))
set_option maxHeartbeats 4000000 in
set_option maxRecDepth 100000 in
theorem c_countBefore (l : Launch) (D : va_G) (tc : Nat → ClassId) (zb : Nat) (a a1 a2 : Nat) (tr qs : Nat → Int32) (g : Nat → Nat) (x q j : Nat) (hk : k_ok g) (hR : k_R tr qs g) (hx9 : x < 1331) (hj : j < g 0) (hq : q < 6) : RO l yX4_countBefore wsX4_countBefore 3 67 D tc zb (w_st tc a a1 a2 tr qs g) [.ref a, .int (nI x), .int (nI q), .int (nI j)] (.int (nI (k_bf g x (some q) j (g 0)))) := by
  refine RO.of (cc := cX4_countBefore) (maxL := 7) (ret := (some .int)) (by decide) rfl (Nat.le_of_ble_eq_true rfl) ?_
  intro p e s m args below meth c hx hb hr hml hlk hts hown hM hS hP ls hl
  have hl : lv_has ls 7 [(0, .ref a), (1, .int (nI x)), (2, .int (nI q)), (3, .int (nI j))] := hl
  have hinX4 : ∀ w ∈ u_ws RX4 TX4 10, w ∈ wsX4_countBefore := by decide +kernel
  obtain ⟨ok0, ok1, ok2, ok3, ok4, ok5, ok6⟩ := id hk
  refine lv_aload_n hx hb dX4_countBefore_0 rfl (lv_at hl 0 rfl) ?_
  refine lv_iload_n hx hb dX4_countBefore_1 rfl (lv_at hl 3 rfl) ?_
  refine lv_iload_n hx hb dX4_countBefore_2 rfl (lv_at hl 2 rfl) ?_
  refine ro_V (C := RX4) (n := 2) ⟨hx, hb, hml, hown, hts⟩ hM hS hP (c_rankAt l D tc zb a a1 a2 tr qs g j q hk hR (by omega) (by omega)) gX4_countBefore_X4_rankAt rfl (by decide +kernel) ⟨Nat.le_of_ble_eq_true rfl, Nat.le_of_ble_eq_true rfl⟩ [0, 1, 2] rfl (va_recv hM.1 hP (ci := 3) (q0 := 0) rfl rfl) rfl hl.1 rfl (Nat.le_of_ble_eq_true rfl) dX4_countBefore_3 ⟨Nat.le_refl _, Nat.le_refl _⟩ ?_
  have hf1 := show k_ra g (some q) j < 1000 from k_ra_lt hk (by omega)
  refine lv_istore (lv' := [(4, .int (nI (k_ra g (some q) j))), (0, .ref a), (1, .int (nI x)), (2, .int (nI q)), (3, .int (nI j))]) hx hb dX4_countBefore_6 hl (by decide) rfl (fun ls hl => ?_)
  refine lv_iconst (v := (nI 0)) hx hb dX4_countBefore_8 (by decide) ?_
  refine lv_istore (lv' := [(5, .int (nI 0)), (4, .int (nI (k_ra g (some q) j))), (0, .ref a), (1, .int (nI x)), (2, .int (nI q)), (3, .int (nI j))]) hx hb dX4_countBefore_9 hl (by decide) rfl (fun ls hl => ?_)
  refine lv_iconst (v := (nI 0)) hx hb dX4_countBefore_11 (by decide) ?_
  refine lv_istore (lv' := [(6, .int (nI 0)), (5, .int (nI 0)), (4, .int (nI (k_ra g (some q) j))), (0, .ref a), (1, .int (nI x)), (2, .int (nI q)), (3, .int (nI j))]) hx hb dX4_countBefore_12 hl (by decide) rfl (fun ls hl => ?_)
  have lp14 : ∀ (n9 : Nat) (acc : Nat) (i : Nat), (g 0 - i) < n9 → (i ≤ g 0) → (acc = k_bf g x (some q) j i) → (acc ≤ i) → ∀ ls : Array Slot, lv_has ls 7 [(6, .int (nI i)), (5, .int (nI acc)), (4, .int (nI (k_ra g (some q) j))), (0, .ref a), (1, .int (nI x)), (2, .int (nI q)), (3, .int (nI j))] → W p l e ({ frames := 3, cells := 0, slots := 0, locals := 67 } : Room) s m args below meth c s.heap [] 0 0 (MQ below (roQ (.int (nI (k_bf g x (some q) j (g 0))))) args s 0 0 (fun _ => False)) (F0 m 14 ls []) := by
    intro n9
    induction n9 with
    | zero => intro acc i hmu; exact absurd hmu (Nat.not_lt_zero _)
    | succ n9 ih14 =>
      intro acc i hmu hi hv hac ls hl
      refine lv_iload hx hb dX4_countBefore_14 (lv_at hl 0 rfl) ?_
      refine lv_aload_n hx hb dX4_countBefore_16 rfl (lv_at hl 3 rfl) ?_
      refine va_get (D := D) (ci := 3) (v := .int (nI (g 0))) (C := RX4) (T := TX4) (N := 10) hx hb hts hinX4 hown hM.1 hP 0 rfl rfl 1 (by decide) (hts (.fieldLink RX4 25 "TripleWays$State" "size" "I") (by decide +kernel)) (fun _ h9 => h9) rfl dX4_countBefore_17 ?_
      refine ln_icmp_ge (tgt := 57) hx hb dX4_countBefore_20 (by decide) (by omega) (by omega) (fun h2 => ?_) (fun h2 => ?_)
      · refine lv_iload hx hb dX4_countBefore_57 (lv_at hl 1 rfl) ?_
        exact ro_iret hx hb hr hlk dX4_countBefore_59 (congrArg nI (by have e9 : i = g 0 := (by omega); subst e9; exact hv))
      · refine lv_aload_n hx hb dX4_countBefore_23 rfl (lv_at hl 3 rfl) ?_
        refine lv_iload hx hb dX4_countBefore_24 (lv_at hl 0 rfl) ?_
        refine ro_V (C := RX4) (n := 1) ⟨hx, hb, hml, hown, hts⟩ hM hS hP (c_tripleAt l D tc zb a a1 a2 tr qs g i hk hR (by omega)) gX4_countBefore_X4_tripleAt rfl (by decide +kernel) ⟨Nat.le_of_ble_eq_true rfl, Nat.le_of_ble_eq_true rfl⟩ [0, 1, 2] rfl (va_recv hM.1 hP (ci := 3) (q0 := 0) rfl rfl) rfl hl.1 rfl (Nat.le_of_ble_eq_true rfl) dX4_countBefore_26 ⟨Nat.le_refl _, Nat.le_refl _⟩ ?_
        have hf3 := hk.2.2.2.2.1 i (by omega)
        refine lv_iload_n hx hb dX4_countBefore_29 rfl (lv_at hl 4 rfl) ?_
        refine ro_S (n := 2) ⟨hx, hb, hml, hown, hts⟩ hM hS hP (c_fits l D tc zb (g (1 + i)) x (by omega) (by omega)) gX4_countBefore_X4_fits rfl (by decide +kernel) ⟨Nat.le_of_ble_eq_true rfl, Nat.le_of_ble_eq_true rfl⟩ [] rfl rfl hl.1 rfl (Nat.le_of_ble_eq_true rfl) dX4_countBefore_30 ⟨Nat.le_refl _, Nat.le_refl _⟩ ?_
        refine ln_if_eqB (tgt := 51) hx hb dX4_countBefore_33 (by decide) (fun h4 => ?_) (fun h4 => ?_)
        · refine lv_iinc (v := (nI (i + 1))) (lv' := [(6, .int (nI (i + 1))), (5, .int (nI acc)), (4, .int (nI (k_ra g (some q) j))), (0, .ref a), (1, .int (nI x)), (2, .int (nI q)), (3, .int (nI j))]) hx hb dX4_countBefore_51 hl (k := 0) rfl (nI_add i 1) (by decide) rfl (fun ls hl => ?_)
          refine lv_goto (tgt := 14) hx hb dX4_countBefore_54 (by decide) ?_
          exact ih14 acc (i + 1) (by omega) (by omega) (by first | (rw [k_bf, if_pos ⟨by assumption, by assumption⟩]; omega) | (rw [k_bf, if_neg (fun h9 => by have h8 := h9.2; omega)]; omega) | (rw [k_bf, if_neg (fun h9 => by have h8 := h9.1; simp_all)]; omega)) (by omega) _ (lv_sub hl [0, 1, 2, 3, 4, 5, 6] rfl)
        · refine lv_aload_n hx hb dX4_countBefore_36 rfl (lv_at hl 3 rfl) ?_
          refine lv_iload hx hb dX4_countBefore_37 (lv_at hl 0 rfl) ?_
          refine lv_iload_n hx hb dX4_countBefore_39 rfl (lv_at hl 5 rfl) ?_
          refine ro_V (C := RX4) (n := 2) ⟨hx, hb, hml, hown, hts⟩ hM hS hP (c_rankAt l D tc zb a a1 a2 tr qs g i q hk hR (by omega) (by omega)) gX4_countBefore_X4_rankAt rfl (by decide +kernel) ⟨Nat.le_of_ble_eq_true rfl, Nat.le_of_ble_eq_true rfl⟩ [0, 1, 2] rfl (va_recv hM.1 hP (ci := 3) (q0 := 0) rfl rfl) rfl hl.1 rfl (Nat.le_of_ble_eq_true rfl) dX4_countBefore_40 ⟨Nat.le_refl _, Nat.le_refl _⟩ ?_
          have hf5 := show k_ra g (some q) i < 1000 from k_ra_lt hk (by omega)
          refine lv_iload hx hb dX4_countBefore_43 (lv_at hl 2 rfl) ?_
          refine ln_icmp_ge (tgt := 51) hx hb dX4_countBefore_45 (by decide) (by omega) (by omega) (fun h6 => ?_) (fun h6 => ?_)
          · refine lv_iinc (v := (nI (i + 1))) (lv' := [(6, .int (nI (i + 1))), (5, .int (nI acc)), (4, .int (nI (k_ra g (some q) j))), (0, .ref a), (1, .int (nI x)), (2, .int (nI q)), (3, .int (nI j))]) hx hb dX4_countBefore_51 hl (k := 0) rfl (nI_add i 1) (by decide) rfl (fun ls hl => ?_)
            refine lv_goto (tgt := 14) hx hb dX4_countBefore_54 (by decide) ?_
            exact ih14 acc (i + 1) (by omega) (by omega) (by first | (rw [k_bf, if_pos ⟨by assumption, by assumption⟩]; omega) | (rw [k_bf, if_neg (fun h9 => by have h8 := h9.2; omega)]; omega) | (rw [k_bf, if_neg (fun h9 => by have h8 := h9.1; simp_all)]; omega)) (by omega) _ (lv_sub hl [0, 1, 2, 3, 4, 5, 6] rfl)
          · refine lv_iinc (v := (nI (acc + 1))) (lv' := [(5, .int (nI (acc + 1))), (6, .int (nI i)), (4, .int (nI (k_ra g (some q) j))), (0, .ref a), (1, .int (nI x)), (2, .int (nI q)), (3, .int (nI j))]) hx hb dX4_countBefore_48 hl (k := 1) rfl (nI_add acc 1) (by decide) rfl (fun ls hl => ?_)
            refine lv_iinc (v := (nI (i + 1))) (lv' := [(6, .int (nI (i + 1))), (5, .int (nI (acc + 1))), (4, .int (nI (k_ra g (some q) j))), (0, .ref a), (1, .int (nI x)), (2, .int (nI q)), (3, .int (nI j))]) hx hb dX4_countBefore_51 hl (k := 1) rfl (nI_add i 1) (by decide) rfl (fun ls hl => ?_)
            refine lv_goto (tgt := 14) hx hb dX4_countBefore_54 (by decide) ?_
            exact ih14 (acc + 1) (i + 1) (by omega) (by omega) (by first | (rw [k_bf, if_pos ⟨by assumption, by assumption⟩]; omega) | (rw [k_bf, if_neg (fun h9 => by have h8 := h9.2; omega)]; omega) | (rw [k_bf, if_neg (fun h9 => by have h8 := h9.1; simp_all)]; omega)) (by omega) _ (lv_sub hl [0, 1, 2, 3, 4, 5, 6] rfl)
  exact lp14 _ 0 0 (Nat.lt_succ_self _) (by omega) (by rfl) (by omega) _ (lv_sub hl [0, 1, 2, 3, 4, 5, 6] rfl)
set_option maxHeartbeats 4000000 in
set_option maxRecDepth 100000 in
theorem c_answerAt (l : Launch) (D : va_G) (tc : Nat → ClassId) (zb : Nat) (a a1 a2 : Nat) (tr qs : Nat → Int32) (g : Nat → Nat) (x q pl : Nat) (hk : k_ok g) (hR : k_R tr qs g) (hx9 : x < 1331) (hpl : pl < 2 ^ 31) (hq : q < 6) : RO l yX4_answerAt wsX4_answerAt 4 93 D tc zb (w_st tc a a1 a2 tr qs g) [.ref a, .int (nI x), .int (nI q), .int (nI pl)] (.int (oI (k_aa g x (some q) pl (g 0)))) := by
  refine RO.of (cc := cX4_answerAt) (maxL := 5) (ret := (some .int)) (by decide) rfl (Nat.le_of_ble_eq_true rfl) ?_
  intro p e s m args below meth c hx hb hr hml hlk hts hown hM hS hP ls hl
  have hl : lv_has ls 5 [(0, .ref a), (1, .int (nI x)), (2, .int (nI q)), (3, .int (nI pl))] := hl
  have hinX4 : ∀ w ∈ u_ws RX4 TX4 10, w ∈ wsX4_answerAt := by decide +kernel
  obtain ⟨ok0, ok1, ok2, ok3, ok4, ok5, ok6⟩ := id hk
  refine lv_iload_n hx hb dX4_answerAt_0 rfl (lv_at hl 3 rfl) ?_
  refine lv_aload_n hx hb dX4_answerAt_1 rfl (lv_at hl 0 rfl) ?_
  refine va_get (D := D) (ci := 3) (v := .int (nI (g 0))) (C := RX4) (T := TX4) (N := 10) hx hb hts hinX4 hown hM.1 hP 0 rfl rfl 1 (by decide) (hts (.fieldLink RX4 25 "TripleWays$State" "size" "I") (by decide +kernel)) (fun _ h9 => h9) rfl dX4_answerAt_2 ?_
  refine ln_icmp_lt (tgt := 10) hx hb dX4_answerAt_5 (by decide) (by omega) (by omega) (fun h1 => ?_) (fun h1 => ?_)
  · refine lv_iconst (v := (nI 0)) hx hb dX4_answerAt_10 (by decide) ?_
    refine lv_istore (lv' := [(4, .int (nI 0)), (0, .ref a), (1, .int (nI x)), (2, .int (nI q)), (3, .int (nI pl))]) hx hb dX4_answerAt_11 hl (by decide) rfl (fun ls hl => ?_)
    have lp13 : ∀ (n9 : Nat) (i : Nat), (g 0 - i) < n9 → (i ≤ g 0) → (k_aa g x (some q) pl i = none) → ∀ ls : Array Slot, lv_has ls 5 [(4, .int (nI i)), (0, .ref a), (1, .int (nI x)), (2, .int (nI q)), (3, .int (nI pl))] → W p l e ({ frames := 4, cells := 0, slots := 0, locals := 93 } : Room) s m args below meth c s.heap [] 0 0 (MQ below (roQ (.int (oI (k_aa g x (some q) pl (g 0))))) args s 0 0 (fun _ => False)) (F0 m 13 ls []) := by
      intro n9
      induction n9 with
      | zero => intro i hmu; exact absurd hmu (Nat.not_lt_zero _)
      | succ n9 ih13 =>
        intro i hmu hi hv ls hl
        refine lv_iload hx hb dX4_answerAt_13 (lv_at hl 0 rfl) ?_
        refine lv_aload_n hx hb dX4_answerAt_15 rfl (lv_at hl 1 rfl) ?_
        refine va_get (D := D) (ci := 3) (v := .int (nI (g 0))) (C := RX4) (T := TX4) (N := 10) hx hb hts hinX4 hown hM.1 hP 0 rfl rfl 1 (by decide) (hts (.fieldLink RX4 25 "TripleWays$State" "size" "I") (by decide +kernel)) (fun _ h9 => h9) rfl dX4_answerAt_16 ?_
        refine ln_icmp_ge (tgt := 60) hx hb dX4_answerAt_19 (by decide) (by omega) (by omega) (fun h2 => ?_) (fun h2 => ?_)
        · refine lv_iconst (v := (-1)) hx hb dX4_answerAt_60 (by decide) ?_
          exact ro_iret hx hb hr hlk dX4_answerAt_61 (show oI none = _ from congrArg oI (by first | (have e9 : i = g 0 := (by omega); subst e9; exact hv.symm) | exact (k_aa_big g x (some q) pl (by omega) _ (Nat.le_refl _)).symm))
        · refine lv_aload_n hx hb dX4_answerAt_22 rfl (lv_at hl 1 rfl) ?_
          refine lv_iload hx hb dX4_answerAt_23 (lv_at hl 0 rfl) ?_
          refine ro_V (C := RX4) (n := 1) ⟨hx, hb, hml, hown, hts⟩ hM hS hP (c_tripleAt l D tc zb a a1 a2 tr qs g i hk hR (by omega)) gX4_answerAt_X4_tripleAt rfl (by decide +kernel) ⟨Nat.le_of_ble_eq_true rfl, Nat.le_of_ble_eq_true rfl⟩ [0, 1, 2] rfl (va_recv hM.1 hP (ci := 3) (q0 := 0) rfl rfl) rfl hl.1 rfl (Nat.le_of_ble_eq_true rfl) dX4_answerAt_25 ⟨Nat.le_refl _, Nat.le_refl _⟩ ?_
          have hf3 := hk.2.2.2.2.1 i (by omega)
          refine lv_iload_n hx hb dX4_answerAt_28 rfl (lv_at hl 2 rfl) ?_
          refine ro_S (n := 2) ⟨hx, hb, hml, hown, hts⟩ hM hS hP (c_fits l D tc zb (g (1 + i)) x (by omega) (by omega)) gX4_answerAt_X4_fits rfl (by decide +kernel) ⟨Nat.le_of_ble_eq_true rfl, Nat.le_of_ble_eq_true rfl⟩ [] rfl rfl hl.1 rfl (Nat.le_of_ble_eq_true rfl) dX4_answerAt_29 ⟨Nat.le_refl _, Nat.le_refl _⟩ ?_
          refine ln_if_eqB (tgt := 54) hx hb dX4_answerAt_32 (by decide) (fun h4 => ?_) (fun h4 => ?_)
          · refine lv_iinc (v := (nI (i + 1))) (lv' := [(4, .int (nI (i + 1))), (0, .ref a), (1, .int (nI x)), (2, .int (nI q)), (3, .int (nI pl))]) hx hb dX4_answerAt_54 hl (k := 0) rfl (nI_add i 1) (by decide) rfl (fun ls hl => ?_)
            refine lv_goto (tgt := 13) hx hb dX4_answerAt_57 (by decide) ?_
            exact ih13 (i + 1) (by omega) (by omega) (by first | exact k_aa_miss hv (fun h9 => by have h8 := h9.2; omega) | exact k_aa_miss hv (fun h9 => by have h8 := h9.1; simp_all)) _ (lv_sub hl [0, 1, 2, 3, 4] rfl)
          · refine lv_aload_n hx hb dX4_answerAt_35 rfl (lv_at hl 1 rfl) ?_
            refine lv_iload_n hx hb dX4_answerAt_36 rfl (lv_at hl 2 rfl) ?_
            refine lv_iload_n hx hb dX4_answerAt_37 rfl (lv_at hl 3 rfl) ?_
            refine lv_iload hx hb dX4_answerAt_38 (lv_at hl 0 rfl) ?_
            refine ro_V (C := RX4) (n := 3) ⟨hx, hb, hml, hown, hts⟩ hM hS hP (c_countBefore l D tc zb a a1 a2 tr qs g x q i hk hR (by omega) (by omega) (by omega)) gX4_answerAt_X4_countBefore rfl (by decide +kernel) ⟨Nat.le_of_ble_eq_true rfl, Nat.le_of_ble_eq_true rfl⟩ [0, 1, 2] rfl (va_recv hM.1 hP (ci := 3) (q0 := 0) rfl rfl) rfl hl.1 rfl (Nat.le_of_ble_eq_true rfl) dX4_answerAt_40 ⟨Nat.le_refl _, Nat.le_refl _⟩ ?_
            have hf5 := k_bf_le g x (some q) i (g 0)
            refine lv_iload_n hx hb dX4_answerAt_43 rfl (lv_at hl 4 rfl) ?_
            refine ln_icmp_ne (tgt := 54) hx hb dX4_answerAt_44 (by decide) (by omega) (by omega) (fun h6 => ?_) (fun h6 => ?_)
            · refine lv_iinc (v := (nI (i + 1))) (lv' := [(4, .int (nI (i + 1))), (0, .ref a), (1, .int (nI x)), (2, .int (nI q)), (3, .int (nI pl))]) hx hb dX4_answerAt_54 hl (k := 0) rfl (nI_add i 1) (by decide) rfl (fun ls hl => ?_)
              refine lv_goto (tgt := 13) hx hb dX4_answerAt_57 (by decide) ?_
              exact ih13 (i + 1) (by omega) (by omega) (by first | exact k_aa_miss hv (fun h9 => by have h8 := h9.2; omega) | exact k_aa_miss hv (fun h9 => by have h8 := h9.1; simp_all)) _ (lv_sub hl [0, 1, 2, 3, 4] rfl)
            · refine lv_aload_n hx hb dX4_answerAt_47 rfl (lv_at hl 1 rfl) ?_
              refine lv_iload hx hb dX4_answerAt_48 (lv_at hl 0 rfl) ?_
              refine ro_V (C := RX4) (n := 1) ⟨hx, hb, hml, hown, hts⟩ hM hS hP (c_tripleAt l D tc zb a a1 a2 tr qs g i hk hR (by omega)) gX4_answerAt_X4_tripleAt rfl (by decide +kernel) ⟨Nat.le_of_ble_eq_true rfl, Nat.le_of_ble_eq_true rfl⟩ [0, 1, 2] rfl (va_recv hM.1 hP (ci := 3) (q0 := 0) rfl rfl) rfl hl.1 rfl (Nat.le_of_ble_eq_true rfl) dX4_answerAt_50 ⟨Nat.le_refl _, Nat.le_refl _⟩ ?_
              have hf7 := hk.2.2.2.2.1 i (by omega)
              exact ro_iret hx hb hr hlk dX4_answerAt_53 (show oI (some (g (1 + i))) = _ from congrArg oI (by exact (k_aa_hit hv (by assumption) (by assumption) (by omega)).symm))
    exact lp13 _ 0 (Nat.lt_succ_self _) (by omega) (by rfl) _ (lv_sub hl [0, 1, 2, 3, 4] rfl)
  · refine lv_iconst (v := (-1)) hx hb dX4_answerAt_8 (by decide) ?_
    exact ro_iret hx hb hr hlk dX4_answerAt_9 (show oI none = _ from congrArg oI (by first | (have e9 : i = g 0 := (by omega); subst e9; exact hv.symm) | exact (k_aa_big g x (some q) pl (by omega) _ (Nat.le_refl _)).symm))
set_option maxHeartbeats 4000000 in
set_option maxRecDepth 100000 in
theorem c_rankAtN (l : Launch) (D : va_G) (tc : Nat → ClassId) (zb : Nat) (a a1 a2 : Nat) (tr qs : Nat → Int32) (g : Nat → Nat) (i : Nat) (hk : k_ok g) (hR : k_R tr qs g) (hi : i < g 0) : RO l yX4_rankAt wsX4_rankAt 0 0 D tc zb (w_st tc a a1 a2 tr qs g) [.ref a, .int (nI i), .int (-1)] (.int (nI (k_ra g none i))) := by
  refine RO.of (cc := cX4_rankAt) (maxL := 3) (ret := (some .int)) (by decide) rfl (Nat.le_of_ble_eq_true rfl) ?_
  intro p e s m args below meth c hx hb hr hml hlk hts hown hM hS hP ls hl
  have hl : lv_has ls 3 [(0, .ref a), (1, .int (nI i)), (2, .int (-1))] := hl
  obtain ⟨ok0, ok1, ok2, ok3, ok4, ok5, ok6⟩ := id hk
  refine lv_iload_n hx hb dX4_rankAt_0 rfl (lv_at hl 2 rfl) ?_
  refine lv_iconst (v := (-1)) hx hb dX4_rankAt_1 (by decide) ?_
  refine lv_icmp_ne (tgt := 9) hx hb dX4_rankAt_2 (by decide) (fun h9 => False.elim (by revert h9; decide)) (fun _ => ?_)
  refine lv_iload_n hx hb dX4_rankAt_5 rfl (lv_at hl 1 rfl) ?_
  refine lv_goto (tgt := 18) hx hb dX4_rankAt_6 (by decide) ?_
  exact ro_iret hx hb hr hlk dX4_rankAt_18 (congrArg nI (by rfl))
set_option maxHeartbeats 4000000 in
set_option maxRecDepth 100000 in
theorem c_countBeforeN (l : Launch) (D : va_G) (tc : Nat → ClassId) (zb : Nat) (a a1 a2 : Nat) (tr qs : Nat → Int32) (g : Nat → Nat) (x j : Nat) (hk : k_ok g) (hR : k_R tr qs g) (hx9 : x < 1331) (hj : j < g 0) : RO l yX4_countBefore wsX4_countBefore 1 24 D tc zb (w_st tc a a1 a2 tr qs g) [.ref a, .int (nI x), .int (-1), .int (nI j)] (.int (nI (k_bf g x none j (g 0)))) := by
  refine RO.of (cc := cX4_countBefore) (maxL := 7) (ret := (some .int)) (by decide) rfl (Nat.le_of_ble_eq_true rfl) ?_
  intro p e s m args below meth c hx hb hr hml hlk hts hown hM hS hP ls hl
  have hl : lv_has ls 7 [(0, .ref a), (1, .int (nI x)), (2, .int (-1)), (3, .int (nI j))] := hl
  have hinX4 : ∀ w ∈ u_ws RX4 TX4 10, w ∈ wsX4_countBefore := by decide +kernel
  obtain ⟨ok0, ok1, ok2, ok3, ok4, ok5, ok6⟩ := id hk
  refine lv_aload_n hx hb dX4_countBefore_0 rfl (lv_at hl 0 rfl) ?_
  refine lv_iload_n hx hb dX4_countBefore_1 rfl (lv_at hl 3 rfl) ?_
  refine lv_iload_n hx hb dX4_countBefore_2 rfl (lv_at hl 2 rfl) ?_
  refine ro_V (C := RX4) (n := 2) ⟨hx, hb, hml, hown, hts⟩ hM hS hP (c_rankAtN l D tc zb a a1 a2 tr qs g j hk hR (by omega)) gX4_countBefore_X4_rankAt rfl (by decide +kernel) ⟨Nat.le_of_ble_eq_true rfl, Nat.le_of_ble_eq_true rfl⟩ [0, 1, 2] rfl (va_recv hM.1 hP (ci := 3) (q0 := 0) rfl rfl) rfl hl.1 rfl (Nat.le_of_ble_eq_true rfl) dX4_countBefore_3 ⟨Nat.le_refl _, Nat.le_refl _⟩ ?_
  have hf1 := show k_ra g none j < 1000 from k_ra_lt hk (by omega)
  refine lv_istore (lv' := [(4, .int (nI (k_ra g none j))), (0, .ref a), (1, .int (nI x)), (2, .int (-1)), (3, .int (nI j))]) hx hb dX4_countBefore_6 hl (by decide) rfl (fun ls hl => ?_)
  refine lv_iconst (v := (nI 0)) hx hb dX4_countBefore_8 (by decide) ?_
  refine lv_istore (lv' := [(5, .int (nI 0)), (4, .int (nI (k_ra g none j))), (0, .ref a), (1, .int (nI x)), (2, .int (-1)), (3, .int (nI j))]) hx hb dX4_countBefore_9 hl (by decide) rfl (fun ls hl => ?_)
  refine lv_iconst (v := (nI 0)) hx hb dX4_countBefore_11 (by decide) ?_
  refine lv_istore (lv' := [(6, .int (nI 0)), (5, .int (nI 0)), (4, .int (nI (k_ra g none j))), (0, .ref a), (1, .int (nI x)), (2, .int (-1)), (3, .int (nI j))]) hx hb dX4_countBefore_12 hl (by decide) rfl (fun ls hl => ?_)
  have lp14 : ∀ (n9 : Nat) (acc : Nat) (i : Nat), (g 0 - i) < n9 → (i ≤ g 0) → (acc = k_bf g x none j i) → (acc ≤ i) → ∀ ls : Array Slot, lv_has ls 7 [(6, .int (nI i)), (5, .int (nI acc)), (4, .int (nI (k_ra g none j))), (0, .ref a), (1, .int (nI x)), (2, .int (-1)), (3, .int (nI j))] → W p l e ({ frames := 1, cells := 0, slots := 0, locals := 24 } : Room) s m args below meth c s.heap [] 0 0 (MQ below (roQ (.int (nI (k_bf g x none j (g 0))))) args s 0 0 (fun _ => False)) (F0 m 14 ls []) := by
    intro n9
    induction n9 with
    | zero => intro acc i hmu; exact absurd hmu (Nat.not_lt_zero _)
    | succ n9 ih14 =>
      intro acc i hmu hi hv hac ls hl
      refine lv_iload hx hb dX4_countBefore_14 (lv_at hl 0 rfl) ?_
      refine lv_aload_n hx hb dX4_countBefore_16 rfl (lv_at hl 3 rfl) ?_
      refine va_get (D := D) (ci := 3) (v := .int (nI (g 0))) (C := RX4) (T := TX4) (N := 10) hx hb hts hinX4 hown hM.1 hP 0 rfl rfl 1 (by decide) (hts (.fieldLink RX4 25 "TripleWays$State" "size" "I") (by decide +kernel)) (fun _ h9 => h9) rfl dX4_countBefore_17 ?_
      refine ln_icmp_ge (tgt := 57) hx hb dX4_countBefore_20 (by decide) (by omega) (by omega) (fun h2 => ?_) (fun h2 => ?_)
      · refine lv_iload hx hb dX4_countBefore_57 (lv_at hl 1 rfl) ?_
        exact ro_iret hx hb hr hlk dX4_countBefore_59 (congrArg nI (by have e9 : i = g 0 := (by omega); subst e9; exact hv))
      · refine lv_aload_n hx hb dX4_countBefore_23 rfl (lv_at hl 3 rfl) ?_
        refine lv_iload hx hb dX4_countBefore_24 (lv_at hl 0 rfl) ?_
        refine ro_V (C := RX4) (n := 1) ⟨hx, hb, hml, hown, hts⟩ hM hS hP (c_tripleAt l D tc zb a a1 a2 tr qs g i hk hR (by omega)) gX4_countBefore_X4_tripleAt rfl (by decide +kernel) ⟨Nat.le_of_ble_eq_true rfl, Nat.le_of_ble_eq_true rfl⟩ [0, 1, 2] rfl (va_recv hM.1 hP (ci := 3) (q0 := 0) rfl rfl) rfl hl.1 rfl (Nat.le_of_ble_eq_true rfl) dX4_countBefore_26 ⟨Nat.le_refl _, Nat.le_refl _⟩ ?_
        have hf3 := hk.2.2.2.2.1 i (by omega)
        refine lv_iload_n hx hb dX4_countBefore_29 rfl (lv_at hl 4 rfl) ?_
        refine ro_S (n := 2) ⟨hx, hb, hml, hown, hts⟩ hM hS hP (c_fits l D tc zb (g (1 + i)) x (by omega) (by omega)) gX4_countBefore_X4_fits rfl (by decide +kernel) ⟨Nat.le_of_ble_eq_true rfl, Nat.le_of_ble_eq_true rfl⟩ [] rfl rfl hl.1 rfl (Nat.le_of_ble_eq_true rfl) dX4_countBefore_30 ⟨Nat.le_refl _, Nat.le_refl _⟩ ?_
        refine ln_if_eqB (tgt := 51) hx hb dX4_countBefore_33 (by decide) (fun h4 => ?_) (fun h4 => ?_)
        · refine lv_iinc (v := (nI (i + 1))) (lv' := [(6, .int (nI (i + 1))), (5, .int (nI acc)), (4, .int (nI (k_ra g none j))), (0, .ref a), (1, .int (nI x)), (2, .int (-1)), (3, .int (nI j))]) hx hb dX4_countBefore_51 hl (k := 0) rfl (nI_add i 1) (by decide) rfl (fun ls hl => ?_)
          refine lv_goto (tgt := 14) hx hb dX4_countBefore_54 (by decide) ?_
          exact ih14 acc (i + 1) (by omega) (by omega) (by first | (rw [k_bf, if_pos ⟨by assumption, by assumption⟩]; omega) | (rw [k_bf, if_neg (fun h9 => by have h8 := h9.2; omega)]; omega) | (rw [k_bf, if_neg (fun h9 => by have h8 := h9.1; simp_all)]; omega)) (by omega) _ (lv_sub hl [0, 1, 2, 3, 4, 5, 6] rfl)
        · refine lv_aload_n hx hb dX4_countBefore_36 rfl (lv_at hl 3 rfl) ?_
          refine lv_iload hx hb dX4_countBefore_37 (lv_at hl 0 rfl) ?_
          refine lv_iload_n hx hb dX4_countBefore_39 rfl (lv_at hl 5 rfl) ?_
          refine ro_V (C := RX4) (n := 2) ⟨hx, hb, hml, hown, hts⟩ hM hS hP (c_rankAtN l D tc zb a a1 a2 tr qs g i hk hR (by omega)) gX4_countBefore_X4_rankAt rfl (by decide +kernel) ⟨Nat.le_of_ble_eq_true rfl, Nat.le_of_ble_eq_true rfl⟩ [0, 1, 2] rfl (va_recv hM.1 hP (ci := 3) (q0 := 0) rfl rfl) rfl hl.1 rfl (Nat.le_of_ble_eq_true rfl) dX4_countBefore_40 ⟨Nat.le_refl _, Nat.le_refl _⟩ ?_
          have hf5 := show k_ra g none i < 1000 from k_ra_lt hk (by omega)
          refine lv_iload hx hb dX4_countBefore_43 (lv_at hl 2 rfl) ?_
          refine ln_icmp_ge (tgt := 51) hx hb dX4_countBefore_45 (by decide) (by omega) (by omega) (fun h6 => ?_) (fun h6 => ?_)
          · refine lv_iinc (v := (nI (i + 1))) (lv' := [(6, .int (nI (i + 1))), (5, .int (nI acc)), (4, .int (nI (k_ra g none j))), (0, .ref a), (1, .int (nI x)), (2, .int (-1)), (3, .int (nI j))]) hx hb dX4_countBefore_51 hl (k := 0) rfl (nI_add i 1) (by decide) rfl (fun ls hl => ?_)
            refine lv_goto (tgt := 14) hx hb dX4_countBefore_54 (by decide) ?_
            exact ih14 acc (i + 1) (by omega) (by omega) (by first | (rw [k_bf, if_pos ⟨by assumption, by assumption⟩]; omega) | (rw [k_bf, if_neg (fun h9 => by have h8 := h9.2; omega)]; omega) | (rw [k_bf, if_neg (fun h9 => by have h8 := h9.1; simp_all)]; omega)) (by omega) _ (lv_sub hl [0, 1, 2, 3, 4, 5, 6] rfl)
          · refine lv_iinc (v := (nI (acc + 1))) (lv' := [(5, .int (nI (acc + 1))), (6, .int (nI i)), (4, .int (nI (k_ra g none j))), (0, .ref a), (1, .int (nI x)), (2, .int (-1)), (3, .int (nI j))]) hx hb dX4_countBefore_48 hl (k := 1) rfl (nI_add acc 1) (by decide) rfl (fun ls hl => ?_)
            refine lv_iinc (v := (nI (i + 1))) (lv' := [(6, .int (nI (i + 1))), (5, .int (nI (acc + 1))), (4, .int (nI (k_ra g none j))), (0, .ref a), (1, .int (nI x)), (2, .int (-1)), (3, .int (nI j))]) hx hb dX4_countBefore_51 hl (k := 1) rfl (nI_add i 1) (by decide) rfl (fun ls hl => ?_)
            refine lv_goto (tgt := 14) hx hb dX4_countBefore_54 (by decide) ?_
            exact ih14 (acc + 1) (i + 1) (by omega) (by omega) (by first | (rw [k_bf, if_pos ⟨by assumption, by assumption⟩]; omega) | (rw [k_bf, if_neg (fun h9 => by have h8 := h9.2; omega)]; omega) | (rw [k_bf, if_neg (fun h9 => by have h8 := h9.1; simp_all)]; omega)) (by omega) _ (lv_sub hl [0, 1, 2, 3, 4, 5, 6] rfl)
  exact lp14 _ 0 0 (Nat.lt_succ_self _) (by omega) (by rfl) (by omega) _ (lv_sub hl [0, 1, 2, 3, 4, 5, 6] rfl)
set_option maxHeartbeats 4000000 in
set_option maxRecDepth 100000 in
theorem c_answerAtN (l : Launch) (D : va_G) (tc : Nat → ClassId) (zb : Nat) (a a1 a2 : Nat) (tr qs : Nat → Int32) (g : Nat → Nat) (x pl : Nat) (hk : k_ok g) (hR : k_R tr qs g) (hx9 : x < 1331) (hpl : pl < 2 ^ 31) : RO l yX4_answerAt wsX4_answerAt 2 50 D tc zb (w_st tc a a1 a2 tr qs g) [.ref a, .int (nI x), .int (-1), .int (nI pl)] (.int (oI (k_aa g x none pl (g 0)))) := by
  refine RO.of (cc := cX4_answerAt) (maxL := 5) (ret := (some .int)) (by decide) rfl (Nat.le_of_ble_eq_true rfl) ?_
  intro p e s m args below meth c hx hb hr hml hlk hts hown hM hS hP ls hl
  have hl : lv_has ls 5 [(0, .ref a), (1, .int (nI x)), (2, .int (-1)), (3, .int (nI pl))] := hl
  have hinX4 : ∀ w ∈ u_ws RX4 TX4 10, w ∈ wsX4_answerAt := by decide +kernel
  obtain ⟨ok0, ok1, ok2, ok3, ok4, ok5, ok6⟩ := id hk
  refine lv_iload_n hx hb dX4_answerAt_0 rfl (lv_at hl 3 rfl) ?_
  refine lv_aload_n hx hb dX4_answerAt_1 rfl (lv_at hl 0 rfl) ?_
  refine va_get (D := D) (ci := 3) (v := .int (nI (g 0))) (C := RX4) (T := TX4) (N := 10) hx hb hts hinX4 hown hM.1 hP 0 rfl rfl 1 (by decide) (hts (.fieldLink RX4 25 "TripleWays$State" "size" "I") (by decide +kernel)) (fun _ h9 => h9) rfl dX4_answerAt_2 ?_
  refine ln_icmp_lt (tgt := 10) hx hb dX4_answerAt_5 (by decide) (by omega) (by omega) (fun h1 => ?_) (fun h1 => ?_)
  · refine lv_iconst (v := (nI 0)) hx hb dX4_answerAt_10 (by decide) ?_
    refine lv_istore (lv' := [(4, .int (nI 0)), (0, .ref a), (1, .int (nI x)), (2, .int (-1)), (3, .int (nI pl))]) hx hb dX4_answerAt_11 hl (by decide) rfl (fun ls hl => ?_)
    have lp13 : ∀ (n9 : Nat) (i : Nat), (g 0 - i) < n9 → (i ≤ g 0) → (k_aa g x none pl i = none) → ∀ ls : Array Slot, lv_has ls 5 [(4, .int (nI i)), (0, .ref a), (1, .int (nI x)), (2, .int (-1)), (3, .int (nI pl))] → W p l e ({ frames := 2, cells := 0, slots := 0, locals := 50 } : Room) s m args below meth c s.heap [] 0 0 (MQ below (roQ (.int (oI (k_aa g x none pl (g 0))))) args s 0 0 (fun _ => False)) (F0 m 13 ls []) := by
      intro n9
      induction n9 with
      | zero => intro i hmu; exact absurd hmu (Nat.not_lt_zero _)
      | succ n9 ih13 =>
        intro i hmu hi hv ls hl
        refine lv_iload hx hb dX4_answerAt_13 (lv_at hl 0 rfl) ?_
        refine lv_aload_n hx hb dX4_answerAt_15 rfl (lv_at hl 1 rfl) ?_
        refine va_get (D := D) (ci := 3) (v := .int (nI (g 0))) (C := RX4) (T := TX4) (N := 10) hx hb hts hinX4 hown hM.1 hP 0 rfl rfl 1 (by decide) (hts (.fieldLink RX4 25 "TripleWays$State" "size" "I") (by decide +kernel)) (fun _ h9 => h9) rfl dX4_answerAt_16 ?_
        refine ln_icmp_ge (tgt := 60) hx hb dX4_answerAt_19 (by decide) (by omega) (by omega) (fun h2 => ?_) (fun h2 => ?_)
        · refine lv_iconst (v := (-1)) hx hb dX4_answerAt_60 (by decide) ?_
          exact ro_iret hx hb hr hlk dX4_answerAt_61 (show oI none = _ from congrArg oI (by first | (have e9 : i = g 0 := (by omega); subst e9; exact hv.symm) | exact (k_aa_big g x none pl (by omega) _ (Nat.le_refl _)).symm))
        · refine lv_aload_n hx hb dX4_answerAt_22 rfl (lv_at hl 1 rfl) ?_
          refine lv_iload hx hb dX4_answerAt_23 (lv_at hl 0 rfl) ?_
          refine ro_V (C := RX4) (n := 1) ⟨hx, hb, hml, hown, hts⟩ hM hS hP (c_tripleAt l D tc zb a a1 a2 tr qs g i hk hR (by omega)) gX4_answerAt_X4_tripleAt rfl (by decide +kernel) ⟨Nat.le_of_ble_eq_true rfl, Nat.le_of_ble_eq_true rfl⟩ [0, 1, 2] rfl (va_recv hM.1 hP (ci := 3) (q0 := 0) rfl rfl) rfl hl.1 rfl (Nat.le_of_ble_eq_true rfl) dX4_answerAt_25 ⟨Nat.le_refl _, Nat.le_refl _⟩ ?_
          have hf3 := hk.2.2.2.2.1 i (by omega)
          refine lv_iload_n hx hb dX4_answerAt_28 rfl (lv_at hl 2 rfl) ?_
          refine ro_S (n := 2) ⟨hx, hb, hml, hown, hts⟩ hM hS hP (c_fits l D tc zb (g (1 + i)) x (by omega) (by omega)) gX4_answerAt_X4_fits rfl (by decide +kernel) ⟨Nat.le_of_ble_eq_true rfl, Nat.le_of_ble_eq_true rfl⟩ [] rfl rfl hl.1 rfl (Nat.le_of_ble_eq_true rfl) dX4_answerAt_29 ⟨Nat.le_refl _, Nat.le_refl _⟩ ?_
          refine ln_if_eqB (tgt := 54) hx hb dX4_answerAt_32 (by decide) (fun h4 => ?_) (fun h4 => ?_)
          · refine lv_iinc (v := (nI (i + 1))) (lv' := [(4, .int (nI (i + 1))), (0, .ref a), (1, .int (nI x)), (2, .int (-1)), (3, .int (nI pl))]) hx hb dX4_answerAt_54 hl (k := 0) rfl (nI_add i 1) (by decide) rfl (fun ls hl => ?_)
            refine lv_goto (tgt := 13) hx hb dX4_answerAt_57 (by decide) ?_
            exact ih13 (i + 1) (by omega) (by omega) (by first | exact k_aa_miss hv (fun h9 => by have h8 := h9.2; omega) | exact k_aa_miss hv (fun h9 => by have h8 := h9.1; simp_all)) _ (lv_sub hl [0, 1, 2, 3, 4] rfl)
          · refine lv_aload_n hx hb dX4_answerAt_35 rfl (lv_at hl 1 rfl) ?_
            refine lv_iload_n hx hb dX4_answerAt_36 rfl (lv_at hl 2 rfl) ?_
            refine lv_iload_n hx hb dX4_answerAt_37 rfl (lv_at hl 3 rfl) ?_
            refine lv_iload hx hb dX4_answerAt_38 (lv_at hl 0 rfl) ?_
            refine ro_V (C := RX4) (n := 3) ⟨hx, hb, hml, hown, hts⟩ hM hS hP (c_countBeforeN l D tc zb a a1 a2 tr qs g x i hk hR (by omega) (by omega)) gX4_answerAt_X4_countBefore rfl (by decide +kernel) ⟨Nat.le_of_ble_eq_true rfl, Nat.le_of_ble_eq_true rfl⟩ [0, 1, 2] rfl (va_recv hM.1 hP (ci := 3) (q0 := 0) rfl rfl) rfl hl.1 rfl (Nat.le_of_ble_eq_true rfl) dX4_answerAt_40 ⟨Nat.le_refl _, Nat.le_refl _⟩ ?_
            have hf5 := k_bf_le g x none i (g 0)
            refine lv_iload_n hx hb dX4_answerAt_43 rfl (lv_at hl 4 rfl) ?_
            refine ln_icmp_ne (tgt := 54) hx hb dX4_answerAt_44 (by decide) (by omega) (by omega) (fun h6 => ?_) (fun h6 => ?_)
            · refine lv_iinc (v := (nI (i + 1))) (lv' := [(4, .int (nI (i + 1))), (0, .ref a), (1, .int (nI x)), (2, .int (-1)), (3, .int (nI pl))]) hx hb dX4_answerAt_54 hl (k := 0) rfl (nI_add i 1) (by decide) rfl (fun ls hl => ?_)
              refine lv_goto (tgt := 13) hx hb dX4_answerAt_57 (by decide) ?_
              exact ih13 (i + 1) (by omega) (by omega) (by first | exact k_aa_miss hv (fun h9 => by have h8 := h9.2; omega) | exact k_aa_miss hv (fun h9 => by have h8 := h9.1; simp_all)) _ (lv_sub hl [0, 1, 2, 3, 4] rfl)
            · refine lv_aload_n hx hb dX4_answerAt_47 rfl (lv_at hl 1 rfl) ?_
              refine lv_iload hx hb dX4_answerAt_48 (lv_at hl 0 rfl) ?_
              refine ro_V (C := RX4) (n := 1) ⟨hx, hb, hml, hown, hts⟩ hM hS hP (c_tripleAt l D tc zb a a1 a2 tr qs g i hk hR (by omega)) gX4_answerAt_X4_tripleAt rfl (by decide +kernel) ⟨Nat.le_of_ble_eq_true rfl, Nat.le_of_ble_eq_true rfl⟩ [0, 1, 2] rfl (va_recv hM.1 hP (ci := 3) (q0 := 0) rfl rfl) rfl hl.1 rfl (Nat.le_of_ble_eq_true rfl) dX4_answerAt_50 ⟨Nat.le_refl _, Nat.le_refl _⟩ ?_
              have hf7 := hk.2.2.2.2.1 i (by omega)
              exact ro_iret hx hb hr hlk dX4_answerAt_53 (show oI (some (g (1 + i))) = _ from congrArg oI (by exact (k_aa_hit hv (by assumption) (by assumption) (by omega)).symm))
    exact lp13 _ 0 (Nat.lt_succ_self _) (by omega) (by rfl) _ (lv_sub hl [0, 1, 2, 3, 4] rfl)
  · refine lv_iconst (v := (-1)) hx hb dX4_answerAt_8 (by decide) ?_
    exact ro_iret hx hb hr hlk dX4_answerAt_9 (show oI none = _ from congrArg oI (by first | (have e9 : i = g 0 := (by omega); subst e9; exact hv.symm) | exact (k_aa_big g x none pl (by omega) _ (Nat.le_refl _)).symm))
