



set_option maxHeartbeats 4000000 in
set_option maxRecDepth 100000 in
theorem c6_about_ok (l : Launch) (D : va_G) (tc : Nat → ClassId) (zb : Nat) (x0 : Nat) (o : Nat → Value) (a a1 a2 : Nat) (tr qs : Nat → Int32) (g : Nat → Nat) (x : Nat) (hk : k_ok g) (hR : k_R tr qs g) (hx9 : x ≤ 7) : RO l yX6_about wsX6_about 1 21 D tc zb [(x0, .inr (5, [o 0, .ref a, o 2, o 3, o 4, o 5, o 6])), (a, .inr (3, [.ref a1, .int (nI (g 0)), .int (nI (g 41)), .int (nI (g 42)), .int (nI (g 43)), .int (nI (g 44)), .int (nI (g 45)), .ref a2, .int (nI (g 46)), .int (nI (g 59))])), (a1, .inl (tc 0, 40, .inl tr)), (a2, .inl (tc 0, 12, .inl qs))] [.ref x0, .int (nI x)] (.int (nI (k_abt g x))) := by
  refine RO.of (cc := cX6_about) (maxL := 2) (ret := (some .int)) (by decide) rfl (Nat.le_of_ble_eq_true rfl) ?_
  intro p e s m args below meth c hx hb hr hml hlk hts hown hM hS hP ls hl
  have hl : lv_has ls 2 [(0, .ref x0), (1, .int (nI x))] := hl
  have hinX4 : ∀ w ∈ u_ws RX4 TX4 10, w ∈ wsX6_about := by decide +kernel
  have hinX6 : ∀ w ∈ u_ws RX6 TX6 7, w ∈ wsX6_about := by decide +kernel
  obtain ⟨ok0, ok1, ok2, ok3, ok4, ok5, ok6⟩ := id hk
  refine lv_iload_n hx hb dX6_about_0 rfl (lv_at hl 1 rfl) ?_
  rcases (show x = 0 ∨ x = 1 ∨ x = 2 ∨ x = 3 ∨ x = 4 ∨ x = 5 ∨ x = 6 ∨ x = 7 by omega) with hsw | hsw | hsw | hsw | hsw | hsw | hsw | hsw
  · refine ln_eq (x' := nI 0) (congrArg nI hsw) ?_
    refine lv_tableIn (off := 47) (tgt := 48) hx hb dX6_about_1 (by decide) (by decide) (by decide) (by decide) ?_
    refine lv_aload_n hx hb dX6_about_48 rfl (lv_at hl 0 rfl) ?_
    refine va_get (D := D) (ci := 5) (v := .ref a) (C := RX6) (T := TX6) (N := 7) hx hb hts hinX6 hown hM.1 hP 0 rfl rfl 1 (by decide) (hts (.fieldLink RX6 19 "TripleWays" "now" "LTripleWays$State;") (by decide +kernel)) (fun _ h9 => h9) rfl dX6_about_49 ?_
    refine va_getN (D := D) (ci := 3) (v := .int (nI (g 0))) (C := RX4) (T := TX4) (N := 10) hx hb hts hinX4 hown hM.1 hP 1 rfl rfl 1 (by decide) (va_Nw.use rfl (hM.2.2.2.2.2.1 ("TripleWays", 85, "TripleWays$State", "size", "I") (by decide +kernel))) (fun _ h9 => h9) rfl dX6_about_52 ?_
    exact ro_iret hx hb hr hlk dX6_about_55 (congrArg nI (by rw [hsw]; rfl))
  · refine ln_eq (x' := nI 1) (congrArg nI hsw) ?_
    refine lv_tableIn (off := 55) (tgt := 56) hx hb dX6_about_1 (by decide) (by decide) (by decide) (by decide) ?_
    refine lv_aload_n hx hb dX6_about_56 rfl (lv_at hl 0 rfl) ?_
    refine va_get (D := D) (ci := 5) (v := .ref a) (C := RX6) (T := TX6) (N := 7) hx hb hts hinX6 hown hM.1 hP 0 rfl rfl 1 (by decide) (hts (.fieldLink RX6 19 "TripleWays" "now" "LTripleWays$State;") (by decide +kernel)) (fun _ h9 => h9) rfl dX6_about_57 ?_
    refine va_getN (D := D) (ci := 3) (v := .int (nI (g 41))) (C := RX4) (T := TX4) (N := 10) hx hb hts hinX4 hown hM.1 hP 1 rfl rfl 2 (by decide) (va_Nw.use rfl (hM.2.2.2.2.2.1 ("TripleWays", 89, "TripleWays$State", "kept", "I") (by decide +kernel))) (fun _ h9 => h9) rfl dX6_about_60 ?_
    exact ro_iret hx hb hr hlk dX6_about_63 (congrArg nI (by rw [hsw]; rfl))
  · refine ln_eq (x' := nI 2) (congrArg nI hsw) ?_
    refine lv_tableIn (off := 63) (tgt := 64) hx hb dX6_about_1 (by decide) (by decide) (by decide) (by decide) ?_
    refine lv_aload_n hx hb dX6_about_64 rfl (lv_at hl 0 rfl) ?_
    refine va_get (D := D) (ci := 5) (v := .ref a) (C := RX6) (T := TX6) (N := 7) hx hb hts hinX6 hown hM.1 hP 0 rfl rfl 1 (by decide) (hts (.fieldLink RX6 19 "TripleWays" "now" "LTripleWays$State;") (by decide +kernel)) (fun _ h9 => h9) rfl dX6_about_65 ?_
    refine va_getN (D := D) (ci := 3) (v := .int (nI (g 42))) (C := RX4) (T := TX4) (N := 10) hx hb hts hinX4 hown hM.1 hP 1 rfl rfl 3 (by decide) (va_Nw.use rfl (hM.2.2.2.2.2.1 ("TripleWays", 92, "TripleWays$State", "upkeepCosts", "I") (by decide +kernel))) (fun _ h9 => h9) rfl dX6_about_68 ?_
    exact ro_iret hx hb hr hlk dX6_about_71 (congrArg nI (by rw [hsw]; rfl))
  · refine ln_eq (x' := nI 3) (congrArg nI hsw) ?_
    refine lv_tableIn (off := 71) (tgt := 72) hx hb dX6_about_1 (by decide) (by decide) (by decide) (by decide) ?_
    refine lv_aload_n hx hb dX6_about_72 rfl (lv_at hl 0 rfl) ?_
    refine va_get (D := D) (ci := 5) (v := .ref a) (C := RX6) (T := TX6) (N := 7) hx hb hts hinX6 hown hM.1 hP 0 rfl rfl 1 (by decide) (hts (.fieldLink RX6 19 "TripleWays" "now" "LTripleWays$State;") (by decide +kernel)) (fun _ h9 => h9) rfl dX6_about_73 ?_
    refine va_getN (D := D) (ci := 3) (v := .int (nI (g 43))) (C := RX4) (T := TX4) (N := 10) hx hb hts hinX4 hown hM.1 hP 1 rfl rfl 4 (by decide) (va_Nw.use rfl (hM.2.2.2.2.2.1 ("TripleWays", 95, "TripleWays$State", "buildingCosts", "I") (by decide +kernel))) (fun _ h9 => h9) rfl dX6_about_76 ?_
    exact ro_iret hx hb hr hlk dX6_about_79 (congrArg nI (by rw [hsw]; rfl))
  · refine ln_eq (x' := nI 4) (congrArg nI hsw) ?_
    refine lv_tableIn (off := 79) (tgt := 80) hx hb dX6_about_1 (by decide) (by decide) (by decide) (by decide) ?_
    refine lv_aload_n hx hb dX6_about_80 rfl (lv_at hl 0 rfl) ?_
    refine va_get (D := D) (ci := 5) (v := .ref a) (C := RX6) (T := TX6) (N := 7) hx hb hts hinX6 hown hM.1 hP 0 rfl rfl 1 (by decide) (hts (.fieldLink RX6 19 "TripleWays" "now" "LTripleWays$State;") (by decide +kernel)) (fun _ h9 => h9) rfl dX6_about_81 ?_
    refine va_getN (D := D) (ci := 3) (v := .int (nI (g 44))) (C := RX4) (T := TX4) (N := 10) hx hb hts hinX4 hown hM.1 hP 1 rfl rfl 5 (by decide) (va_Nw.use rfl (hM.2.2.2.2.2.1 ("TripleWays", 98, "TripleWays$State", "answerCosts", "I") (by decide +kernel))) (fun _ h9 => h9) rfl dX6_about_84 ?_
    exact ro_iret hx hb hr hlk dX6_about_87 (congrArg nI (by rw [hsw]; rfl))
  · refine ln_eq (x' := nI 5) (congrArg nI hsw) ?_
    refine lv_tableIn (off := 87) (tgt := 88) hx hb dX6_about_1 (by decide) (by decide) (by decide) (by decide) ?_
    refine lv_aload_n hx hb dX6_about_88 rfl (lv_at hl 0 rfl) ?_
    refine va_get (D := D) (ci := 5) (v := .ref a) (C := RX6) (T := TX6) (N := 7) hx hb hts hinX6 hown hM.1 hP 0 rfl rfl 1 (by decide) (hts (.fieldLink RX6 19 "TripleWays" "now" "LTripleWays$State;") (by decide +kernel)) (fun _ h9 => h9) rfl dX6_about_89 ?_
    refine va_getN (D := D) (ci := 3) (v := .int (nI (g 45))) (C := RX4) (T := TX4) (N := 10) hx hb hts hinX4 hown hM.1 hP 1 rfl rfl 6 (by decide) (va_Nw.use rfl (hM.2.2.2.2.2.1 ("TripleWays", 101, "TripleWays$State", "asked", "I") (by decide +kernel))) (fun _ h9 => h9) rfl dX6_about_92 ?_
    exact ro_iret hx hb hr hlk dX6_about_95 (congrArg nI (by rw [hsw]; rfl))
  · refine ln_eq (x' := nI 6) (congrArg nI hsw) ?_
    refine lv_tableIn (off := 95) (tgt := 96) hx hb dX6_about_1 (by decide) (by decide) (by decide) (by decide) ?_
    refine lv_aload_n hx hb dX6_about_96 rfl (lv_at hl 0 rfl) ?_
    refine va_get (D := D) (ci := 5) (v := .ref a) (C := RX6) (T := TX6) (N := 7) hx hb hts hinX6 hown hM.1 hP 0 rfl rfl 1 (by decide) (hts (.fieldLink RX6 19 "TripleWays" "now" "LTripleWays$State;") (by decide +kernel)) (fun _ h9 => h9) rfl dX6_about_97 ?_
    refine va_getN (D := D) (ci := 3) (v := .int (nI (g 46))) (C := RX4) (T := TX4) (N := 10) hx hb hts hinX4 hown hM.1 hP 1 rfl rfl 8 (by decide) (va_Nw.use rfl (hM.2.2.2.2.2.1 ("TripleWays", 104, "TripleWays$State", "questionCount", "I") (by decide +kernel))) (fun _ h9 => h9) rfl dX6_about_100 ?_
    exact ro_iret hx hb hr hlk dX6_about_103 (congrArg nI (by rw [hsw]; rfl))
  · refine ln_eq (x' := nI 7) (congrArg nI hsw) ?_
    refine lv_tableIn (off := 103) (tgt := 104) hx hb dX6_about_1 (by decide) (by decide) (by decide) (by decide) ?_
    refine lv_aload_n hx hb dX6_about_104 rfl (lv_at hl 0 rfl) ?_
    refine va_get (D := D) (ci := 5) (v := .ref a) (C := RX6) (T := TX6) (N := 7) hx hb hts hinX6 hown hM.1 hP 0 rfl rfl 1 (by decide) (hts (.fieldLink RX6 19 "TripleWays" "now" "LTripleWays$State;") (by decide +kernel)) (fun _ h9 => h9) rfl dX6_about_105 ?_
    refine ro_V (C := RX4) (n := 0) ⟨hx, hb, hml, hown, hts⟩ hM hS hP (c_look l D tc zb a a1 a2 tr qs g hk hR) gX6_about_X4_look rfl (by decide +kernel) ⟨Nat.le_of_ble_eq_true rfl, Nat.le_of_ble_eq_true rfl⟩ [1, 2, 3] rfl (va_recv hM.1 hP (ci := 3) (q0 := 1) rfl rfl) rfl hl.1 rfl (Nat.le_of_ble_eq_true rfl) dX6_about_108 ⟨Nat.le_refl _, Nat.le_refl _⟩ ?_
    have hf1 := k_lk_le (g 0)
    exact ro_iret hx hb hr hlk dX6_about_111 (congrArg nI (by rw [hsw]; rfl))

set_option maxHeartbeats 4000000 in
set_option maxRecDepth 100000 in
theorem c6_triple_ok (l : Launch) (D : va_G) (tc : Nat → ClassId) (zb : Nat) (x0 : Nat) (o : Nat → Value) (a a1 a2 : Nat) (tr qs : Nat → Int32) (g : Nat → Nat) (q pl : Nat) (hk : k_ok g) (hR : k_R tr qs g) (hq : q < 6) (hpl : pl < 2 ^ 31) : RO l yX6_triple wsX6_triple 5 117 D tc zb [(x0, .inr (5, [o 0, .ref a, o 2, o 3, o 4, o 5, o 6])), (a, .inr (3, [.ref a1, .int (nI (g 0)), .int (nI (g 41)), .int (nI (g 42)), .int (nI (g 43)), .int (nI (g 44)), .int (nI (g 45)), .ref a2, .int (nI (g 46)), .int (nI (g 59))])), (a1, .inl (tc 0, 40, .inl tr)), (a2, .inl (tc 0, 12, .inl qs))] [.ref x0, .int (nI q), .int (nI pl)] (.int (oI (k_aa g 1330 (some q) pl (g 0)))) := by
  refine RO.of (cc := cX6_triple) (maxL := 3) (ret := (some .int)) (by decide) rfl (Nat.le_of_ble_eq_true rfl) ?_
  intro p e s m args below meth c hx hb hr hml hlk hts hown hM hS hP ls hl
  have hl : lv_has ls 3 [(0, .ref x0), (1, .int (nI q)), (2, .int (nI pl))] := hl
  have hinX6 : ∀ w ∈ u_ws RX6 TX6 7, w ∈ wsX6_triple := by decide +kernel
  obtain ⟨ok0, ok1, ok2, ok3, ok4, ok5, ok6⟩ := id hk
  refine lv_iload_n hx hb dX6_triple_0 rfl (lv_at hl 1 rfl) ?_
  refine rov_S (n := 1) ⟨hx, hb, hml, hown, hts⟩ hM hS hP (c6_needOrderOrNone l D tc zb q (by omega)) gX6_triple_X6_needOrderOrNone rfl (by decide +kernel) ⟨Nat.le_of_ble_eq_true rfl, Nat.le_of_ble_eq_true rfl⟩ [] rfl rfl hl.1 rfl (Nat.le_of_ble_eq_true rfl) dX6_triple_1 ⟨Nat.le_refl _, Nat.le_refl _⟩ ?_
  refine lv_iload_n hx hb dX6_triple_4 rfl (lv_at hl 2 rfl) ?_
  refine rov_S (n := 1) ⟨hx, hb, hml, hown, hts⟩ hM hS hP (c6_needPlace l D tc zb pl (by omega)) gX6_triple_X6_needPlace rfl (by decide +kernel) ⟨Nat.le_of_ble_eq_true rfl, Nat.le_of_ble_eq_true rfl⟩ [] rfl rfl hl.1 rfl (Nat.le_of_ble_eq_true rfl) dX6_triple_5 ⟨Nat.le_refl _, Nat.le_refl _⟩ ?_
  refine lv_aload_n hx hb dX6_triple_8 rfl (lv_at hl 0 rfl) ?_
  refine va_get (D := D) (ci := 5) (v := .ref a) (C := RX6) (T := TX6) (N := 7) hx hb hts hinX6 hown hM.1 hP 0 rfl rfl 1 (by decide) (hts (.fieldLink RX6 19 "TripleWays" "now" "LTripleWays$State;") (by decide +kernel)) (fun _ h9 => h9) rfl dX6_triple_9 ?_
  refine lv_sipush (v := (nI 1330)) hx hb dX6_triple_12 (by decide) ?_
  refine lv_iload_n hx hb dX6_triple_15 rfl (lv_at hl 1 rfl) ?_
  refine lv_iload_n hx hb dX6_triple_16 rfl (lv_at hl 2 rfl) ?_
  refine ro_V (C := RX4) (n := 3) ⟨hx, hb, hml, hown, hts⟩ hM hS hP (c_answerAt l D tc zb a a1 a2 tr qs g 1330 q pl hk hR (by omega) (by omega) (by omega)) gX6_triple_X4_answerAt rfl (by decide +kernel) ⟨Nat.le_of_ble_eq_true rfl, Nat.le_of_ble_eq_true rfl⟩ [1, 2, 3] rfl (va_recv hM.1 hP (ci := 3) (q0 := 1) rfl rfl) rfl hl.1 rfl (Nat.le_of_ble_eq_true rfl) dX6_triple_17 ⟨Nat.le_refl _, Nat.le_refl _⟩ ?_
  exact ro_iret hx hb hr hlk dX6_triple_20 (rfl)
set_option maxHeartbeats 4000000 in
set_option maxRecDepth 100000 in
theorem c6_triple_okN (l : Launch) (D : va_G) (tc : Nat → ClassId) (zb : Nat) (x0 : Nat) (o : Nat → Value) (a a1 a2 : Nat) (tr qs : Nat → Int32) (g : Nat → Nat) (pl : Nat) (hk : k_ok g) (hR : k_R tr qs g) (hpl : pl < 2 ^ 31) : RO l yX6_triple wsX6_triple 3 74 D tc zb [(x0, .inr (5, [o 0, .ref a, o 2, o 3, o 4, o 5, o 6])), (a, .inr (3, [.ref a1, .int (nI (g 0)), .int (nI (g 41)), .int (nI (g 42)), .int (nI (g 43)), .int (nI (g 44)), .int (nI (g 45)), .ref a2, .int (nI (g 46)), .int (nI (g 59))])), (a1, .inl (tc 0, 40, .inl tr)), (a2, .inl (tc 0, 12, .inl qs))] [.ref x0, .int (-1), .int (nI pl)] (.int (oI (k_aa g 1330 none pl (g 0)))) := by
  refine RO.of (cc := cX6_triple) (maxL := 3) (ret := (some .int)) (by decide) rfl (Nat.le_of_ble_eq_true rfl) ?_
  intro p e s m args below meth c hx hb hr hml hlk hts hown hM hS hP ls hl
  have hl : lv_has ls 3 [(0, .ref x0), (1, .int (-1)), (2, .int (nI pl))] := hl
  have hinX6 : ∀ w ∈ u_ws RX6 TX6 7, w ∈ wsX6_triple := by decide +kernel
  obtain ⟨ok0, ok1, ok2, ok3, ok4, ok5, ok6⟩ := id hk
  refine lv_iload_n hx hb dX6_triple_0 rfl (lv_at hl 1 rfl) ?_
  refine rov_S (n := 1) ⟨hx, hb, hml, hown, hts⟩ hM hS hP (c6_needOrderOrNone_n l D tc zb ) gX6_triple_X6_needOrderOrNone rfl (by decide +kernel) ⟨Nat.le_of_ble_eq_true rfl, Nat.le_of_ble_eq_true rfl⟩ [] rfl rfl hl.1 rfl (Nat.le_of_ble_eq_true rfl) dX6_triple_1 ⟨Nat.le_refl _, Nat.le_refl _⟩ ?_
  refine lv_iload_n hx hb dX6_triple_4 rfl (lv_at hl 2 rfl) ?_
  refine rov_S (n := 1) ⟨hx, hb, hml, hown, hts⟩ hM hS hP (c6_needPlace l D tc zb pl (by omega)) gX6_triple_X6_needPlace rfl (by decide +kernel) ⟨Nat.le_of_ble_eq_true rfl, Nat.le_of_ble_eq_true rfl⟩ [] rfl rfl hl.1 rfl (Nat.le_of_ble_eq_true rfl) dX6_triple_5 ⟨Nat.le_refl _, Nat.le_refl _⟩ ?_
  refine lv_aload_n hx hb dX6_triple_8 rfl (lv_at hl 0 rfl) ?_
  refine va_get (D := D) (ci := 5) (v := .ref a) (C := RX6) (T := TX6) (N := 7) hx hb hts hinX6 hown hM.1 hP 0 rfl rfl 1 (by decide) (hts (.fieldLink RX6 19 "TripleWays" "now" "LTripleWays$State;") (by decide +kernel)) (fun _ h9 => h9) rfl dX6_triple_9 ?_
  refine lv_sipush (v := (nI 1330)) hx hb dX6_triple_12 (by decide) ?_
  refine lv_iload_n hx hb dX6_triple_15 rfl (lv_at hl 1 rfl) ?_
  refine lv_iload_n hx hb dX6_triple_16 rfl (lv_at hl 2 rfl) ?_
  refine ro_V (C := RX4) (n := 3) ⟨hx, hb, hml, hown, hts⟩ hM hS hP (c_answerAtN l D tc zb a a1 a2 tr qs g 1330 pl hk hR (by omega) (by omega)) gX6_triple_X4_answerAt rfl (by decide +kernel) ⟨Nat.le_of_ble_eq_true rfl, Nat.le_of_ble_eq_true rfl⟩ [1, 2, 3] rfl (va_recv hM.1 hP (ci := 3) (q0 := 1) rfl rfl) rfl hl.1 rfl (Nat.le_of_ble_eq_true rfl) dX6_triple_17 ⟨Nat.le_refl _, Nat.le_refl _⟩ ?_
  exact ro_iret hx hb hr hlk dX6_triple_20 (rfl)



set_option maxHeartbeats 4000000 in
set_option maxRecDepth 100000 in
theorem c6_remembered_ok (l : Launch) (D : va_G) (tc : Nat → ClassId) (zb : Nat) (x0 : Nat) (o : Nat → Value) (a a1 a2 : Nat) (tr qs : Nat → Int32) (g : Nat → Nat) (pl : Nat) (hk : k_ok g) (hR : k_R tr qs g) (hpl : pl < 2 ^ 31) : RO l yX6_remembered wsX6_remembered 1 21 D tc zb [(x0, .inr (5, [o 0, .ref a, o 2, o 3, o 4, o 5, o 6])), (a, .inr (3, [.ref a1, .int (nI (g 0)), .int (nI (g 41)), .int (nI (g 42)), .int (nI (g 43)), .int (nI (g 44)), .int (nI (g 45)), .ref a2, .int (nI (g 46)), .int (nI (g 59))])), (a1, .inl (tc 0, 40, .inl tr)), (a2, .inl (tc 0, 12, .inl qs))] [.ref x0, .int (nI pl)] (.int (oI (k_rmb g pl))) := by
  refine RO.of (cc := cX6_remembered) (maxL := 2) (ret := (some .int)) (by decide) rfl (Nat.le_of_ble_eq_true rfl) ?_
  intro p e s m args below meth c hx hb hr hml hlk hts hown hM hS hP ls hl
  have hl : lv_has ls 2 [(0, .ref x0), (1, .int (nI pl))] := hl
  have hinX4 : ∀ w ∈ u_ws RX4 TX4 10, w ∈ wsX6_remembered := by decide +kernel
  have hinX6 : ∀ w ∈ u_ws RX6 TX6 7, w ∈ wsX6_remembered := by decide +kernel
  obtain ⟨ok0, ok1, ok2, ok3, ok4, ok5, ok6⟩ := id hk
  refine lv_iload_n hx hb dX6_remembered_0 rfl (lv_at hl 1 rfl) ?_
  refine rov_S (n := 1) ⟨hx, hb, hml, hown, hts⟩ hM hS hP (c6_needPlace l D tc zb pl (by omega)) gX6_remembered_X6_needPlace rfl (by decide +kernel) ⟨Nat.le_of_ble_eq_true rfl, Nat.le_of_ble_eq_true rfl⟩ [] rfl rfl hl.1 rfl (Nat.le_of_ble_eq_true rfl) dX6_remembered_1 ⟨Nat.le_refl _, Nat.le_refl _⟩ ?_
  refine lv_iload_n hx hb dX6_remembered_4 rfl (lv_at hl 1 rfl) ?_
  refine lv_aload_n hx hb dX6_remembered_5 rfl (lv_at hl 0 rfl) ?_
  refine va_get (D := D) (ci := 5) (v := .ref a) (C := RX6) (T := TX6) (N := 7) hx hb hts hinX6 hown hM.1 hP 0 rfl rfl 1 (by decide) (hts (.fieldLink RX6 19 "TripleWays" "now" "LTripleWays$State;") (by decide +kernel)) (fun _ h9 => h9) rfl dX6_remembered_6 ?_
  refine va_getN (D := D) (ci := 3) (v := .int (nI (g 46))) (C := RX4) (T := TX4) (N := 10) hx hb hts hinX4 hown hM.1 hP 1 rfl rfl 8 (by decide) (va_Nw.use rfl (hM.2.2.2.2.2.1 ("TripleWays", 104, "TripleWays$State", "questionCount", "I") (by decide +kernel))) (fun _ h9 => h9) rfl dX6_remembered_9 ?_
  refine ln_icmp_ge (tgt := 36) hx hb dX6_remembered_12 (by decide) (by omega) (by omega) (fun h1 => ?_) (fun h1 => ?_)
  · refine lv_iconst (v := (-1)) hx hb dX6_remembered_36 (by decide) ?_
    exact ro_iret hx hb hr hlk dX6_remembered_37 (show oI none = _ from congrArg oI (by unfold k_rmb; first | (rw [if_pos (by omega), show 47 + g 46 - 1 - pl = 47 + (g 46 - 1 - pl) by omega]) | (rw [if_neg (by omega)])))
  · refine lv_aload_n hx hb dX6_remembered_15 rfl (lv_at hl 0 rfl) ?_
    refine va_get (D := D) (ci := 5) (v := .ref a) (C := RX6) (T := TX6) (N := 7) hx hb hts hinX6 hown hM.1 hP 0 rfl rfl 1 (by decide) (hts (.fieldLink RX6 19 "TripleWays" "now" "LTripleWays$State;") (by decide +kernel)) (fun _ h9 => h9) rfl dX6_remembered_16 ?_
    refine lv_aload_n hx hb dX6_remembered_19 rfl (lv_at hl 0 rfl) ?_
    refine va_get (D := D) (ci := 5) (v := .ref a) (C := RX6) (T := TX6) (N := 7) hx hb hts hinX6 hown hM.1 hP 0 rfl rfl 1 (by decide) (hts (.fieldLink RX6 19 "TripleWays" "now" "LTripleWays$State;") (by decide +kernel)) (fun _ h9 => h9) rfl dX6_remembered_20 ?_
    refine va_getN (D := D) (ci := 3) (v := .int (nI (g 46))) (C := RX4) (T := TX4) (N := 10) hx hb hts hinX4 hown hM.1 hP 1 rfl rfl 8 (by decide) (va_Nw.use rfl (hM.2.2.2.2.2.1 ("TripleWays", 104, "TripleWays$State", "questionCount", "I") (by decide +kernel))) (fun _ h9 => h9) rfl dX6_remembered_23 ?_
    refine lv_iconst (v := (nI 1)) hx hb dX6_remembered_26 (by decide) ?_
    refine ln_isub hx hb dX6_remembered_27 (by omega) ?_
    refine lv_iload_n hx hb dX6_remembered_28 rfl (lv_at hl 1 rfl) ?_
    refine ln_isub hx hb dX6_remembered_29 (by omega) ?_
    refine ro_V (C := RX4) (n := 1) ⟨hx, hb, hml, hown, hts⟩ hM hS hP (c_questionAt l D tc zb a a1 a2 tr qs g (((g 46) - 1) - pl) hk hR (by omega)) gX6_remembered_X4_questionAt rfl (by decide +kernel) ⟨Nat.le_of_ble_eq_true rfl, Nat.le_of_ble_eq_true rfl⟩ [1, 2, 3] rfl (va_recv hM.1 hP (ci := 3) (q0 := 1) rfl rfl) rfl hl.1 rfl (Nat.le_of_ble_eq_true rfl) dX6_remembered_30 ⟨Nat.le_refl _, Nat.le_refl _⟩ ?_
    have hf2 := hk.2.2.2.2.2.1 (((g 46) - 1) - pl) (by omega)
    refine lv_goto (tgt := 37) hx hb dX6_remembered_33 (by decide) ?_
    exact ro_iret hx hb hr hlk dX6_remembered_37 (show oI (some (g (47 + (((g 46) - 1) - pl)))) = _ from congrArg oI (by unfold k_rmb; first | (rw [if_pos (by omega), show 47 + g 46 - 1 - pl = 47 + (g 46 - 1 - pl) by omega]) | (rw [if_neg (by omega)])))

set_option maxHeartbeats 4000000 in
set_option maxRecDepth 100000 in
theorem c6_weight (l : Launch) (D : va_G) (tc : Nat → ClassId) (zb : Nat) (x0 : Nat) (o : Nat → Value) (a a1 a2 : Nat) (tr qs : Nat → Int32) (g : Nat → Nat) (hk : k_ok g) (hR : k_R tr qs g) : RO l yX6_weight wsX6_weight 0 0 D tc zb [(x0, .inr (5, [o 0, .ref a, o 2, o 3, o 4, o 5, o 6])), (a, .inr (3, [.ref a1, .int (nI (g 0)), .int (nI (g 41)), .int (nI (g 42)), .int (nI (g 43)), .int (nI (g 44)), .int (nI (g 45)), .ref a2, .int (nI (g 46)), .int (nI (g 59))])), (a1, .inl (tc 0, 40, .inl tr)), (a2, .inl (tc 0, 12, .inl qs))] [.ref x0] (.int (nI (g 59))) := by
  refine RO.of (cc := cX6_weight) (maxL := 1) (ret := (some .int)) (by decide) rfl (Nat.le_of_ble_eq_true rfl) ?_
  intro p e s m args below meth c hx hb hr hml hlk hts hown hM hS hP ls hl
  have hl : lv_has ls 1 [(0, .ref x0)] := hl
  have hinX4 : ∀ w ∈ u_ws RX4 TX4 10, w ∈ wsX6_weight := by decide +kernel
  have hinX6 : ∀ w ∈ u_ws RX6 TX6 7, w ∈ wsX6_weight := by decide +kernel
  obtain ⟨ok0, ok1, ok2, ok3, ok4, ok5, ok6⟩ := id hk
  refine lv_aload_n hx hb dX6_weight_0 rfl (lv_at hl 0 rfl) ?_
  refine va_get (D := D) (ci := 5) (v := .ref a) (C := RX6) (T := TX6) (N := 7) hx hb hts hinX6 hown hM.1 hP 0 rfl rfl 1 (by decide) (hts (.fieldLink RX6 19 "TripleWays" "now" "LTripleWays$State;") (by decide +kernel)) (fun _ h9 => h9) rfl dX6_weight_1 ?_
  refine va_getN (D := D) (ci := 3) (v := .int (nI (g 59))) (C := RX4) (T := TX4) (N := 10) hx hb hts hinX4 hown hM.1 hP 1 rfl rfl 9 (by decide) (va_Nw.use rfl (hM.2.2.2.2.2.1 ("TripleWays", 126, "TripleWays$State", "weight", "I") (by decide +kernel))) (fun _ h9 => h9) rfl dX6_weight_4 ?_
  exact ro_iret hx hb hr hlk dX6_weight_7 (rfl)
set_option maxHeartbeats 4000000 in
set_option maxRecDepth 100000 in
theorem c6_count_ok (l : Launch) (D : va_G) (tc : Nat → ClassId) (zb : Nat) (x0 : Nat) (o : Nat → Value) (a a1 a2 : Nat) (tr qs : Nat → Int32) (g : Nat → Nat) (x : Nat) (hk : k_ok g) (hR : k_R tr qs g) (hx9 : x < 1331) : RO l yX6_count wsX6_count 2 47 D tc zb [(x0, .inr (5, [o 0, .ref a, o 2, o 3, o 4, o 5, o 6])), (a, .inr (3, [.ref a1, .int (nI (g 0)), .int (nI (g 41)), .int (nI (g 42)), .int (nI (g 43)), .int (nI (g 44)), .int (nI (g 45)), .ref a2, .int (nI (g 46)), .int (nI (g 59))])), (a1, .inl (tc 0, 40, .inl tr)), (a2, .inl (tc 0, 12, .inl qs))] [.ref x0, .int (nI x)] (.int (nI (k_cnt g x))) := by
  refine RO.of (cc := cX6_count) (maxL := 2) (ret := (some .int)) (by decide) rfl (Nat.le_of_ble_eq_true rfl) ?_
  intro p e s m args below meth c hx hb hr hml hlk hts hown hM hS hP ls hl
  have hl : lv_has ls 2 [(0, .ref x0), (1, .int (nI x))] := hl
  have hinX6 : ∀ w ∈ u_ws RX6 TX6 7, w ∈ wsX6_count := by decide +kernel
  obtain ⟨ok0, ok1, ok2, ok3, ok4, ok5, ok6⟩ := id hk
  refine lv_iload_n hx hb dX6_count_0 rfl (lv_at hl 1 rfl) ?_
  refine rov_S (n := 1) ⟨hx, hb, hml, hown, hts⟩ hM hS hP (c6_needQuestion l D tc zb x (by omega)) gX6_count_X6_needQuestion rfl (by decide +kernel) ⟨Nat.le_of_ble_eq_true rfl, Nat.le_of_ble_eq_true rfl⟩ [] rfl rfl hl.1 rfl (Nat.le_of_ble_eq_true rfl) dX6_count_1 ⟨Nat.le_refl _, Nat.le_refl _⟩ ?_
  refine lv_aload_n hx hb dX6_count_4 rfl (lv_at hl 0 rfl) ?_
  refine va_get (D := D) (ci := 5) (v := .ref a) (C := RX6) (T := TX6) (N := 7) hx hb hts hinX6 hown hM.1 hP 0 rfl rfl 1 (by decide) (hts (.fieldLink RX6 19 "TripleWays" "now" "LTripleWays$State;") (by decide +kernel)) (fun _ h9 => h9) rfl dX6_count_5 ?_
  refine lv_iload_n hx hb dX6_count_8 rfl (lv_at hl 1 rfl) ?_
  refine ro_V (C := RX4) (n := 1) ⟨hx, hb, hml, hown, hts⟩ hM hS hP (c_countAnswers l D tc zb a a1 a2 tr qs g x hk hR (by omega)) gX6_count_X4_countAnswers rfl (by decide +kernel) ⟨Nat.le_of_ble_eq_true rfl, Nat.le_of_ble_eq_true rfl⟩ [1, 2, 3] rfl (va_recv hM.1 hP (ci := 3) (q0 := 1) rfl rfl) rfl hl.1 rfl (Nat.le_of_ble_eq_true rfl) dX6_count_9 ⟨Nat.le_refl _, Nat.le_refl _⟩ ?_
  have hf1 := k_cnt_le g x
  exact ro_iret hx hb hr hlk dX6_count_12 (rfl)

set_option maxHeartbeats 4000000 in
set_option maxRecDepth 100000 in
theorem c6_cost_ok (l : Launch) (D : va_G) (tc : Nat → ClassId) (zb : Nat) (x0 : Nat) (o : Nat → Value) (a a1 a2 : Nat) (tr qs : Nat → Int32) (g : Nat → Nat) (x q : Nat) (hk : k_ok g) (hR : k_R tr qs g) (hx9 : x < 1331) (hq : q < 6) : RO l yX6_cost wsX6_cost 3 70 D tc zb [(x0, .inr (5, [o 0, .ref a, o 2, o 3, o 4, o 5, o 6])), (a, .inr (3, [.ref a1, .int (nI (g 0)), .int (nI (g 41)), .int (nI (g 42)), .int (nI (g 43)), .int (nI (g 44)), .int (nI (g 45)), .ref a2, .int (nI (g 46)), .int (nI (g 59))])), (a1, .inl (tc 0, 40, .inl tr)), (a2, .inl (tc 0, 12, .inl qs))] [.ref x0, .int (nI x), .int (nI q)] (.int (nI (k_cb g x q))) := by
  refine RO.of (cc := cX6_cost) (maxL := 3) (ret := (some .int)) (by decide) rfl (Nat.le_of_ble_eq_true rfl) ?_
  intro p e s m args below meth c hx hb hr hml hlk hts hown hM hS hP ls hl
  have hl : lv_has ls 3 [(0, .ref x0), (1, .int (nI x)), (2, .int (nI q))] := hl
  have hinX6 : ∀ w ∈ u_ws RX6 TX6 7, w ∈ wsX6_cost := by decide +kernel
  obtain ⟨ok0, ok1, ok2, ok3, ok4, ok5, ok6⟩ := id hk
  refine lv_iload_n hx hb dX6_cost_0 rfl (lv_at hl 1 rfl) ?_
  refine rov_S (n := 1) ⟨hx, hb, hml, hown, hts⟩ hM hS hP (c6_needQuestion l D tc zb x (by omega)) gX6_cost_X6_needQuestion rfl (by decide +kernel) ⟨Nat.le_of_ble_eq_true rfl, Nat.le_of_ble_eq_true rfl⟩ [] rfl rfl hl.1 rfl (Nat.le_of_ble_eq_true rfl) dX6_cost_1 ⟨Nat.le_refl _, Nat.le_refl _⟩ ?_
  refine lv_iload_n hx hb dX6_cost_4 rfl (lv_at hl 2 rfl) ?_
  refine rov_S (n := 1) ⟨hx, hb, hml, hown, hts⟩ hM hS hP (c6_needOrderOrNone l D tc zb q (by omega)) gX6_cost_X6_needOrderOrNone rfl (by decide +kernel) ⟨Nat.le_of_ble_eq_true rfl, Nat.le_of_ble_eq_true rfl⟩ [] rfl rfl hl.1 rfl (Nat.le_of_ble_eq_true rfl) dX6_cost_5 ⟨Nat.le_refl _, Nat.le_refl _⟩ ?_
  refine lv_iload_n hx hb dX6_cost_8 rfl (lv_at hl 2 rfl) ?_
  refine lv_iconst (v := (-1)) hx hb dX6_cost_9 (by decide) ?_
  refine ln_ne_m1 (tgt := 24) hx hb dX6_cost_10 (by decide) (by omega) ?_
  refine lv_aload_n hx hb dX6_cost_24 rfl (lv_at hl 0 rfl) ?_
  refine va_get (D := D) (ci := 5) (v := .ref a) (C := RX6) (T := TX6) (N := 7) hx hb hts hinX6 hown hM.1 hP 0 rfl rfl 1 (by decide) (hts (.fieldLink RX6 19 "TripleWays" "now" "LTripleWays$State;") (by decide +kernel)) (fun _ h9 => h9) rfl dX6_cost_25 ?_
  refine lv_iload_n hx hb dX6_cost_28 rfl (lv_at hl 1 rfl) ?_
  refine lv_iload_n hx hb dX6_cost_29 rfl (lv_at hl 2 rfl) ?_
  refine ro_V (C := RX4) (n := 2) ⟨hx, hb, hml, hown, hts⟩ hM hS hP (c_costBy l D tc zb a a1 a2 tr qs g x q hk hR (by omega) (by omega)) gX6_cost_X4_costBy rfl (by decide +kernel) ⟨Nat.le_of_ble_eq_true rfl, Nat.le_of_ble_eq_true rfl⟩ [1, 2, 3] rfl (va_recv hM.1 hP (ci := 3) (q0 := 1) rfl rfl) rfl hl.1 rfl (Nat.le_of_ble_eq_true rfl) dX6_cost_30 ⟨Nat.le_refl _, Nat.le_refl _⟩ ?_
  have hf1 := k_cb_le g x q
  exact ro_iret hx hb hr hlk dX6_cost_33 (rfl)
set_option maxHeartbeats 4000000 in
set_option maxRecDepth 100000 in
theorem c6_cost_okN (l : Launch) (D : va_G) (tc : Nat → ClassId) (zb : Nat) (x0 : Nat) (o : Nat → Value) (a a1 a2 : Nat) (tr qs : Nat → Int32) (g : Nat → Nat) (x : Nat) (hk : k_ok g) (hR : k_R tr qs g) (hx9 : x < 1331) : RO l yX6_cost wsX6_cost 4 93 D tc zb [(x0, .inr (5, [o 0, .ref a, o 2, o 3, o 4, o 5, o 6])), (a, .inr (3, [.ref a1, .int (nI (g 0)), .int (nI (g 41)), .int (nI (g 42)), .int (nI (g 43)), .int (nI (g 44)), .int (nI (g 45)), .ref a2, .int (nI (g 46)), .int (nI (g 59))])), (a1, .inl (tc 0, 40, .inl tr)), (a2, .inl (tc 0, 12, .inl qs))] [.ref x0, .int (nI x), .int (-1)] (.int (nI (k_mn g x (g 41) 6))) := by
  refine RO.of (cc := cX6_cost) (maxL := 3) (ret := (some .int)) (by decide) rfl (Nat.le_of_ble_eq_true rfl) ?_
  intro p e s m args below meth c hx hb hr hml hlk hts hown hM hS hP ls hl
  have hl : lv_has ls 3 [(0, .ref x0), (1, .int (nI x)), (2, .int (-1))] := hl
  have hinX6 : ∀ w ∈ u_ws RX6 TX6 7, w ∈ wsX6_cost := by decide +kernel
  obtain ⟨ok0, ok1, ok2, ok3, ok4, ok5, ok6⟩ := id hk
  refine lv_iload_n hx hb dX6_cost_0 rfl (lv_at hl 1 rfl) ?_
  refine rov_S (n := 1) ⟨hx, hb, hml, hown, hts⟩ hM hS hP (c6_needQuestion l D tc zb x (by omega)) gX6_cost_X6_needQuestion rfl (by decide +kernel) ⟨Nat.le_of_ble_eq_true rfl, Nat.le_of_ble_eq_true rfl⟩ [] rfl rfl hl.1 rfl (Nat.le_of_ble_eq_true rfl) dX6_cost_1 ⟨Nat.le_refl _, Nat.le_refl _⟩ ?_
  refine lv_iload_n hx hb dX6_cost_4 rfl (lv_at hl 2 rfl) ?_
  refine rov_S (n := 1) ⟨hx, hb, hml, hown, hts⟩ hM hS hP (c6_needOrderOrNone_n l D tc zb ) gX6_cost_X6_needOrderOrNone rfl (by decide +kernel) ⟨Nat.le_of_ble_eq_true rfl, Nat.le_of_ble_eq_true rfl⟩ [] rfl rfl hl.1 rfl (Nat.le_of_ble_eq_true rfl) dX6_cost_5 ⟨Nat.le_refl _, Nat.le_refl _⟩ ?_
  refine lv_iload_n hx hb dX6_cost_8 rfl (lv_at hl 2 rfl) ?_
  refine lv_iconst (v := (-1)) hx hb dX6_cost_9 (by decide) ?_
  refine lv_icmp_ne (tgt := 24) hx hb dX6_cost_10 (by decide) (fun h9 => False.elim (by revert h9; decide)) (fun _ => ?_)
  refine lv_aload_n hx hb dX6_cost_13 rfl (lv_at hl 0 rfl) ?_
  refine va_get (D := D) (ci := 5) (v := .ref a) (C := RX6) (T := TX6) (N := 7) hx hb hts hinX6 hown hM.1 hP 0 rfl rfl 1 (by decide) (hts (.fieldLink RX6 19 "TripleWays" "now" "LTripleWays$State;") (by decide +kernel)) (fun _ h9 => h9) rfl dX6_cost_14 ?_
  refine lv_iload_n hx hb dX6_cost_17 rfl (lv_at hl 1 rfl) ?_
  refine ro_V (C := RX4) (n := 1) ⟨hx, hb, hml, hown, hts⟩ hM hS hP (c_costNow l D tc zb a a1 a2 tr qs g x hk hR (by omega)) gX6_cost_X4_costNow rfl (by decide +kernel) ⟨Nat.le_of_ble_eq_true rfl, Nat.le_of_ble_eq_true rfl⟩ [1, 2, 3] rfl (va_recv hM.1 hP (ci := 3) (q0 := 1) rfl rfl) rfl hl.1 rfl (Nat.le_of_ble_eq_true rfl) dX6_cost_18 ⟨Nat.le_refl _, Nat.le_refl _⟩ ?_
  have hf1 := k_mn_le g x (g 41) 6
  refine lv_goto (tgt := 33) hx hb dX6_cost_21 (by decide) ?_
  exact ro_iret hx hb hr hlk dX6_cost_33 (rfl)


set_option maxHeartbeats 4000000 in
set_option maxRecDepth 100000 in
theorem c6_by_ok (l : Launch) (D : va_G) (tc : Nat → ClassId) (zb : Nat) (x0 : Nat) (o : Nat → Value) (a a1 a2 : Nat) (tr qs : Nat → Int32) (g : Nat → Nat) (x : Nat) (hk : k_ok g) (hR : k_R tr qs g) (hx9 : x < 1331) : RO l yX6_by wsX6_by 4 95 D tc zb [(x0, .inr (5, [o 0, .ref a, o 2, o 3, o 4, o 5, o 6])), (a, .inr (3, [.ref a1, .int (nI (g 0)), .int (nI (g 41)), .int (nI (g 42)), .int (nI (g 43)), .int (nI (g 44)), .int (nI (g 45)), .ref a2, .int (nI (g 46)), .int (nI (g 59))])), (a1, .inl (tc 0, 40, .inl tr)), (a2, .inl (tc 0, 12, .inl qs))] [.ref x0, .int (nI x)] (.int (oI (k_or g x (g 41) 6))) := by
  refine RO.of (cc := cX6_by) (maxL := 2) (ret := (some .int)) (by decide) rfl (Nat.le_of_ble_eq_true rfl) ?_
  intro p e s m args below meth c hx hb hr hml hlk hts hown hM hS hP ls hl
  have hl : lv_has ls 2 [(0, .ref x0), (1, .int (nI x))] := hl
  have hinX6 : ∀ w ∈ u_ws RX6 TX6 7, w ∈ wsX6_by := by decide +kernel
  obtain ⟨ok0, ok1, ok2, ok3, ok4, ok5, ok6⟩ := id hk
  refine lv_iload_n hx hb dX6_by_0 rfl (lv_at hl 1 rfl) ?_
  refine rov_S (n := 1) ⟨hx, hb, hml, hown, hts⟩ hM hS hP (c6_needQuestion l D tc zb x (by omega)) gX6_by_X6_needQuestion rfl (by decide +kernel) ⟨Nat.le_of_ble_eq_true rfl, Nat.le_of_ble_eq_true rfl⟩ [] rfl rfl hl.1 rfl (Nat.le_of_ble_eq_true rfl) dX6_by_1 ⟨Nat.le_refl _, Nat.le_refl _⟩ ?_
  refine lv_aload_n hx hb dX6_by_4 rfl (lv_at hl 0 rfl) ?_
  refine va_get (D := D) (ci := 5) (v := .ref a) (C := RX6) (T := TX6) (N := 7) hx hb hts hinX6 hown hM.1 hP 0 rfl rfl 1 (by decide) (hts (.fieldLink RX6 19 "TripleWays" "now" "LTripleWays$State;") (by decide +kernel)) (fun _ h9 => h9) rfl dX6_by_5 ?_
  refine lv_iload_n hx hb dX6_by_8 rfl (lv_at hl 1 rfl) ?_
  refine ro_V (C := RX4) (n := 1) ⟨hx, hb, hml, hown, hts⟩ hM hS hP (c_answeringOrder l D tc zb a a1 a2 tr qs g x hk hR (by omega)) gX6_by_X4_answeringOrder rfl (by decide +kernel) ⟨Nat.le_of_ble_eq_true rfl, Nat.le_of_ble_eq_true rfl⟩ [1, 2, 3] rfl (va_recv hM.1 hP (ci := 3) (q0 := 1) rfl rfl) rfl hl.1 rfl (Nat.le_of_ble_eq_true rfl) dX6_by_9 ⟨Nat.le_refl _, Nat.le_refl _⟩ ?_
  exact ro_iret hx hb hr hlk dX6_by_12 (rfl)

set_option maxHeartbeats 4000000 in
set_option maxRecDepth 100000 in
theorem c6_reach_ok (l : Launch) (D : va_G) (tc : Nat → ClassId) (zb : Nat) (x0 : Nat) (o : Nat → Value) (a a1 a2 : Nat) (tr qs : Nat → Int32) (g : Nat → Nat) (x q : Nat) (hk : k_ok g) (hR : k_R tr qs g) (hx9 : x < 1331) (hq : q < 6) : RO l yX6_reach wsX6_reach 2 44 D tc zb [(x0, .inr (5, [o 0, .ref a, o 2, o 3, o 4, o 5, o 6])), (a, .inr (3, [.ref a1, .int (nI (g 0)), .int (nI (g 41)), .int (nI (g 42)), .int (nI (g 43)), .int (nI (g 44)), .int (nI (g 45)), .ref a2, .int (nI (g 46)), .int (nI (g 59))])), (a1, .inl (tc 0, 40, .inl tr)), (a2, .inl (tc 0, 12, .inl qs))] [.ref x0, .int (nI x), .int (nI q)] (.int (nI (k_rch x q))) := by
  refine RO.of (cc := cX6_reach) (maxL := 3) (ret := (some .int)) (by decide) rfl (Nat.le_of_ble_eq_true rfl) ?_
  intro p e s m args below meth c hx hb hr hml hlk hts hown hM hS hP ls hl
  have hl : lv_has ls 3 [(0, .ref x0), (1, .int (nI x)), (2, .int (nI q))] := hl
  obtain ⟨ok0, ok1, ok2, ok3, ok4, ok5, ok6⟩ := id hk
  refine lv_iload_n hx hb dX6_reach_0 rfl (lv_at hl 1 rfl) ?_
  refine rov_S (n := 1) ⟨hx, hb, hml, hown, hts⟩ hM hS hP (c6_needQuestion l D tc zb x (by omega)) gX6_reach_X6_needQuestion rfl (by decide +kernel) ⟨Nat.le_of_ble_eq_true rfl, Nat.le_of_ble_eq_true rfl⟩ [] rfl rfl hl.1 rfl (Nat.le_of_ble_eq_true rfl) dX6_reach_1 ⟨Nat.le_refl _, Nat.le_refl _⟩ ?_
  refine lv_iload_n hx hb dX6_reach_4 rfl (lv_at hl 2 rfl) ?_
  refine rov_S (n := 1) ⟨hx, hb, hml, hown, hts⟩ hM hS hP (c6_needOrder l D tc zb q (by omega)) gX6_reach_X6_needOrder rfl (by decide +kernel) ⟨Nat.le_of_ble_eq_true rfl, Nat.le_of_ble_eq_true rfl⟩ [] rfl rfl hl.1 rfl (Nat.le_of_ble_eq_true rfl) dX6_reach_5 ⟨Nat.le_refl _, Nat.le_refl _⟩ ?_
  refine lv_iload_n hx hb dX6_reach_8 rfl (lv_at hl 1 rfl) ?_
  refine lv_iload_n hx hb dX6_reach_9 rfl (lv_at hl 2 rfl) ?_
  refine ro_S (n := 2) ⟨hx, hb, hml, hown, hts⟩ hM hS hP (c_reachOf l D tc zb x q (by omega) (by omega)) gX6_reach_X2_reachOf rfl (by decide +kernel) ⟨Nat.le_of_ble_eq_true rfl, Nat.le_of_ble_eq_true rfl⟩ [] rfl rfl hl.1 rfl (Nat.le_of_ble_eq_true rfl) dX6_reach_10 ⟨Nat.le_refl _, Nat.le_refl _⟩ ?_
  have hf1 := k_rch_le x q
  exact ro_iret hx hb hr hlk dX6_reach_13 (rfl)


set_option maxHeartbeats 4000000 in
set_option maxRecDepth 100000 in
theorem c6_answer_ok (l : Launch) (D : va_G) (tc : Nat → ClassId) (zb : Nat) (x0 : Nat) (o : Nat → Value) (a a1 a2 : Nat) (tr qs : Nat → Int32) (g : Nat → Nat) (x pl : Nat) (hk : k_ok g) (hR : k_R tr qs g) (hx9 : x < 1331) (hpl : pl < 2 ^ 31) : RO l yX6_answer wsX6_answer 5 117 D tc zb [(x0, .inr (5, [o 0, .ref a, o 2, o 3, o 4, o 5, o 6])), (a, .inr (3, [.ref a1, .int (nI (g 0)), .int (nI (g 41)), .int (nI (g 42)), .int (nI (g 43)), .int (nI (g 44)), .int (nI (g 45)), .ref a2, .int (nI (g 46)), .int (nI (g 59))])), (a1, .inl (tc 0, 40, .inl tr)), (a2, .inl (tc 0, 12, .inl qs))] [.ref x0, .int (nI x), .int (nI pl)] (.int (oI (k_aa g x (k_or g x (g 41) 6) pl (g 0)))) := by
  refine RO.of (cc := cX6_answer) (maxL := 3) (ret := (some .int)) (by decide) rfl (Nat.le_of_ble_eq_true rfl) ?_
  intro p e s m args below meth c hx hb hr hml hlk hts hown hM hS hP ls hl
  have hl : lv_has ls 3 [(0, .ref x0), (1, .int (nI x)), (2, .int (nI pl))] := hl
  have hinX6 : ∀ w ∈ u_ws RX6 TX6 7, w ∈ wsX6_answer := by decide +kernel
  obtain ⟨ok0, ok1, ok2, ok3, ok4, ok5, ok6⟩ := id hk
  refine lv_iload_n hx hb dX6_answer_0 rfl (lv_at hl 1 rfl) ?_
  refine rov_S (n := 1) ⟨hx, hb, hml, hown, hts⟩ hM hS hP (c6_needQuestion l D tc zb x (by omega)) gX6_answer_X6_needQuestion rfl (by decide +kernel) ⟨Nat.le_of_ble_eq_true rfl, Nat.le_of_ble_eq_true rfl⟩ [] rfl rfl hl.1 rfl (Nat.le_of_ble_eq_true rfl) dX6_answer_1 ⟨Nat.le_refl _, Nat.le_refl _⟩ ?_
  refine lv_iload_n hx hb dX6_answer_4 rfl (lv_at hl 2 rfl) ?_
  refine rov_S (n := 1) ⟨hx, hb, hml, hown, hts⟩ hM hS hP (c6_needPlace l D tc zb pl (by omega)) gX6_answer_X6_needPlace rfl (by decide +kernel) ⟨Nat.le_of_ble_eq_true rfl, Nat.le_of_ble_eq_true rfl⟩ [] rfl rfl hl.1 rfl (Nat.le_of_ble_eq_true rfl) dX6_answer_5 ⟨Nat.le_refl _, Nat.le_refl _⟩ ?_
  refine lv_aload_n hx hb dX6_answer_8 rfl (lv_at hl 0 rfl) ?_
  refine va_get (D := D) (ci := 5) (v := .ref a) (C := RX6) (T := TX6) (N := 7) hx hb hts hinX6 hown hM.1 hP 0 rfl rfl 1 (by decide) (hts (.fieldLink RX6 19 "TripleWays" "now" "LTripleWays$State;") (by decide +kernel)) (fun _ h9 => h9) rfl dX6_answer_9 ?_
  refine lv_iload_n hx hb dX6_answer_12 rfl (lv_at hl 1 rfl) ?_
  refine lv_aload_n hx hb dX6_answer_13 rfl (lv_at hl 0 rfl) ?_
  refine va_get (D := D) (ci := 5) (v := .ref a) (C := RX6) (T := TX6) (N := 7) hx hb hts hinX6 hown hM.1 hP 0 rfl rfl 1 (by decide) (hts (.fieldLink RX6 19 "TripleWays" "now" "LTripleWays$State;") (by decide +kernel)) (fun _ h9 => h9) rfl dX6_answer_14 ?_
  refine lv_iload_n hx hb dX6_answer_17 rfl (lv_at hl 1 rfl) ?_
  refine ro_V (C := RX4) (n := 1) ⟨hx, hb, hml, hown, hts⟩ hM hS hP (c_answeringOrder l D tc zb a a1 a2 tr qs g x hk hR (by omega)) gX6_answer_X4_answeringOrder rfl (by decide +kernel) ⟨Nat.le_of_ble_eq_true rfl, Nat.le_of_ble_eq_true rfl⟩ [1, 2, 3] rfl (va_recv hM.1 hP (ci := 3) (q0 := 1) rfl rfl) rfl hl.1 rfl (Nat.le_of_ble_eq_true rfl) dX6_answer_18 ⟨Nat.le_refl _, Nat.le_refl _⟩ ?_
  cases ho18 : k_or g x (g 41) 6 with
  | none =>
    refine ln_eq (x' := -1) rfl ?_
    refine lv_iload_n hx hb dX6_answer_21 rfl (lv_at hl 2 rfl) ?_
    refine ro_V (C := RX4) (n := 3) ⟨hx, hb, hml, hown, hts⟩ hM hS hP (c_answerAtN l D tc zb a a1 a2 tr qs g x pl hk hR (by omega) (by omega)) gX6_answer_X4_answerAt rfl (by decide +kernel) ⟨Nat.le_of_ble_eq_true rfl, Nat.le_of_ble_eq_true rfl⟩ [1, 2, 3] rfl (va_recv hM.1 hP (ci := 3) (q0 := 1) rfl rfl) rfl hl.1 rfl (Nat.le_of_ble_eq_true rfl) dX6_answer_22 ⟨Nat.le_refl _, Nat.le_refl _⟩ ?_
    exact ro_iret hx hb hr hlk dX6_answer_25 (congrArg oI (by rfl))
  | some r18 =>
    refine ln_eq (x' := nI r18) rfl ?_
    have hr9 := (k_or_lt ho18).1
    refine lv_iload_n hx hb dX6_answer_21 rfl (lv_at hl 2 rfl) ?_
    refine ro_V (C := RX4) (n := 3) ⟨hx, hb, hml, hown, hts⟩ hM hS hP (c_answerAt l D tc zb a a1 a2 tr qs g x r18 pl hk hR (by omega) (by omega) (by omega)) gX6_answer_X4_answerAt rfl (by decide +kernel) ⟨Nat.le_of_ble_eq_true rfl, Nat.le_of_ble_eq_true rfl⟩ [1, 2, 3] rfl (va_recv hM.1 hP (ci := 3) (q0 := 1) rfl rfl) rfl hl.1 rfl (Nat.le_of_ble_eq_true rfl) dX6_answer_22 ⟨Nat.le_refl _, Nat.le_refl _⟩ ?_
    exact ro_iret hx hb hr hlk dX6_answer_25 (congrArg oI (by rfl))















