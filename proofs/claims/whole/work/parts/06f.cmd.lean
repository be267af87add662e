theorem k_rv_le (g : Nat → Nat) (t : Nat) : k_rv g t ≤ 1 := by unfold k_rv; split <;> omega
set_option maxHeartbeats 4000000 in
set_option maxRecDepth 100000 in
theorem c6_succeeds (l : Launch) (D : va_G) (tc : Nat → ClassId) (zb : Nat) (x0 : Nat) (o : Nat → Value) (d0 d1 d2 : Nat) (fc hc : Nat → Int32) (v1 v2 v3 v4 : Int32) (a a1 a2 : Nat) (tr qs : Nat → Int32) (g : Nat → Nat) (grp : Nat) (hk : k_ok g) (hR : k_R tr qs g) (hg9 : grp < 100000) : IP l yX6_succeeds wsX6_succeeds 5 119 D tc zb [(x0, .inr (5, [o 0, o 1, o 2, o 3, .ref d0, o 5, o 6])), (d0, .inr (0, [.ref d1, .ref d2, .int (v1), .int (v2), .int (v3), .int (v4)])), (d1, .inl (tc 0, 72, .inl fc)), (d2, .inl (tc 0, 12, .inl hc)), (a, .inr (3, [.ref a1, .int (nI (g 0)), .int (nI (g 41)), .int (nI (g 42)), .int (nI (g 43)), .int (nI (g 44)), .int (nI (g 45)), .ref a2, .int (nI (g 46)), .int (nI (g 59))])), (a1, .inl (tc 0, 40, .inl tr)), (a2, .inl (tc 0, 12, .inl qs))] [(x0, .inr (5, [o 0, o 1, o 2, o 3, .ref d0, o 5, o 6])), (d0, .inr (0, [.ref d1, .ref d2, .int (t_v v1 (g 46) (decide (grp / 10000 = 6 ∧ grp % 10000 = 0))), .int (t_v v2 (g 0) (decide (grp / 10000 = 6 ∧ grp % 10000 = 0))), .int (t_v v3 (g 41) (decide (grp / 10000 = 6 ∧ grp % 10000 = 0))), .int (t_v v4 (k_due g) (decide (grp / 10000 = 6 ∧ grp % 10000 = 0)))])), (d1, .inl (tc 0, 72, .inl ((t_f fc g (decide (grp / 10000 = 6 ∧ grp % 10000 = 0)))))), (d2, .inl (tc 0, 12, .inl ((t_h hc g (decide (grp / 10000 = 6 ∧ grp % 10000 = 0)))))), (a, .inr (3, [.ref a1, .int (nI ((m_sg g grp) 0)), .int (nI ((m_sg g grp) 41)), .int (nI ((m_sg g grp) 42)), .int (nI ((m_sg g grp) 43)), .int (nI ((m_sg g grp) 44)), .int (nI ((m_sg g grp) 45)), .ref a2, .int (nI ((m_sg g grp) 46)), .int (nI ((m_sg g grp) 59))])), (a1, .inl (tc 0, 40, .inl ((k_sgt tr g grp)))), (a2, .inl (tc 0, 12, .inl ((k_sgq qs g grp))))] [.ref x0, .ref a, .int (nI grp)] (some (.int (bI (k_sg g grp)))) := by
  refine IP.of (cc := cX6_succeeds) (maxL := 4) (ret := (some .boolean)) (by decide) rfl (Nat.le_of_ble_eq_true rfl) ?_
  intro p e s m args below meth c A hx hb hr hml hlk hts hown hM hS hP hD ls hl
  have hl : lv_has ls 4 [(0, .ref x0), (1, .ref a), (2, .int (nI grp))] := hl
  have hinX4 : ∀ w ∈ u_ws RX4 TX4 10, w ∈ wsX6_succeeds := by decide +kernel
  have hinX6 : ∀ w ∈ u_ws RX6 TX6 7, w ∈ wsX6_succeeds := by decide +kernel
  obtain ⟨ok0, ok1, ok2, ok3, ok4, ok5, ok6⟩ := id hk
  obtain ⟨cc9, hcc⟩ : ∃ cc9, cc9 = grp / 10000 := ⟨_, rfl⟩
  obtain ⟨fi, hfi⟩ : ∃ fi, fi = grp / 1000 % 10 := ⟨_, rfl⟩
  obtain ⟨re, hre⟩ : ∃ re, re = grp % 1000 := ⟨_, rfl⟩
  obtain ⟨fo, hfo⟩ : ∃ fo, fo = grp % 10000 := ⟨_, rfl⟩
  have hf4 : fo = 1000 * fi + re := by omega
  have hb1 : fi < 10 := by omega
  have hb2 : re < 1000 := by omega
  have hrv9 := k_rv_le g re
  have hcl9 := k_cnt_le g fo
  refine lv_iload_n hx hb dX6_succeeds_0 rfl (lv_at hl 2 rfl) ?_
  refine lv_sipush (v := (nI 10000)) hx hb dX6_succeeds_1 (by decide) ?_
  refine ln_irem hx hb dX6_succeeds_4 (by omega) (by decide) (by decide) ?_
  refine ln_eq (x' := (nI fo)) (congrArg nI hfo.symm) ?_
  refine lv_istore_n (lv' := [(3, .int (nI fo)), (0, .ref x0), (1, .ref a), (2, .int (nI grp))]) hx hb dX6_succeeds_5 rfl hl (by decide) rfl (fun ls hl => ?_)
  refine lv_iload_n hx hb dX6_succeeds_6 rfl (lv_at hl 3 rfl) ?_
  refine lv_sipush (v := (nI 10000)) hx hb dX6_succeeds_7 (by decide) ?_
  refine ln_idiv hx hb dX6_succeeds_10 (by omega) (by decide) (by decide) ?_
  refine ln_eq (x' := (nI cc9)) (congrArg nI hcc.symm) ?_
  rcases (show cc9 = 0 ∨ cc9 = 1 ∨ cc9 = 2 ∨ cc9 = 3 ∨ cc9 = 4 ∨ cc9 = 5 ∨ cc9 = 6 ∨ cc9 = 7 ∨ cc9 = 8 ∨ cc9 = 9 by omega) with hsw | hsw | hsw | hsw | hsw | hsw | hsw | hsw | hsw | hsw
  · refine ln_eq (x' := nI 0) (congrArg nI hsw) ?_
    refine lv_tableOut (tgt := 210) hx hb dX6_succeeds_11 (by decide) (by decide) ?_
    refine lv_iconst (v := (nI 0)) hx hb dX6_succeeds_210 (by decide) ?_
    exact ip_zret hx hb hr hlk dX6_succeeds_211 hS (show bI false = _ from congrArg bI (by unfold k_sg; rw [← hcc, ← hfi, ← hre, hsw]; rfl)) (by (have e9 : decide (grp / 10000 = 6 ∧ grp % 10000 = 0) = false := decide_eq_false (by omega)); simp only [t_f, t_h, t_v, e9, Bool.false_eq_true, if_false]; unfold m_sg k_sgt k_sgq; rw [← hcc, ← hfi, ← hre, hsw]; exact hP)
  · refine ln_eq (x' := nI 1) (congrArg nI hsw) ?_
    refine lv_tableIn (off := 49) (tgt := 60) hx hb dX6_succeeds_11 (by decide) (by decide) (by decide) (by decide) ?_
    refine lv_aload_n hx hb dX6_succeeds_60 rfl (lv_at hl 2 rfl) ?_
    refine lv_iload_n hx hb dX6_succeeds_61 rfl (lv_at hl 0 rfl) ?_
    refine ip_S (n := 2) (wl' := [(x0, .inr (5, [o 0, o 1, o 2, o 3, .ref d0, o 5, o 6])), (d0, .inr (0, [.ref d1, .ref d2, .int (v1), .int (v2), .int (v3), .int (v4)])), (d1, .inl (tc 0, 72, .inl fc)), (d2, .inl (tc 0, 12, .inl hc)), (a, .inr (3, [.ref a1, .int (nI ((m_sc g 1 fi re) 0)), .int (nI ((m_sc g 1 fi re) 41)), .int (nI ((m_sc g 1 fi re) 42)), .int (nI ((m_sc g 1 fi re) 43)), .int (nI ((m_sc g 1 fi re) 44)), .int (nI ((m_sc g 1 fi re) 45)), .ref a2, .int (nI ((m_sc g 1 fi re) 46)), .int (nI ((m_sc g 1 fi re) 59))])), (a1, .inl (tc 0, 40, .inl ((k_sct tr g 1 fi re)))), (a2, .inl (tc 0, 12, .inl ((k_scq qs g 1 fi re))))]) ⟨hx, hb, hml, hown, hts⟩ hM hS hP hD (c6_toPut l D tc zb a a1 a2 tr qs g fo fi re hk hR (by omega) (by omega) (by omega)) gX6_succeeds_X6_succeedsToPut rfl (by decide +kernel) ⟨Nat.le_of_ble_eq_true rfl, Nat.le_of_ble_eq_true rfl⟩ [4, 5, 6] rfl rfl [(false, 0), (false, 1), (false, 2), (false, 3), (true, 0), (true, 1), (true, 2)] rfl rfl rfl rfl hl.1 rfl (Nat.le_of_ble_eq_true rfl) dX6_succeeds_62 ⟨Nat.le_refl _, Nat.le_refl _⟩ (fun H locs hP hD hS => ?_)
    refine W.eq (g2 := F0 m 65 ls [.int (bI (k_sc g 1 fi re))]) rfl ?_
    exact ip_zret hx hb hr hlk dX6_succeeds_65 hS (congrArg bI (by unfold k_sg; rw [← hcc, ← hfi, ← hre, hsw])) (by (have e9 : decide (grp / 10000 = 6 ∧ grp % 10000 = 0) = false := decide_eq_false (by omega)); simp only [t_f, t_h, t_v, e9, Bool.false_eq_true, if_false]; unfold m_sg k_sgt k_sgq; rw [← hcc, ← hfi, ← hre, hsw]; exact hP)
  · refine ln_eq (x' := nI 2) (congrArg nI hsw) ?_
    refine lv_tableIn (off := 55) (tgt := 66) hx hb dX6_succeeds_11 (by decide) (by decide) (by decide) (by decide) ?_
    refine lv_iload_n hx hb dX6_succeeds_66 rfl (lv_at hl 0 rfl) ?_
    refine lv_sipush (v := (nI 999)) hx hb dX6_succeeds_67 (by decide) ?_
    refine ln_icmp_gt (tgt := 86) hx hb dX6_succeeds_70 (by decide) (by omega) (by decide) (fun h1 => ?_) (fun h1 => ?_)
    · refine lv_iconst (v := (nI 0)) hx hb dX6_succeeds_86 (by decide) ?_
      exact ip_zret hx hb hr hlk dX6_succeeds_87 hS (show bI false = _ from congrArg bI (by unfold k_sg; rw [← hcc, ← hfi, ← hre, hsw]; exact (decide_eq_false (fun h9 => by omega)).symm)) (by (have e9 : decide (grp / 10000 = 6 ∧ grp % 10000 = 0) = false := decide_eq_false (by omega)); simp only [t_f, t_h, t_v, e9, Bool.false_eq_true, if_false]; unfold m_sg k_sgt k_sgq; rw [← hcc, ← hfi, ← hre, hsw]; rw [show m_sc g 2 fi re = g from if_neg (by omega), show k_sct tr g 2 fi re = tr from if_neg (by omega)]; exact hP)
    · refine lv_aload_n hx hb dX6_succeeds_73 rfl (lv_at hl 2 rfl) ?_
      refine lv_iload_n hx hb dX6_succeeds_74 rfl (lv_at hl 0 rfl) ?_
      refine ln_eq (x' := (nI re)) (congrArg nI (show fo = re by omega)) ?_
      refine ip_V (C := RX4) (n := 1) (wl' := [(x0, .inr (5, [o 0, o 1, o 2, o 3, .ref d0, o 5, o 6])), (d0, .inr (0, [.ref d1, .ref d2, .int (v1), .int (v2), .int (v3), .int (v4)])), (d1, .inl (tc 0, 72, .inl fc)), (d2, .inl (tc 0, 12, .inl hc)), (a, .inr (3, [.ref a1, .int (nI ((m_rem g re) 0)), .int (nI ((m_rem g re) 41)), .int (nI ((m_rem g re) 42)), .int (nI ((m_rem g re) 43)), .int (nI ((m_rem g re) 44)), .int (nI ((m_rem g re) 45)), .ref a2, .int (nI ((m_rem g re) 46)), .int (nI ((m_rem g re) 59))])), (a1, .inl (tc 0, 40, .inl ((k_rtr tr g re)))), (a2, .inl (tc 0, 12, .inl qs))]) ⟨hx, hb, hml, hown, hts⟩ hM hS hP hD (c_take l D tc zb a a1 a2 tr qs g re hk hR (by omega)) gX6_succeeds_X4_take rfl (by decide +kernel) ⟨Nat.le_of_ble_eq_true rfl, Nat.le_of_ble_eq_true rfl⟩ [4, 5, 6] rfl rfl [(false, 0), (false, 1), (false, 2), (false, 3), (true, 0), (true, 1), (true, 2)] rfl rfl rfl (va_recv hM.1 hP (ci := 3) (q0 := 4) rfl rfl) rfl hl.1 rfl (Nat.le_of_ble_eq_true rfl) dX6_succeeds_75 ⟨Nat.le_refl _, Nat.le_refl _⟩ (fun H locs hP hD hS => ?_)
      refine W.eq (g2 := F0 m 78 ls [.int (nI (k_rv g re))]) rfl ?_
      refine lv_iconst (v := (-1)) hx hb dX6_succeeds_78 (by decide) ?_
      refine ln_eq_m1 (tgt := 86) hx hb dX6_succeeds_79 (by decide) (by omega) ?_
      refine lv_iconst (v := (nI 1)) hx hb dX6_succeeds_82 (by decide) ?_
      refine lv_goto (tgt := 87) hx hb dX6_succeeds_83 (by decide) ?_
      exact ip_zret hx hb hr hlk dX6_succeeds_87 hS (show bI true = _ from congrArg bI (by unfold k_sg; rw [← hcc, ← hfi, ← hre, hsw]; exact (decide_eq_true (by omega)).symm)) (by (have e9 : decide (grp / 10000 = 6 ∧ grp % 10000 = 0) = false := decide_eq_false (by omega)); simp only [t_f, t_h, t_v, e9, Bool.false_eq_true, if_false]; unfold m_sg k_sgt k_sgq; rw [← hcc, ← hfi, ← hre, hsw]; rw [show m_sc g 2 fi re = m_rem g re from if_pos (by omega), show k_sct tr g 2 fi re = k_rtr tr g re from if_pos (by omega)]; exact hP)
  · refine ln_eq (x' := nI 3) (congrArg nI hsw) ?_
    refine lv_tableIn (off := 77) (tgt := 88) hx hb dX6_succeeds_11 (by decide) (by decide) (by decide) (by decide) ?_
    refine lv_iload_n hx hb dX6_succeeds_88 rfl (lv_at hl 0 rfl) ?_
    refine lv_sipush (v := (nI 1330)) hx hb dX6_succeeds_89 (by decide) ?_
    refine ln_icmp_gt (tgt := 108) hx hb dX6_succeeds_92 (by decide) (by omega) (by decide) (fun h2 => ?_) (fun h2 => ?_)
    · refine lv_iconst (v := (nI 0)) hx hb dX6_succeeds_108 (by decide) ?_
      exact ip_zret hx hb hr hlk dX6_succeeds_109 hS (show bI false = _ from congrArg bI (by unfold k_sg; rw [← hcc, ← hfi, ← hre, hsw]; exact (decide_eq_false (fun h9 => by omega)).symm)) (by (have e9 : decide (grp / 10000 = 6 ∧ grp % 10000 = 0) = false := decide_eq_false (by omega)); simp only [t_f, t_h, t_v, e9, Bool.false_eq_true, if_false]; unfold m_sg k_sgt k_sgq; rw [← hcc, ← hfi, ← hre, hsw]; rw [show m_sc g 3 fi re = g from if_neg (by omega), show k_scq qs g 3 fi re = qs from if_neg (by omega)]; exact hP)
    · refine lv_aload_n hx hb dX6_succeeds_95 rfl (lv_at hl 2 rfl) ?_
      refine lv_iload_n hx hb dX6_succeeds_96 rfl (lv_at hl 0 rfl) ?_
      refine ip_V (C := RX4) (n := 1) (wl' := [(x0, .inr (5, [o 0, o 1, o 2, o 3, .ref d0, o 5, o 6])), (d0, .inr (0, [.ref d1, .ref d2, .int (v1), .int (v2), .int (v3), .int (v4)])), (d1, .inl (tc 0, 72, .inl fc)), (d2, .inl (tc 0, 12, .inl hc)), (a, .inr (3, [.ref a1, .int (nI ((m_ask g fo) 0)), .int (nI ((m_ask g fo) 41)), .int (nI ((m_ask g fo) 42)), .int (nI ((m_ask g fo) 43)), .int (nI ((m_ask g fo) 44)), .int (nI ((m_ask g fo) 45)), .ref a2, .int (nI ((m_ask g fo) 46)), .int (nI ((m_ask g fo) 59))])), (a1, .inl (tc 0, 40, .inl tr)), (a2, .inl (tc 0, 12, .inl ((k_aqs qs g fo))))]) ⟨hx, hb, hml, hown, hts⟩ hM hS hP hD (c_noteQuestion l D tc zb a a1 a2 tr qs g fo hk hR (by omega)) gX6_succeeds_X4_noteQuestion rfl (by decide +kernel) ⟨Nat.le_of_ble_eq_true rfl, Nat.le_of_ble_eq_true rfl⟩ [4, 5, 6] rfl rfl [(false, 0), (false, 1), (false, 2), (false, 3), (true, 0), (true, 1), (true, 2)] rfl rfl rfl (va_recv hM.1 hP (ci := 3) (q0 := 4) rfl rfl) rfl hl.1 rfl (Nat.le_of_ble_eq_true rfl) dX6_succeeds_97 ⟨Nat.le_refl _, Nat.le_refl _⟩ (fun H locs hP hD hS => ?_)
      refine W.eq (g2 := F0 m 100 ls [.int (nI (k_cnt g fo))]) rfl ?_
      refine lv_iconst (v := (-1)) hx hb dX6_succeeds_100 (by decide) ?_
      refine ln_eq_m1 (tgt := 108) hx hb dX6_succeeds_101 (by decide) (by omega) ?_
      refine lv_iconst (v := (nI 1)) hx hb dX6_succeeds_104 (by decide) ?_
      refine lv_goto (tgt := 109) hx hb dX6_succeeds_105 (by decide) ?_
      exact ip_zret hx hb hr hlk dX6_succeeds_109 hS (show bI true = _ from congrArg bI (by unfold k_sg; rw [← hcc, ← hfi, ← hre, hsw]; exact (decide_eq_true (by omega)).symm)) (by (have e9 : decide (grp / 10000 = 6 ∧ grp % 10000 = 0) = false := decide_eq_false (by omega)); simp only [t_f, t_h, t_v, e9, Bool.false_eq_true, if_false]; unfold m_sg k_sgt k_sgq; rw [← hcc, ← hfi, ← hre, hsw]; rw [show m_sc g 3 fi re = m_ask g (1000 * fi + re) from if_pos (by omega), show k_scq qs g 3 fi re = k_aqs qs g (1000 * fi + re) from if_pos (by omega), ← hf4]; exact hP)
  · refine ln_eq (x' := nI 4) (congrArg nI hsw) ?_
    refine lv_tableIn (off := 99) (tgt := 110) hx hb dX6_succeeds_11 (by decide) (by decide) (by decide) (by decide) ?_
    refine lv_aload_n hx hb dX6_succeeds_110 rfl (lv_at hl 2 rfl) ?_
    refine lv_iload_n hx hb dX6_succeeds_111 rfl (lv_at hl 0 rfl) ?_
    refine ip_S (n := 2) (wl' := [(x0, .inr (5, [o 0, o 1, o 2, o 3, .ref d0, o 5, o 6])), (d0, .inr (0, [.ref d1, .ref d2, .int (v1), .int (v2), .int (v3), .int (v4)])), (d1, .inl (tc 0, 72, .inl fc)), (d2, .inl (tc 0, 12, .inl hc)), (a, .inr (3, [.ref a1, .int (nI ((m_sc g 4 fi re) 0)), .int (nI ((m_sc g 4 fi re) 41)), .int (nI ((m_sc g 4 fi re) 42)), .int (nI ((m_sc g 4 fi re) 43)), .int (nI ((m_sc g 4 fi re) 44)), .int (nI ((m_sc g 4 fi re) 45)), .ref a2, .int (nI ((m_sc g 4 fi re) 46)), .int (nI ((m_sc g 4 fi re) 59))])), (a1, .inl (tc 0, 40, .inl ((k_sct tr g 4 fi re)))), (a2, .inl (tc 0, 12, .inl ((k_scq qs g 4 fi re))))]) ⟨hx, hb, hml, hown, hts⟩ hM hS hP hD (c6_toKeep l D tc zb a a1 a2 tr qs g fo fi re hk hR (by omega) (by omega) (by omega)) gX6_succeeds_X6_succeedsToKeep rfl (by decide +kernel) ⟨Nat.le_of_ble_eq_true rfl, Nat.le_of_ble_eq_true rfl⟩ [4, 5, 6] rfl rfl [(false, 0), (false, 1), (false, 2), (false, 3), (true, 0), (true, 1), (true, 2)] rfl rfl rfl rfl hl.1 rfl (Nat.le_of_ble_eq_true rfl) dX6_succeeds_112 ⟨Nat.le_refl _, Nat.le_refl _⟩ (fun H locs hP hD hS => ?_)
    refine W.eq (g2 := F0 m 115 ls [.int (bI (k_sc g 4 fi re))]) rfl ?_
    exact ip_zret hx hb hr hlk dX6_succeeds_115 hS (congrArg bI (by unfold k_sg; rw [← hcc, ← hfi, ← hre, hsw])) (by (have e9 : decide (grp / 10000 = 6 ∧ grp % 10000 = 0) = false := decide_eq_false (by omega)); simp only [t_f, t_h, t_v, e9, Bool.false_eq_true, if_false]; unfold m_sg k_sgt k_sgq; rw [← hcc, ← hfi, ← hre, hsw]; exact hP)
  · refine ln_eq (x' := nI 5) (congrArg nI hsw) ?_
    refine lv_tableIn (off := 105) (tgt := 116) hx hb dX6_succeeds_11 (by decide) (by decide) (by decide) (by decide) ?_
    refine lv_aload_n hx hb dX6_succeeds_116 rfl (lv_at hl 2 rfl) ?_
    refine lv_iload_n hx hb dX6_succeeds_117 rfl (lv_at hl 0 rfl) ?_
    refine ip_S (n := 2) (wl' := [(x0, .inr (5, [o 0, o 1, o 2, o 3, .ref d0, o 5, o 6])), (d0, .inr (0, [.ref d1, .ref d2, .int (v1), .int (v2), .int (v3), .int (v4)])), (d1, .inl (tc 0, 72, .inl fc)), (d2, .inl (tc 0, 12, .inl hc)), (a, .inr (3, [.ref a1, .int (nI ((m_sc g 5 fi re) 0)), .int (nI ((m_sc g 5 fi re) 41)), .int (nI ((m_sc g 5 fi re) 42)), .int (nI ((m_sc g 5 fi re) 43)), .int (nI ((m_sc g 5 fi re) 44)), .int (nI ((m_sc g 5 fi re) 45)), .ref a2, .int (nI ((m_sc g 5 fi re) 46)), .int (nI ((m_sc g 5 fi re) 59))])), (a1, .inl (tc 0, 40, .inl ((k_sct tr g 5 fi re)))), (a2, .inl (tc 0, 12, .inl ((k_scq qs g 5 fi re))))]) ⟨hx, hb, hml, hown, hts⟩ hM hS hP hD (c6_toDiscard l D tc zb a a1 a2 tr qs g fo fi re hk hR (by omega) (by omega) (by omega)) gX6_succeeds_X6_succeedsToDiscard rfl (by decide +kernel) ⟨Nat.le_of_ble_eq_true rfl, Nat.le_of_ble_eq_true rfl⟩ [4, 5, 6] rfl rfl [(false, 0), (false, 1), (false, 2), (false, 3), (true, 0), (true, 1), (true, 2)] rfl rfl rfl rfl hl.1 rfl (Nat.le_of_ble_eq_true rfl) dX6_succeeds_118 ⟨Nat.le_refl _, Nat.le_refl _⟩ (fun H locs hP hD hS => ?_)
    refine W.eq (g2 := F0 m 121 ls [.int (bI (k_sc g 5 fi re))]) rfl ?_
    exact ip_zret hx hb hr hlk dX6_succeeds_121 hS (congrArg bI (by unfold k_sg; rw [← hcc, ← hfi, ← hre, hsw])) (by (have e9 : decide (grp / 10000 = 6 ∧ grp % 10000 = 0) = false := decide_eq_false (by omega)); simp only [t_f, t_h, t_v, e9, Bool.false_eq_true, if_false]; unfold m_sg k_sgt k_sgq; rw [← hcc, ← hfi, ← hre, hsw]; exact hP)
  · refine ln_eq (x' := nI 6) (congrArg nI hsw) ?_
    refine lv_tableIn (off := 111) (tgt := 122) hx hb dX6_succeeds_11 (by decide) (by decide) (by decide) (by decide) ?_
    refine lv_iload_n hx hb dX6_succeeds_122 rfl (lv_at hl 0 rfl) ?_
    refine ln_if_ne (tgt := 142) hx hb dX6_succeeds_123 (by decide) (by omega) (fun h3 => ?_) (fun h3 => ?_)
    · refine lv_iconst (v := (nI 0)) hx hb dX6_succeeds_142 (by decide) ?_
      exact ip_zret hx hb hr hlk dX6_succeeds_143 hS (show bI false = _ from congrArg bI (by unfold k_sg; rw [← hcc, ← hfi, ← hre, hsw]; exact (decide_eq_false (fun h9 => by first | omega | exact h9.2 ho131)).symm)) (by (have e9 : decide (grp / 10000 = 6 ∧ grp % 10000 = 0) = false := decide_eq_false (by omega)); simp only [t_f, t_h, t_v, e9, Bool.false_eq_true, if_false]; unfold m_sg k_sgt k_sgq; rw [← hcc, ← hfi, ← hre, hsw]; rw [show m_sc g 6 fi re = g from if_neg (by omega)]; exact hP)
    · refine lv_aload_n hx hb dX6_succeeds_126 rfl (lv_at hl 1 rfl) ?_
      refine va_get (D := D) (ci := 5) (v := .ref d0) (C := RX6) (T := TX6) (N := 7) hx hb hts hinX6 hown hM.1 hP 0 rfl rfl 4 (by decide) (hts (.fieldLink RX6 36 "TripleWays" "advice" "LTripleWays$Advice;") (by decide +kernel)) (fun _ h9 => h9) rfl dX6_succeeds_127 ?_
      refine lv_aload_n hx hb dX6_succeeds_130 rfl (lv_at hl 2 rfl) ?_
      refine ip_V (C := RX0) (n := 1) (wl' := [(x0, .inr (5, [o 0, o 1, o 2, o 3, .ref d0, o 5, o 6])), (d0, .inr (0, [.ref d1, .ref d2, .int (nI (g 46)), .int (nI (g 0)), .int (nI (g 41)), .int (nI (k_due g))])), (d1, .inl (tc 0, 72, .inl ((k_lf fc g (6 * g 46))))), (d2, .inl (tc 0, 12, .inl ((k_lh hc g (g 46))))), (a, .inr (3, [.ref a1, .int (nI ((m_tdy g) 0)), .int (nI ((m_tdy g) 41)), .int (nI ((m_tdy g) 42)), .int (nI ((m_tdy g) 43)), .int (nI ((m_tdy g) 44)), .int (nI ((m_tdy g) 45)), .ref a2, .int (nI ((m_tdy g) 46)), .int (nI ((m_tdy g) 59))])), (a1, .inl (tc 0, 40, .inl tr)), (a2, .inl (tc 0, 12, .inl qs))]) ⟨hx, hb, hml, hown, hts⟩ hM hS hP hD (c0_follow l D tc zb d0 d1 d2 fc hc v1 v2 v3 v4 a a1 a2 tr qs g hk hR) gX6_succeeds_X0_follow rfl (by decide +kernel) ⟨Nat.le_of_ble_eq_true rfl, Nat.le_of_ble_eq_true rfl⟩ [1, 2, 3, 4, 5, 6] rfl rfl [(false, 0), (true, 0), (true, 1), (true, 2), (true, 3), (true, 4), (true, 5)] rfl rfl rfl (va_recv hM.1 hP (ci := 0) (q0 := 1) rfl rfl) rfl hl.1 rfl (Nat.le_of_ble_eq_true rfl) dX6_succeeds_131 ⟨Nat.le_refl _, Nat.le_refl _⟩ (fun H locs hP hD hS => ?_)
      refine W.eq (g2 := F0 m 134 ls [.int (oI (k_tv g))]) rfl ?_
      cases ho131 : k_tv g with
      | none =>
        refine ln_eq (x' := -1) rfl ?_
        refine lv_iconst (v := (-1)) hx hb dX6_succeeds_134 (by decide) ?_
        refine lv_icmp_eq (tgt := 142) hx hb dX6_succeeds_135 (by decide) (fun _ => ?_) (fun h9 => False.elim (by revert h9; decide))
        refine lv_iconst (v := (nI 0)) hx hb dX6_succeeds_142 (by decide) ?_
        exact ip_zret hx hb hr hlk dX6_succeeds_143 hS (show bI false = _ from congrArg bI (by unfold k_sg; rw [← hcc, ← hfi, ← hre, hsw]; exact (decide_eq_false (fun h9 => by first | omega | exact h9.2 ho131)).symm)) (by (have e9 : decide (grp / 10000 = 6 ∧ grp % 10000 = 0) = true := decide_eq_true (by omega)); simp only [t_f, t_h, t_v, e9, if_true]; unfold m_sg k_sgt k_sgq; rw [← hcc, ← hfi, ← hre, hsw]; rw [show m_sc g 6 fi re = m_tdy g from if_pos (by omega)]; exact hP)
      | some r131 =>
        refine ln_eq (x' := nI r131) rfl ?_
        have hr9 : r131 < 2 ^ 31 := k_tv_lt ho131
        refine lv_iconst (v := (-1)) hx hb dX6_succeeds_134 (by decide) ?_
        refine ln_eq_m1 (tgt := 142) hx hb dX6_succeeds_135 (by decide) (by omega) ?_
        refine lv_iconst (v := (nI 1)) hx hb dX6_succeeds_138 (by decide) ?_
        refine lv_goto (tgt := 143) hx hb dX6_succeeds_139 (by decide) ?_
        exact ip_zret hx hb hr hlk dX6_succeeds_143 hS (show bI true = _ from congrArg bI (by unfold k_sg; rw [← hcc, ← hfi, ← hre, hsw]; exact (decide_eq_true (⟨by omega, by rw [ho131]; exact fun h => by cases h⟩)).symm)) (by (have e9 : decide (grp / 10000 = 6 ∧ grp % 10000 = 0) = true := decide_eq_true (by omega)); simp only [t_f, t_h, t_v, e9, if_true]; unfold m_sg k_sgt k_sgq; rw [← hcc, ← hfi, ← hre, hsw]; rw [show m_sc g 6 fi re = m_tdy g from if_pos (by omega)]; exact hP)
  · refine ln_eq (x' := nI 7) (congrArg nI hsw) ?_
    refine lv_tableIn (off := 133) (tgt := 144) hx hb dX6_succeeds_11 (by decide) (by decide) (by decide) (by decide) ?_
    refine lv_iload_n hx hb dX6_succeeds_144 rfl (lv_at hl 0 rfl) ?_
    refine lv_bipush (v := (nI 99)) hx hb dX6_succeeds_145 (by decide) ?_
    refine ln_icmp_gt (tgt := 162) hx hb dX6_succeeds_147 (by decide) (by omega) (by decide) (fun h4 => ?_) (fun h4 => ?_)
    · refine lv_iconst (v := (nI 0)) hx hb dX6_succeeds_162 (by decide) ?_
      exact ip_zret hx hb hr hlk dX6_succeeds_163 hS (show bI false = _ from congrArg bI (by unfold k_sg; rw [← hcc, ← hfi, ← hre, hsw]; exact (decide_eq_false (fun h9 => by omega)).symm)) (by (have e9 : decide (grp / 10000 = 6 ∧ grp % 10000 = 0) = false := decide_eq_false (by omega)); simp only [t_f, t_h, t_v, e9, Bool.false_eq_true, if_false]; unfold m_sg k_sgt k_sgq; rw [← hcc, ← hfi, ← hre, hsw]; exact hP)
    · refine lv_aload_n hx hb dX6_succeeds_150 rfl (lv_at hl 2 rfl) ?_
      refine va_getN (D := D) (ci := 3) (v := .int (nI (g 0))) (C := RX4) (T := TX4) (N := 10) hx hb hts hinX4 hown hM.1 hP 4 rfl rfl 1 (by decide) (va_Nw.use rfl (hM.2.2.2.2.2.1 ("TripleWays", 85, "TripleWays$State", "size", "I") (by decide +kernel))) (fun _ h9 => h9) rfl dX6_succeeds_151 ?_
      refine lv_iload_n hx hb dX6_succeeds_154 rfl (lv_at hl 0 rfl) ?_
      refine ln_icmp_lt (tgt := 162) hx hb dX6_succeeds_155 (by decide) (by omega) (by omega) (fun h5 => ?_) (fun h5 => ?_)
      · refine lv_iconst (v := (nI 0)) hx hb dX6_succeeds_162 (by decide) ?_
        exact ip_zret hx hb hr hlk dX6_succeeds_163 hS (show bI false = _ from congrArg bI (by unfold k_sg; rw [← hcc, ← hfi, ← hre, hsw]; exact (decide_eq_false (fun h9 => by omega)).symm)) (by (have e9 : decide (grp / 10000 = 6 ∧ grp % 10000 = 0) = false := decide_eq_false (by omega)); simp only [t_f, t_h, t_v, e9, Bool.false_eq_true, if_false]; unfold m_sg k_sgt k_sgq; rw [← hcc, ← hfi, ← hre, hsw]; exact hP)
      · refine lv_iconst (v := (nI 1)) hx hb dX6_succeeds_158 (by decide) ?_
        refine lv_goto (tgt := 163) hx hb dX6_succeeds_159 (by decide) ?_
        exact ip_zret hx hb hr hlk dX6_succeeds_163 hS (show bI true = _ from congrArg bI (by unfold k_sg; rw [← hcc, ← hfi, ← hre, hsw]; exact (decide_eq_true (⟨by omega, by omega⟩)).symm)) (by (have e9 : decide (grp / 10000 = 6 ∧ grp % 10000 = 0) = false := decide_eq_false (by omega)); simp only [t_f, t_h, t_v, e9, Bool.false_eq_true, if_false]; unfold m_sg k_sgt k_sgq; rw [← hcc, ← hfi, ← hre, hsw]; exact hP)
  · refine ln_eq (x' := nI 8) (congrArg nI hsw) ?_
    refine lv_tableIn (off := 153) (tgt := 164) hx hb dX6_succeeds_11 (by decide) (by decide) (by decide) (by decide) ?_
    refine lv_iload_n hx hb dX6_succeeds_164 rfl (lv_at hl 0 rfl) ?_
    refine lv_sipush (v := (nI 1330)) hx hb dX6_succeeds_165 (by decide) ?_
    refine ln_icmp_gt (tgt := 187) hx hb dX6_succeeds_168 (by decide) (by omega) (by decide) (fun h6 => ?_) (fun h6 => ?_)
    · refine lv_iconst (v := (nI 0)) hx hb dX6_succeeds_187 (by decide) ?_
      exact ip_zret hx hb hr hlk dX6_succeeds_188 hS (show bI false = _ from congrArg bI (by unfold k_sg; rw [← hcc, ← hfi, ← hre, hsw]; exact (decide_eq_false (fun h9 => by rw [← hf4] at h9; omega)).symm)) (by (have e9 : decide (grp / 10000 = 6 ∧ grp % 10000 = 0) = false := decide_eq_false (by omega)); simp only [t_f, t_h, t_v, e9, Bool.false_eq_true, if_false]; unfold m_sg k_sgt k_sgq; rw [← hcc, ← hfi, ← hre, hsw]; exact hP)
    · refine lv_aload_n hx hb dX6_succeeds_171 rfl (lv_at hl 2 rfl) ?_
      refine lv_iload_n hx hb dX6_succeeds_172 rfl (lv_at hl 0 rfl) ?_
      refine ro_V (C := RX4) (n := 1) ⟨hx, hb, hml, hown, hts⟩ hM hS hP (c_costNow l D tc zb a a1 a2 tr qs g fo hk hR (by omega)) gX6_succeeds_X4_costNow rfl (by decide +kernel) ⟨Nat.le_of_ble_eq_true rfl, Nat.le_of_ble_eq_true rfl⟩ [4, 5, 6] rfl (va_recv hM.1 hP (ci := 3) (q0 := 4) rfl rfl) rfl hl.1 rfl (Nat.le_of_ble_eq_true rfl) dX6_succeeds_173 ⟨Nat.le_refl _, Nat.le_refl _⟩ ?_
      have hf7 := k_mn_le g fo (g 41) 6
      refine lv_aload_n hx hb dX6_succeeds_176 rfl (lv_at hl 2 rfl) ?_
      refine va_getN (D := D) (ci := 3) (v := .int (nI (g 0))) (C := RX4) (T := TX4) (N := 10) hx hb hts hinX4 hown hM.1 hP 4 rfl rfl 1 (by decide) (va_Nw.use rfl (hM.2.2.2.2.2.1 ("TripleWays", 85, "TripleWays$State", "size", "I") (by decide +kernel))) (fun _ h9 => h9) rfl dX6_succeeds_177 ?_
      refine ln_icmp_ge (tgt := 187) hx hb dX6_succeeds_180 (by decide) (by omega) (by omega) (fun h8 => ?_) (fun h8 => ?_)
      · refine lv_iconst (v := (nI 0)) hx hb dX6_succeeds_187 (by decide) ?_
        exact ip_zret hx hb hr hlk dX6_succeeds_188 hS (show bI false = _ from congrArg bI (by unfold k_sg; rw [← hcc, ← hfi, ← hre, hsw]; exact (decide_eq_false (fun h9 => by rw [← hf4] at h9; omega)).symm)) (by (have e9 : decide (grp / 10000 = 6 ∧ grp % 10000 = 0) = false := decide_eq_false (by omega)); simp only [t_f, t_h, t_v, e9, Bool.false_eq_true, if_false]; unfold m_sg k_sgt k_sgq; rw [← hcc, ← hfi, ← hre, hsw]; exact hP)
      · refine lv_iconst (v := (nI 1)) hx hb dX6_succeeds_183 (by decide) ?_
        refine lv_goto (tgt := 188) hx hb dX6_succeeds_184 (by decide) ?_
        exact ip_zret hx hb hr hlk dX6_succeeds_188 hS (show bI true = _ from congrArg bI (by unfold k_sg; rw [← hcc, ← hfi, ← hre, hsw]; exact (decide_eq_true (⟨by omega, by rw [← hf4]; omega⟩)).symm)) (by (have e9 : decide (grp / 10000 = 6 ∧ grp % 10000 = 0) = false := decide_eq_false (by omega)); simp only [t_f, t_h, t_v, e9, Bool.false_eq_true, if_false]; unfold m_sg k_sgt k_sgq; rw [← hcc, ← hfi, ← hre, hsw]; exact hP)
  · refine ln_eq (x' := nI 9) (congrArg nI hsw) ?_
    refine lv_tableIn (off := 178) (tgt := 189) hx hb dX6_succeeds_11 (by decide) (by decide) (by decide) (by decide) ?_
    refine lv_iload_n hx hb dX6_succeeds_189 rfl (lv_at hl 0 rfl) ?_
    refine lv_sipush (v := (nI 999)) hx hb dX6_succeeds_190 (by decide) ?_
    refine ln_icmp_gt (tgt := 208) hx hb dX6_succeeds_193 (by decide) (by omega) (by decide) (fun h9 => ?_) (fun h9 => ?_)
    · refine lv_iconst (v := (nI 0)) hx hb dX6_succeeds_208 (by decide) ?_
      exact ip_zret hx hb hr hlk dX6_succeeds_209 hS (show bI false = _ from congrArg bI (by unfold k_sg; rw [← hcc, ← hfi, ← hre, hsw]; exact (decide_eq_false (fun h9 => by first | omega | ((have e5 : re = fo := by omega); rw [e5] at h9; exact h9.2 (by assumption)))).symm)) (by (have e9 : decide (grp / 10000 = 6 ∧ grp % 10000 = 0) = false := decide_eq_false (by omega)); simp only [t_f, t_h, t_v, e9, Bool.false_eq_true, if_false]; unfold m_sg k_sgt k_sgq; rw [← hcc, ← hfi, ← hre, hsw]; exact hP)
    · refine lv_aload_n hx hb dX6_succeeds_196 rfl (lv_at hl 2 rfl) ?_
      refine va_getN (D := D) (ci := 3) (v := .int (nI (g 44))) (C := RX4) (T := TX4) (N := 10) hx hb hts hinX4 hown hM.1 hP 4 rfl rfl 5 (by decide) (va_Nw.use rfl (hM.2.2.2.2.2.1 ("TripleWays", 98, "TripleWays$State", "answerCosts", "I") (by decide +kernel))) (fun _ h9 => h9) rfl dX6_succeeds_197 ?_
      refine lv_iload_n hx hb dX6_succeeds_200 rfl (lv_at hl 0 rfl) ?_
      refine lv_icmp_gt (tgt := 208) hx hb dX6_succeeds_201 (by decide) (fun h10 => ?_) (fun h10 => ?_)
      · refine lv_iconst (v := (nI 0)) hx hb dX6_succeeds_208 (by decide) ?_
        exact ip_zret hx hb hr hlk dX6_succeeds_209 hS (show bI false = _ from congrArg bI (by unfold k_sg; rw [← hcc, ← hfi, ← hre, hsw]; exact (decide_eq_false (fun h9 => by first | omega | ((have e5 : re = fo := by omega); rw [e5] at h9; exact h9.2 (by assumption)))).symm)) (by (have e9 : decide (grp / 10000 = 6 ∧ grp % 10000 = 0) = false := decide_eq_false (by omega)); simp only [t_f, t_h, t_v, e9, Bool.false_eq_true, if_false]; unfold m_sg k_sgt k_sgq; rw [← hcc, ← hfi, ← hre, hsw]; exact hP)
      · refine lv_iconst (v := (nI 1)) hx hb dX6_succeeds_204 (by decide) ?_
        refine lv_goto (tgt := 209) hx hb dX6_succeeds_205 (by decide) ?_
        exact ip_zret hx hb hr hlk dX6_succeeds_209 hS (show bI true = _ from congrArg bI (by unfold k_sg; rw [← hcc, ← hfi, ← hre, hsw]; exact (decide_eq_true (⟨by omega, by (have e5 : re = fo := by omega); rw [e5]; first | assumption | exact Int32.not_lt.mpr (by assumption)⟩)).symm)) (by (have e9 : decide (grp / 10000 = 6 ∧ grp % 10000 = 0) = false := decide_eq_false (by omega)); simp only [t_f, t_h, t_v, e9, Bool.false_eq_true, if_false]; unfold m_sg k_sgt k_sgq; rw [← hcc, ← hfi, ← hre, hsw]; exact hP)
