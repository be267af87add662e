set_option maxHeartbeats 4000000 in
set_option maxRecDepth 100000 in
theorem c0_follow (l : Launch) (D : va_G) (tc : Nat → ClassId) (zb : Nat) (d0 d1 d2 : Nat) (fc hc : Nat → Int32) (v1 v2 v3 v4 : Int32) (a a1 a2 : Nat) (tr qs : Nat → Int32) (g : Nat → Nat) (hk : k_ok g) (hR : k_R tr qs g) : IP l yX0_follow wsX0_follow 4 96 D tc zb [(d0, .inr (0, [.ref d1, .ref d2, .int (v1), .int (v2), .int (v3), .int (v4)])), (d1, .inl (tc 0, 72, .inl fc)), (d2, .inl (tc 0, 12, .inl hc)), (a, .inr (3, [.ref a1, .int (nI (g 0)), .int (nI (g 41)), .int (nI (g 42)), .int (nI (g 43)), .int (nI (g 44)), .int (nI (g 45)), .ref a2, .int (nI (g 46)), .int (nI (g 59))])), (a1, .inl (tc 0, 40, .inl tr)), (a2, .inl (tc 0, 12, .inl qs))] ((w_ad tc d0 d1 d2 ((k_lf fc g (6 * g 46))) ((k_lh hc g (g 46))) (g 46) (g 0) (g 41) (k_due g)) ++ w_st tc a a1 a2 tr qs (m_tdy g)) [.ref d0, .ref a] (some (.int (oI (k_tv g)))) := by
  refine IP.of (cc := cX0_follow) (maxL := 4) (ret := (some .int)) (by decide) rfl (Nat.le_of_ble_eq_true rfl) ?_
  intro p e s m args below meth c A hx hb hr hml hlk hts hown hM hS hP hD ls hl
  have hl : lv_has ls 4 [(0, .ref d0), (1, .ref a)] := hl
  obtain ⟨ok0, ok1, ok2, ok3, ok4, ok5, ok6⟩ := id hk
  have hLa9 := k_La_ok fc hc g
  refine lv_aload_n hx hb dX0_follow_0 rfl (lv_at hl 0 rfl) ?_
  refine lv_aload_n hx hb dX0_follow_1 rfl (lv_at hl 1 rfl) ?_
  refine ip_V (C := RX0) (n := 1) (wl' := [(d0, .inr (0, [.ref d1, .ref d2, .int (nI (g 46)), .int (nI (g 0)), .int (nI (g 41)), .int (nI (k_due g))])), (d1, .inl (tc 0, 72, .inl ((k_lf fc g (6 * g 46))))), (d2, .inl (tc 0, 12, .inl ((k_lh hc g (g 46))))), (a, .inr (3, [.ref a1, .int (nI (g 0)), .int (nI (g 41)), .int (nI (g 42)), .int (nI (g 43)), .int (nI (g 44)), .int (nI (g 45)), .ref a2, .int (nI (g 46)), .int (nI (g 59))])), (a1, .inl (tc 0, 40, .inl tr)), (a2, .inl (tc 0, 12, .inl qs))]) ⟨hx, hb, hml, hown, hts⟩ hM hS hP hD (c0_learn l D tc zb d0 d1 d2 fc hc ((v1)) ((v2)) ((v3)) ((v4)) a a1 a2 tr qs g hk hR) gX0_follow_X0_learn rfl (by decide +kernel) ⟨Nat.le_of_ble_eq_true rfl, Nat.le_of_ble_eq_true rfl⟩ [0, 1, 2, 3, 4, 5] rfl rfl [(true, 0), (true, 1), (true, 2), (true, 3), (true, 4), (true, 5)] rfl rfl rfl (va_recv hM.1 hP (ci := 0) (q0 := 0) rfl rfl) rfl hl.1 rfl (Nat.le_of_ble_eq_true rfl) dX0_follow_2 ⟨Nat.le_refl _, Nat.le_refl _⟩ (fun H locs hP hD hS => ?_)
  refine W.eq (g2 := F0 m 5 ls []) rfl ?_
  refine lv_aload_n hx hb dX0_follow_5 rfl (lv_at hl 0 rfl) ?_
  refine ro_V (C := RX0) (n := 0) ⟨hx, hb, hml, hown, hts⟩ hM hS hP (c0_orderToBuild l D tc zb d0 d1 d2 ((k_lf fc g (6 * g 46))) ((k_lh hc g (g 46))) g (by assumption) (by assumption)) gX0_follow_X0_orderToBuild rfl (by decide +kernel) ⟨Nat.le_of_ble_eq_true rfl, Nat.le_of_ble_eq_true rfl⟩ [0, 1, 2] rfl (va_recv hM.1 hP (ci := 0) (q0 := 0) rfl rfl) rfl hl.1 rfl (Nat.le_of_ble_eq_true rfl) dX0_follow_6 ⟨Nat.le_refl _, Nat.le_refl _⟩ ?_
  cases ho6 : k_go g 6 with
  | none =>
    refine ln_eq (x' := -1) rfl ?_
    refine lv_istore_n (lv' := [(2, .int (-1)), (0, .ref d0), (1, .ref a)]) hx hb dX0_follow_9 rfl hl (by decide) rfl (fun ls hl => ?_)
    refine lv_iload_n hx hb dX0_follow_10 rfl (lv_at hl 0 rfl) ?_
    refine lv_iconst (v := (-1)) hx hb dX0_follow_11 (by decide) ?_
    refine lv_icmp_eq (tgt := 26) hx hb dX0_follow_12 (by decide) (fun _ => ?_) (fun h9 => False.elim (by revert h9; decide))
    refine lv_aload_n hx hb dX0_follow_26 rfl (lv_at hl 1 rfl) ?_
    refine ro_V (C := RX0) (n := 0) ⟨hx, hb, hml, hown, hts⟩ hM hS hP (c0_orderToDrop l D tc zb d0 d1 d2 ((k_lf fc g (6 * g 46))) ((k_lh hc g (g 46))) g (by assumption) (by assumption)) gX0_follow_X0_orderToDrop rfl (by decide +kernel) ⟨Nat.le_of_ble_eq_true rfl, Nat.le_of_ble_eq_true rfl⟩ [0, 1, 2] rfl (va_recv hM.1 hP (ci := 0) (q0 := 0) rfl rfl) rfl hl.1 rfl (Nat.le_of_ble_eq_true rfl) dX0_follow_27 ⟨Nat.le_refl _, Nat.le_refl _⟩ ?_
    cases ho27 : k_lo g 6 with
    | none =>
      refine ln_eq (x' := -1) rfl ?_
      refine lv_istore_n (lv' := [(3, .int (-1)), (2, .int (-1)), (0, .ref d0), (1, .ref a)]) hx hb dX0_follow_30 rfl hl (by decide) rfl (fun ls hl => ?_)
      refine lv_iload_n hx hb dX0_follow_31 rfl (lv_at hl 0 rfl) ?_
      refine lv_iconst (v := (-1)) hx hb dX0_follow_32 (by decide) ?_
      refine lv_icmp_eq (tgt := 42) hx hb dX0_follow_33 (by decide) (fun _ => ?_) (fun h9 => False.elim (by revert h9; decide))
      refine lv_iload_n hx hb dX0_follow_42 rfl (lv_at hl 0 rfl) ?_
      exact ip_iret hx hb hr hlk dX0_follow_43 hS (show oI none = _ from congrArg oI (by simp only [k_tv, ho6, ho27])) (by rw [show m_tdy g = g by simp only [m_tdy, ho6, ho27]]; exact hP)
    | some r27 =>
      refine ln_eq (x' := nI r27) rfl ?_
      have hr8 := k_lo_lt ho27
      refine lv_istore_n (lv' := [(3, .int (nI r27)), (2, .int (-1)), (0, .ref d0), (1, .ref a)]) hx hb dX0_follow_30 rfl hl (by decide) rfl (fun ls hl => ?_)
      refine lv_iload_n hx hb dX0_follow_31 rfl (lv_at hl 0 rfl) ?_
      refine lv_iconst (v := (-1)) hx hb dX0_follow_32 (by decide) ?_
      refine ln_eq_m1 (tgt := 42) hx hb dX0_follow_33 (by decide) (by omega) ?_
      refine lv_aload_n hx hb dX0_follow_36 rfl (lv_at hl 3 rfl) ?_
      refine lv_iload_n hx hb dX0_follow_37 rfl (lv_at hl 0 rfl) ?_
      refine ip_V (C := RX4) (n := 1) (wl' := [(d0, .inr (0, [.ref d1, .ref d2, .int (nI (g 46)), .int (nI (g 0)), .int (nI (g 41)), .int (nI (k_due g))])), (d1, .inl (tc 0, 72, .inl ((k_lf fc g (6 * g 46))))), (d2, .inl (tc 0, 12, .inl ((k_lh hc g (g 46))))), (a, .inr (3, [.ref a1, .int (nI ((m_drp g r27) 0)), .int (nI ((m_drp g r27) 41)), .int (nI ((m_drp g r27) 42)), .int (nI ((m_drp g r27) 43)), .int (nI ((m_drp g r27) 44)), .int (nI ((m_drp g r27) 45)), .ref a2, .int (nI ((m_drp g r27) 46)), .int (nI ((m_drp g r27) 59))])), (a1, .inl (tc 0, 40, .inl tr)), (a2, .inl (tc 0, 12, .inl qs))]) ⟨hx, hb, hml, hown, hts⟩ hM hS hP hD (c_discard l D tc zb a a1 a2 tr qs g r27 hk hR (by omega)) gX0_follow_X4_discard rfl (by decide +kernel) ⟨Nat.le_of_ble_eq_true rfl, Nat.le_of_ble_eq_true rfl⟩ [3, 4, 5] rfl rfl [(false, 0), (false, 1), (false, 2), (true, 0), (true, 1), (true, 2)] rfl rfl rfl (va_recv hM.1 hP (ci := 3) (q0 := 3) rfl rfl) rfl hl.1 rfl (Nat.le_of_ble_eq_true rfl) dX0_follow_38 ⟨Nat.le_refl _, Nat.le_refl _⟩ (fun H locs hP hD hS => ?_)
      refine W.eq (g2 := F0 m 41 ls [.int (nI (k_pc (g 41 &&& (63 ^^^ 2 ^ r27))))]) rfl ?_
      refine lv_pop hx hb dX0_follow_41 rfl ?_
      refine lv_iload_n hx hb dX0_follow_42 rfl (lv_at hl 0 rfl) ?_
      exact ip_iret hx hb hr hlk dX0_follow_43 hS (show oI (some r27) = _ from congrArg oI (by simp only [k_tv, ho6, ho27])) (by rw [show m_tdy g = m_drp g r27 by simp only [m_tdy, ho6, ho27]]; exact hP)
  | some r6 =>
    refine ln_eq (x' := nI r6) rfl ?_
    have hr9 := k_go_lt ho6
    refine lv_istore_n (lv' := [(2, .int (nI r6)), (0, .ref d0), (1, .ref a)]) hx hb dX0_follow_9 rfl hl (by decide) rfl (fun ls hl => ?_)
    refine lv_iload_n hx hb dX0_follow_10 rfl (lv_at hl 0 rfl) ?_
    refine lv_iconst (v := (-1)) hx hb dX0_follow_11 (by decide) ?_
    refine ln_eq_m1 (tgt := 26) hx hb dX0_follow_12 (by decide) (by omega) ?_
    refine lv_aload_n hx hb dX0_follow_15 rfl (lv_at hl 2 rfl) ?_
    refine lv_iload_n hx hb dX0_follow_16 rfl (lv_at hl 0 rfl) ?_
    refine ip_V (C := RX4) (n := 1) (wl' := [(d0, .inr (0, [.ref d1, .ref d2, .int (nI (g 46)), .int (nI (g 0)), .int (nI (g 41)), .int (nI (k_due g))])), (d1, .inl (tc 0, 72, .inl ((k_lf fc g (6 * g 46))))), (d2, .inl (tc 0, 12, .inl ((k_lh hc g (g 46))))), (a, .inr (3, [.ref a1, .int (nI ((m_bld g r6) 0)), .int (nI ((m_bld g r6) 41)), .int (nI ((m_bld g r6) 42)), .int (nI ((m_bld g r6) 43)), .int (nI ((m_bld g r6) 44)), .int (nI ((m_bld g r6) 45)), .ref a2, .int (nI ((m_bld g r6) 46)), .int (nI ((m_bld g r6) 59))])), (a1, .inl (tc 0, 40, .inl tr)), (a2, .inl (tc 0, 12, .inl qs))]) ⟨hx, hb, hml, hown, hts⟩ hM hS hP hD (c_keep l D tc zb a a1 a2 tr qs g r6 hk hR (by omega)) gX0_follow_X4_keep rfl (by decide +kernel) ⟨Nat.le_of_ble_eq_true rfl, Nat.le_of_ble_eq_true rfl⟩ [3, 4, 5] rfl rfl [(false, 0), (false, 1), (false, 2), (true, 0), (true, 1), (true, 2)] rfl rfl rfl (va_recv hM.1 hP (ci := 3) (q0 := 3) rfl rfl) rfl hl.1 rfl (Nat.le_of_ble_eq_true rfl) dX0_follow_17 ⟨Nat.le_refl _, Nat.le_refl _⟩ (fun H locs hP hD hS => ?_)
    refine W.eq (g2 := F0 m 20 ls [.int (nI (g 0 * k_lk (g 0)))]) rfl ?_
    refine lv_pop hx hb dX0_follow_20 rfl ?_
    refine lv_bipush (v := (nI 10)) hx hb dX0_follow_21 (by decide) ?_
    refine lv_iload_n hx hb dX0_follow_23 rfl (lv_at hl 0 rfl) ?_
    refine ln_iadd hx hb dX0_follow_24 ?_
    exact ip_iret hx hb hr hlk dX0_follow_25 hS (show oI (some (10 + r6)) = _ from congrArg oI (by simp only [k_tv, ho6])) (by rw [show m_tdy g = m_bld g r6 by simp only [m_tdy, ho6]]; exact hP)

