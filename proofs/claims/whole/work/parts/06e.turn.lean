def t_f (fc : Nat → Int32) (g : Nat → Nat) (b : Bool) : Nat → Int32 := if b = true then k_lf fc g (6 * g 46) else fc
def t_h (hc : Nat → Int32) (g : Nat → Nat) (b : Bool) : Nat → Int32 := if b = true then k_lh hc g (g 46) else hc
def t_v (v : Int32) (n : Nat) (b : Bool) : Int32 := if b = true then nI n else v
set_option maxHeartbeats 4000000 in
set_option maxRecDepth 100000 in
theorem c6_takeTurn (l : Launch) (D : va_G) (tc : Nat → ClassId) (zb : Nat) (x0 : Nat) (o : Nat → Value) (d0 d1 d2 : Nat) (fc hc : Nat → Int32) (v1 v2 v3 v4 : Int32) (a a1 a2 : Nat) (tr qs : Nat → Int32) (g : Nat → Nat) (r : Nat) (hk : k_ok g) (hR : k_R tr qs g) (hr9 : r < 2 ^ 31) : IP l yX6_takeTurn wsX6_takeTurn 5 119 D tc zb [(x0, .inr (5, [o 0, o 1, o 2, o 3, .ref d0, o 5, o 6])), (d0, .inr (0, [.ref d1, .ref d2, .int (v1), .int (v2), .int (v3), .int (v4)])), (d1, .inl (tc 0, 72, .inl fc)), (d2, .inl (tc 0, 12, .inl hc)), (a, .inr (3, [.ref a1, .int (nI (g 0)), .int (nI (g 41)), .int (nI (g 42)), .int (nI (g 43)), .int (nI (g 44)), .int (nI (g 45)), .ref a2, .int (nI (g 46)), .int (nI (g 59))])), (a1, .inl (tc 0, 40, .inl tr)), (a2, .inl (tc 0, 12, .inl qs))] [(x0, .inr (5, [o 0, o 1, o 2, o 3, .ref d0, o 5, o 6])), (d0, .inr (0, [.ref d1, .ref d2, .int (t_v v1 (g 46) (decide (13 < r % 16))), .int (t_v v2 (g 0) (decide (13 < r % 16))), .int (t_v v3 (g 41) (decide (13 < r % 16))), .int (t_v v4 (k_due g) (decide (13 < r % 16)))])), (d1, .inl (tc 0, 72, .inl ((t_f fc g (decide (13 < r % 16)))))), (d2, .inl (tc 0, 12, .inl ((t_h hc g (decide (13 < r % 16)))))), (a, .inr (3, [.ref a1, .int (nI ((m_tn g r) 0)), .int (nI ((m_tn g r) 41)), .int (nI ((m_tn g r) 42)), .int (nI ((m_tn g r) 43)), .int (nI ((m_tn g r) 44)), .int (nI ((m_tn g r) 45)), .ref a2, .int (nI ((m_tn g r) 46)), .int (nI ((m_tn g r) 59))])), (a1, .inl (tc 0, 40, .inl ((k_tnt tr g r)))), (a2, .inl (tc 0, 12, .inl ((k_tnq qs g r))))] [.ref x0, .ref a, .int (nI r)] none := by
  refine IP.of (cc := cX6_takeTurn) (maxL := 8) (ret := none) (by decide) rfl (Nat.le_of_ble_eq_true rfl) ?_
  intro p e s m args below meth c A hx hb hr hml hlk hts hown hM hS hP hD ls hl
  have hl : lv_has ls 8 [(0, .ref x0), (1, .ref a), (2, .int (nI r))] := hl
  have hinX6 : ∀ w ∈ u_ws RX6 TX6 7, w ∈ wsX6_takeTurn := by decide +kernel
  obtain ⟨ok0, ok1, ok2, ok3, ok4, ok5, ok6⟩ := id hk
  have htl9 := k_tri_lt r
  have hql9 := k_que_lt r
  refine lv_iload_n hx hb dX6_takeTurn_0 rfl (lv_at hl 2 rfl) ?_
  refine lv_bipush (v := (nI 16)) hx hb dX6_takeTurn_1 (by decide) ?_
  refine ln_irem hx hb dX6_takeTurn_3 (by omega) (by decide) (by decide) ?_
  refine lv_istore_n (lv' := [(3, .int (nI (r % 16))), (0, .ref x0), (1, .ref a), (2, .int (nI r))]) hx hb dX6_takeTurn_4 rfl hl (by decide) rfl (fun ls hl => ?_)
  refine lv_bipush (v := (nI 100)) hx hb dX6_takeTurn_5 (by decide) ?_
  refine lv_iload_n hx hb dX6_takeTurn_7 rfl (lv_at hl 3 rfl) ?_
  refine lv_bipush (v := (nI 16)) hx hb dX6_takeTurn_8 (by decide) ?_
  refine ln_idiv hx hb dX6_takeTurn_10 (by omega) (by decide) (by decide) ?_
  refine lv_iconst (v := (nI 4)) hx hb dX6_takeTurn_11 (by decide) ?_
  refine ln_irem hx hb dX6_takeTurn_12 (by omega) (by decide) (by decide) ?_
  refine ln_imul hx hb dX6_takeTurn_13 ?_
  refine lv_bipush (v := (nI 10)) hx hb dX6_takeTurn_14 (by decide) ?_
  refine lv_iload_n hx hb dX6_takeTurn_16 rfl (lv_at hl 3 rfl) ?_
  refine lv_bipush (v := (nI 64)) hx hb dX6_takeTurn_17 (by decide) ?_
  refine ln_idiv hx hb dX6_takeTurn_19 (by omega) (by decide) (by decide) ?_
  refine lv_iconst (v := (nI 4)) hx hb dX6_takeTurn_20 (by decide) ?_
  refine ln_irem hx hb dX6_takeTurn_21 (by omega) (by decide) (by decide) ?_
  refine ln_imul hx hb dX6_takeTurn_22 ?_
  refine ln_iadd hx hb dX6_takeTurn_23 ?_
  refine lv_iload_n hx hb dX6_takeTurn_24 rfl (lv_at hl 3 rfl) ?_
  refine lv_sipush (v := (nI 256)) hx hb dX6_takeTurn_25 (by decide) ?_
  refine ln_idiv hx hb dX6_takeTurn_28 (by omega) (by decide) (by decide) ?_
  refine lv_iconst (v := (nI 4)) hx hb dX6_takeTurn_29 (by decide) ?_
  refine ln_irem hx hb dX6_takeTurn_30 (by omega) (by decide) (by decide) ?_
  refine ln_iadd hx hb dX6_takeTurn_31 ?_
  refine ln_eq (x' := (nI (k_tri r))) (rfl) ?_
  refine lv_istore (lv' := [(4, .int (nI (k_tri r))), (3, .int (nI (r % 16))), (0, .ref x0), (1, .ref a), (2, .int (nI r))]) hx hb dX6_takeTurn_32 hl (by decide) rfl (fun ls hl => ?_)
  refine lv_iload_n hx hb dX6_takeTurn_34 rfl (lv_at hl 1 rfl) ?_
  refine lv_iconst (v := (nI 5)) hx hb dX6_takeTurn_35 (by decide) ?_
  refine ln_icmp_ge (tgt := 58) hx hb dX6_takeTurn_36 (by decide) (by omega) (by decide) (fun h1 => ?_) (fun h1 => ?_)
  · refine lv_iload_n hx hb dX6_takeTurn_58 rfl (lv_at hl 1 rfl) ?_
    refine lv_iconst (v := (nI 5)) hx hb dX6_takeTurn_59 (by decide) ?_
    refine ln_icmp_ne (tgt := 73) hx hb dX6_takeTurn_60 (by decide) (by omega) (by decide) (fun h2 => ?_) (fun h2 => ?_)
    · refine lv_iload_n hx hb dX6_takeTurn_73 rfl (lv_at hl 1 rfl) ?_
      refine lv_bipush (v := (nI 14)) hx hb dX6_takeTurn_74 (by decide) ?_
      refine ln_icmp_ge (tgt := 140) hx hb dX6_takeTurn_76 (by decide) (by omega) (by decide) (fun h3 => ?_) (fun h3 => ?_)
      · refine lv_aload_n hx hb dX6_takeTurn_140 rfl (lv_at hl 2 rfl) ?_
        refine va_get (D := D) (ci := 5) (v := .ref d0) (C := RX6) (T := TX6) (N := 7) hx hb hts hinX6 hown hM.1 hP 0 rfl rfl 4 (by decide) (hts (.fieldLink RX6 36 "TripleWays" "advice" "LTripleWays$Advice;") (by decide +kernel)) (fun _ h9 => h9) rfl dX6_takeTurn_141 ?_
        refine lv_aload_n hx hb dX6_takeTurn_144 rfl (lv_at hl 3 rfl) ?_
        refine ip_V (C := RX0) (n := 1) (wl' := [(x0, .inr (5, [o 0, o 1, o 2, o 3, .ref d0, o 5, o 6])), (d0, .inr (0, [.ref d1, .ref d2, .int (nI (g 46)), .int (nI (g 0)), .int (nI (g 41)), .int (nI (k_due g))])), (d1, .inl (tc 0, 72, .inl ((k_lf fc g (6 * g 46))))), (d2, .inl (tc 0, 12, .inl ((k_lh hc g (g 46))))), (a, .inr (3, [.ref a1, .int (nI ((m_tdy g) 0)), .int (nI ((m_tdy g) 41)), .int (nI ((m_tdy g) 42)), .int (nI ((m_tdy g) 43)), .int (nI ((m_tdy g) 44)), .int (nI ((m_tdy g) 45)), .ref a2, .int (nI ((m_tdy g) 46)), .int (nI ((m_tdy g) 59))])), (a1, .inl (tc 0, 40, .inl tr)), (a2, .inl (tc 0, 12, .inl qs))]) ⟨hx, hb, hml, hown, hts⟩ hM hS hP hD (c0_follow l D tc zb d0 d1 d2 fc hc v1 v2 v3 v4 a a1 a2 tr qs g hk hR) gX6_takeTurn_X0_follow rfl (by decide +kernel) ⟨Nat.le_of_ble_eq_true rfl, Nat.le_of_ble_eq_true rfl⟩ [1, 2, 3, 4, 5, 6] rfl rfl [(false, 0), (true, 0), (true, 1), (true, 2), (true, 3), (true, 4), (true, 5)] rfl rfl rfl (va_recv hM.1 hP (ci := 0) (q0 := 1) rfl rfl) rfl hl.1 rfl (Nat.le_of_ble_eq_true rfl) dX6_takeTurn_145 ⟨Nat.le_refl _, Nat.le_refl _⟩ (fun H locs hP hD hS => ?_)
        refine W.eq (g2 := F0 m 148 ls [.int (oI (k_tv g))]) rfl ?_
        refine lv_pop hx hb dX6_takeTurn_148 rfl ?_
        exact ip_vret hx hb hr hlk dX6_takeTurn_149 hS (by (have e9 : decide (13 < r % 16) = true := decide_eq_true (by omega)); simp only [t_f, t_h, t_v, e9, if_true]; rw [show m_tn g r = m_tdy g from (if_neg (by omega)).trans ((if_neg (by omega)).trans (if_neg (by omega))), show k_tnt tr g r = tr from (if_neg (by omega)).trans (if_neg (by omega)), show k_tnq qs g r = qs from (if_neg (by omega)).trans ((if_neg (by omega)).trans (if_neg (by omega)))]; exact hP)
      · refine lv_bipush (v := (nI 10)) hx hb dX6_takeTurn_79 (by decide) ?_
        refine lv_iload_n hx hb dX6_takeTurn_81 rfl (lv_at hl 4 rfl) ?_
        refine lv_bipush (v := (nI 16)) hx hb dX6_takeTurn_82 (by decide) ?_
        refine ln_idiv hx hb dX6_takeTurn_84 (by omega) (by decide) (by decide) ?_
        refine lv_bipush (v := (nI 16)) hx hb dX6_takeTurn_85 (by decide) ?_
        refine ln_irem hx hb dX6_takeTurn_87 (by omega) (by decide) (by decide) ?_
        refine va_mmin hx hb (hml.trans hl.1.symm) hown (hts (.methodLink RX6 277 Lib.Math.min.name) (by decide +kernel)) (hts (.static Lib.Math.min.name) (by decide +kernel)) (hts (.initialized "java/lang/Math") (by decide +kernel)) (hts (.code Lib.Math.min.name Lib.Math.min.code 2 (some .int)) (by decide +kernel)) (Nat.le_of_ble_eq_true rfl) (Nat.le_of_ble_eq_true rfl) (Nat.le_refl _) (Nat.le_refl _) dX6_takeTurn_88 ?_
        refine ln_eq (x' := nI (min 10 ((r / 16) % 16))) (k_min (by decide) (by omega)) ?_
        refine lv_istore (lv' := [(5, .int (nI (min 10 ((r / 16) % 16)))), (4, .int (nI (k_tri r))), (3, .int (nI (r % 16))), (0, .ref x0), (1, .ref a), (2, .int (nI r))]) hx hb dX6_takeTurn_91 hl (by decide) rfl (fun ls hl => ?_)
        refine lv_bipush (v := (nI 10)) hx hb dX6_takeTurn_93 (by decide) ?_
        refine lv_iload_n hx hb dX6_takeTurn_95 rfl (lv_at hl 5 rfl) ?_
        refine lv_sipush (v := (nI 256)) hx hb dX6_takeTurn_96 (by decide) ?_
        refine ln_idiv hx hb dX6_takeTurn_99 (by omega) (by decide) (by decide) ?_
        refine lv_bipush (v := (nI 16)) hx hb dX6_takeTurn_100 (by decide) ?_
        refine ln_irem hx hb dX6_takeTurn_102 (by omega) (by decide) (by decide) ?_
        refine va_mmin hx hb (hml.trans hl.1.symm) hown (hts (.methodLink RX6 277 Lib.Math.min.name) (by decide +kernel)) (hts (.static Lib.Math.min.name) (by decide +kernel)) (hts (.initialized "java/lang/Math") (by decide +kernel)) (hts (.code Lib.Math.min.name Lib.Math.min.code 2 (some .int)) (by decide +kernel)) (Nat.le_of_ble_eq_true rfl) (Nat.le_of_ble_eq_true rfl) (Nat.le_refl _) (Nat.le_refl _) dX6_takeTurn_103 ?_
        refine ln_eq (x' := nI (min 10 ((r / 256) % 16))) (k_min (by decide) (by omega)) ?_
        refine lv_istore (lv' := [(6, .int (nI (min 10 ((r / 256) % 16)))), (5, .int (nI (min 10 ((r / 16) % 16)))), (4, .int (nI (k_tri r))), (3, .int (nI (r % 16))), (0, .ref x0), (1, .ref a), (2, .int (nI r))]) hx hb dX6_takeTurn_106 hl (by decide) rfl (fun ls hl => ?_)
        refine lv_bipush (v := (nI 10)) hx hb dX6_takeTurn_108 (by decide) ?_
        refine lv_iload_n hx hb dX6_takeTurn_110 rfl (lv_at hl 6 rfl) ?_
        refine lv_sipush (v := (nI 4096)) hx hb dX6_takeTurn_111 (by decide) ?_
        refine ln_idiv hx hb dX6_takeTurn_114 (by omega) (by decide) (by decide) ?_
        refine lv_bipush (v := (nI 16)) hx hb dX6_takeTurn_115 (by decide) ?_
        refine ln_irem hx hb dX6_takeTurn_117 (by omega) (by decide) (by decide) ?_
        refine va_mmin hx hb (hml.trans hl.1.symm) hown (hts (.methodLink RX6 277 Lib.Math.min.name) (by decide +kernel)) (hts (.static Lib.Math.min.name) (by decide +kernel)) (hts (.initialized "java/lang/Math") (by decide +kernel)) (hts (.code Lib.Math.min.name Lib.Math.min.code 2 (some .int)) (by decide +kernel)) (Nat.le_of_ble_eq_true rfl) (Nat.le_of_ble_eq_true rfl) (Nat.le_refl _) (Nat.le_refl _) dX6_takeTurn_118 ?_
        refine ln_eq (x' := nI (min 10 ((r / 4096) % 16))) (k_min (by decide) (by omega)) ?_
        refine lv_istore (lv' := [(7, .int (nI (min 10 ((r / 4096) % 16)))), (6, .int (nI (min 10 ((r / 256) % 16)))), (5, .int (nI (min 10 ((r / 16) % 16)))), (4, .int (nI (k_tri r))), (3, .int (nI (r % 16))), (0, .ref x0), (1, .ref a), (2, .int (nI r))]) hx hb dX6_takeTurn_121 hl (by decide) rfl (fun ls hl => ?_)
        refine lv_aload_n hx hb dX6_takeTurn_123 rfl (lv_at hl 6 rfl) ?_
        refine lv_iload hx hb dX6_takeTurn_124 (lv_at hl 2 rfl) ?_
        refine lv_iload hx hb dX6_takeTurn_126 (lv_at hl 1 rfl) ?_
        refine lv_iload hx hb dX6_takeTurn_128 (lv_at hl 0 rfl) ?_
        refine ro_S (n := 3) ⟨hx, hb, hml, hown, hts⟩ hM hS hP (c_questionOf l D tc zb (min 10 ((r / 16) % 16)) (min 10 ((r / 256) % 16)) (min 10 ((r / 4096) % 16))) gX6_takeTurn_X2_questionOf rfl (by decide +kernel) ⟨Nat.le_of_ble_eq_true rfl, Nat.le_of_ble_eq_true rfl⟩ [] rfl rfl hl.1 rfl (Nat.le_of_ble_eq_true rfl) dX6_takeTurn_130 ⟨Nat.le_refl _, Nat.le_refl _⟩ ?_
        refine ln_eq (x' := (nI (k_que r))) (rfl) ?_
        refine ip_V (C := RX4) (n := 1) (wl' := [(x0, .inr (5, [o 0, o 1, o 2, o 3, .ref d0, o 5, o 6])), (d0, .inr (0, [.ref d1, .ref d2, .int (v1), .int (v2), .int (v3), .int (v4)])), (d1, .inl (tc 0, 72, .inl fc)), (d2, .inl (tc 0, 12, .inl hc)), (a, .inr (3, [.ref a1, .int (nI ((m_ask g (k_que r)) 0)), .int (nI ((m_ask g (k_que r)) 41)), .int (nI ((m_ask g (k_que r)) 42)), .int (nI ((m_ask g (k_que r)) 43)), .int (nI ((m_ask g (k_que r)) 44)), .int (nI ((m_ask g (k_que r)) 45)), .ref a2, .int (nI ((m_ask g (k_que r)) 46)), .int (nI ((m_ask g (k_que r)) 59))])), (a1, .inl (tc 0, 40, .inl tr)), (a2, .inl (tc 0, 12, .inl ((k_aqs qs g (k_que r)))))]) ⟨hx, hb, hml, hown, hts⟩ hM hS hP hD (c_noteQuestion l D tc zb a a1 a2 tr qs g (k_que r) hk hR (by omega)) gX6_takeTurn_X4_noteQuestion rfl (by decide +kernel) ⟨Nat.le_of_ble_eq_true rfl, Nat.le_of_ble_eq_true rfl⟩ [4, 5, 6] rfl rfl [(false, 0), (false, 1), (false, 2), (false, 3), (true, 0), (true, 1), (true, 2)] rfl rfl rfl (va_recv hM.1 hP (ci := 3) (q0 := 4) rfl rfl) rfl hl.1 rfl (Nat.le_of_ble_eq_true rfl) dX6_takeTurn_133 ⟨Nat.le_refl _, Nat.le_refl _⟩ (fun H locs hP hD hS => ?_)
        refine W.eq (g2 := F0 m 136 ls [.int (nI (k_cnt g (k_que r)))]) rfl ?_
        refine lv_pop hx hb dX6_takeTurn_136 rfl ?_
        refine lv_goto (tgt := 149) hx hb dX6_takeTurn_137 (by decide) ?_
        exact ip_vret hx hb hr hlk dX6_takeTurn_149 hS (by (have e9 : decide (13 < r % 16) = false := decide_eq_false (by omega)); simp only [t_f, t_h, t_v, e9, Bool.false_eq_true, if_false]; rw [show m_tn g r = m_ask g (k_que r) from (if_neg (by omega)).trans ((if_neg (by omega)).trans (if_pos (by omega))), show k_tnt tr g r = tr from (if_neg (by omega)).trans (if_neg (by omega)), show k_tnq qs g r = k_aqs qs g (k_que r) from (if_neg (by omega)).trans ((if_neg (by omega)).trans (if_pos (by omega)))]; exact hP)
    · refine lv_aload_n hx hb dX6_takeTurn_63 rfl (lv_at hl 3 rfl) ?_
      refine lv_iload hx hb dX6_takeTurn_64 (lv_at hl 0 rfl) ?_
      refine ip_V (C := RX4) (n := 1) (wl' := [(x0, .inr (5, [o 0, o 1, o 2, o 3, .ref d0, o 5, o 6])), (d0, .inr (0, [.ref d1, .ref d2, .int (v1), .int (v2), .int (v3), .int (v4)])), (d1, .inl (tc 0, 72, .inl fc)), (d2, .inl (tc 0, 12, .inl hc)), (a, .inr (3, [.ref a1, .int (nI ((m_rem g (k_tri r)) 0)), .int (nI ((m_rem g (k_tri r)) 41)), .int (nI ((m_rem g (k_tri r)) 42)), .int (nI ((m_rem g (k_tri r)) 43)), .int (nI ((m_rem g (k_tri r)) 44)), .int (nI ((m_rem g (k_tri r)) 45)), .ref a2, .int (nI ((m_rem g (k_tri r)) 46)), .int (nI ((m_rem g (k_tri r)) 59))])), (a1, .inl (tc 0, 40, .inl ((k_rtr tr g (k_tri r))))), (a2, .inl (tc 0, 12, .inl qs))]) ⟨hx, hb, hml, hown, hts⟩ hM hS hP hD (c_take l D tc zb a a1 a2 tr qs g (k_tri r) hk hR (by omega)) gX6_takeTurn_X4_take rfl (by decide +kernel) ⟨Nat.le_of_ble_eq_true rfl, Nat.le_of_ble_eq_true rfl⟩ [4, 5, 6] rfl rfl [(false, 0), (false, 1), (false, 2), (false, 3), (true, 0), (true, 1), (true, 2)] rfl rfl rfl (va_recv hM.1 hP (ci := 3) (q0 := 4) rfl rfl) rfl hl.1 rfl (Nat.le_of_ble_eq_true rfl) dX6_takeTurn_66 ⟨Nat.le_refl _, Nat.le_refl _⟩ (fun H locs hP hD hS => ?_)
      refine W.eq (g2 := F0 m 69 ls [.int (nI (k_rv g (k_tri r)))]) rfl ?_
      refine lv_pop hx hb dX6_takeTurn_69 rfl ?_
      refine lv_goto (tgt := 149) hx hb dX6_takeTurn_70 (by decide) ?_
      exact ip_vret hx hb hr hlk dX6_takeTurn_149 hS (by (have e9 : decide (13 < r % 16) = false := decide_eq_false (by omega)); simp only [t_f, t_h, t_v, e9, Bool.false_eq_true, if_false]; rw [show m_tn g r = m_rem g (k_tri r) from (if_neg (by omega)).trans (if_pos (by omega)), show k_tnt tr g r = k_rtr tr g (k_tri r) from (if_neg (by omega)).trans (if_pos (by omega)), show k_tnq qs g r = qs from (if_neg (by omega)).trans (if_pos (by omega))]; exact hP)
  · refine lv_aload_n hx hb dX6_takeTurn_39 rfl (lv_at hl 3 rfl) ?_
    refine lv_iload hx hb dX6_takeTurn_40 (lv_at hl 0 rfl) ?_
    refine ro_V (C := RX4) (n := 1) ⟨hx, hb, hml, hown, hts⟩ hM hS hP (c_canPut l D tc zb a a1 a2 tr qs g (k_tri r) hk hR (by omega)) gX6_takeTurn_X4_canPut rfl (by decide +kernel) ⟨Nat.le_of_ble_eq_true rfl, Nat.le_of_ble_eq_true rfl⟩ [4, 5, 6] rfl (va_recv hM.1 hP (ci := 3) (q0 := 4) rfl rfl) rfl hl.1 rfl (Nat.le_of_ble_eq_true rfl) dX6_takeTurn_42 ⟨Nat.le_refl _, Nat.le_refl _⟩ ?_
    refine ln_if_eqB (tgt := 149) hx hb dX6_takeTurn_45 (by decide) (fun h4 => ?_) (fun h4 => ?_)
    · exact ip_vret hx hb hr hlk dX6_takeTurn_149 hS (by (have e9 : decide (13 < r % 16) = false := decide_eq_false (by omega)); simp only [t_f, t_h, t_v, e9, Bool.false_eq_true, if_false]; (have hna := k_cpn hk (by assumption)); rw [show m_tn g r = g from (if_pos (by omega)).trans (k_af_put hna).1, show k_tnt tr g r = tr from (if_pos (by omega)).trans (k_af_ptr hna), show k_tnq qs g r = qs from if_pos (by omega)]; exact hP)
    · refine lv_aload_n hx hb dX6_takeTurn_48 rfl (lv_at hl 3 rfl) ?_
      refine lv_iload hx hb dX6_takeTurn_49 (lv_at hl 0 rfl) ?_
      refine ip_V (C := RX4) (n := 1) (wl' := [(x0, .inr (5, [o 0, o 1, o 2, o 3, .ref d0, o 5, o 6])), (d0, .inr (0, [.ref d1, .ref d2, .int (v1), .int (v2), .int (v3), .int (v4)])), (d1, .inl (tc 0, 72, .inl fc)), (d2, .inl (tc 0, 12, .inl hc)), (a, .inr (3, [.ref a1, .int (nI ((m_put g (k_tri r)) 0)), .int (nI ((m_put g (k_tri r)) 41)), .int (nI ((m_put g (k_tri r)) 42)), .int (nI ((m_put g (k_tri r)) 43)), .int (nI ((m_put g (k_tri r)) 44)), .int (nI ((m_put g (k_tri r)) 45)), .ref a2, .int (nI ((m_put g (k_tri r)) 46)), .int (nI ((m_put g (k_tri r)) 59))])), (a1, .inl (tc 0, 40, .inl ((k_ptr tr g (k_tri r))))), (a2, .inl (tc 0, 12, .inl qs))]) ⟨hx, hb, hml, hown, hts⟩ hM hS hP hD (c_put l D tc zb a a1 a2 tr qs g (k_tri r) hk hR (by omega)) gX6_takeTurn_X4_put rfl (by decide +kernel) ⟨Nat.le_of_ble_eq_true rfl, Nat.le_of_ble_eq_true rfl⟩ [4, 5, 6] rfl rfl [(false, 0), (false, 1), (false, 2), (false, 3), (true, 0), (true, 1), (true, 2)] rfl rfl rfl (va_recv hM.1 hP (ci := 3) (q0 := 4) rfl rfl) rfl hl.1 rfl (Nat.le_of_ble_eq_true rfl) dX6_takeTurn_51 ⟨Nat.le_refl _, Nat.le_refl _⟩ (fun H locs hP hD hS => ?_)
      refine W.eq (g2 := F0 m 54 ls [.int (nI (k_pv g (k_tri r)))]) rfl ?_
      refine lv_pop hx hb dX6_takeTurn_54 rfl ?_
      refine lv_goto (tgt := 149) hx hb dX6_takeTurn_55 (by decide) ?_
      exact ip_vret hx hb hr hlk dX6_takeTurn_149 hS (by (have e9 : decide (13 < r % 16) = false := decide_eq_false (by omega)); simp only [t_f, t_h, t_v, e9, Bool.false_eq_true, if_false]; rw [show m_tn g r = m_put g (k_tri r) from if_pos (by omega), show k_tnt tr g r = k_ptr tr g (k_tri r) from if_pos (by omega), show k_tnq qs g r = qs from if_pos (by omega)]; exact hP)
