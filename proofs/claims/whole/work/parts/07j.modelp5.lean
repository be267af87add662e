set_option maxHeartbeats 4000000 in
set_option maxRecDepth 100000 in
theorem c7_simulate_ok (l : Launch) (D : va_G) (tc : Nat → ClassId) (zb : Nat) (b b1 b2 b3 b4 b5 b6 : Nat) (th : Int32) (g ga sv : Nat → Nat) (n : Nat) (sl : Nat → Nat) (iz : Nat → Bool) (u : Nat → Nat) (ln : Nat) (x0 : Int64) (mm : Nat) (hk : k_ok g) (hn : n ≤ 14) (hln : ln ≤ 100) (hu : ∀ k, u k < 256) (hm9 : 1 ≤ mm ∧ mm ≤ 99) : IP l yX7_simulate wsX7_simulate 12 278 D tc zb (w_md tc b b1 b2 b3 b4 b5 b6 th g ga sv n sl iz u ln) (w_md tc b b1 b2 b3 b4 b5 b6 (nI 0) ((k_bk g ga (m_sim g x0 mm))) ((k_win g ga 0 0 60)) sv n sl iz u ln) [.ref b, .long (x0), .int (nI mm)] (some (.int (nI (k_smv g (m_sim g x0 mm))))) := by
  refine IP.of (cc := cX7_simulate) (maxL := 9) (ret := (some .int)) (by decide) rfl (Nat.le_of_ble_eq_true rfl) ?_
  intro p e s m args below meth c A hx hb hr hml hlk hts hown hM hS hP hD ls hl
  have hl : lv_has ls 9 [(0, .ref b), (1, .long (x0)), (3, .int (nI mm))] := hl
  have hinX7 : ∀ w ∈ u_ws RX7 TX7 9, w ∈ wsX7_simulate := by decide +kernel
  obtain ⟨ok0, ok1, ok2, ok3, ok4, ok5, ok6⟩ := id hk
  refine lv_aload_n hx hb dX7_simulate_0 rfl (lv_at hl 0 rfl) ?_
  refine lv_iload_n hx hb dX7_simulate_1 rfl (lv_at hl 2 rfl) ?_
  refine lv_i2l (v := ((nI mm)).toInt64) hx hb dX7_simulate_2 rfl ?_
  refine lv_lconst (v := (1 : Int64)) hx hb dX7_simulate_3 rfl ?_
  refine lv_ldc2 (v := (99 : Int64)) hx hb hown (hts (.constantLong RX7 173 (99)) (by decide +kernel)) dX7_simulate_4 ?_
  refine ro_S (n := 3) ⟨hx, hb, hml, hown, hts⟩ hM hS hP (c7_in_ok l D tc zb mm 1 99 (by omega) (by decide)) gX7_simulate_X7_in rfl (by decide +kernel) ⟨Nat.le_of_ble_eq_true rfl, Nat.le_of_ble_eq_true rfl⟩ [] rfl rfl hl.1 rfl (Nat.le_of_ble_eq_true rfl) dX7_simulate_7 ⟨Nat.le_refl _, Nat.le_refl _⟩ ?_
  refine lv_if_eq (tgt := 17) hx hb dX7_simulate_10 (by decide) (fun h9 => False.elim (by revert h9; decide)) (fun _ => ?_)
  refine lv_iconst (v := (nI 0)) hx hb dX7_simulate_13 (by decide) ?_
  refine lv_goto (tgt := 18) hx hb dX7_simulate_14 (by decide) ?_
  refine ip_V (C := RX7) (n := 1) (wl' := [(b, .inr (6, [.int (nI 0), .ref b1, .ref b2, .ref b3, .int (nI n), .ref b4, .ref b5, .ref b6, .int (nI ln)])), (b1, .inl (tc 0, 60, .inl ((fun k => nI (g k))))), (b2, .inl (tc 0, 60, .inl ((fun k => nI (ga k))))), (b3, .inl (tc 0, 840, .inl ((fun k => nI (sv k))))), (b4, .inl (tc 0, 120, .inl ((fun k => nI (sl k))))), (b5, .inl (tc 3, 2, .inl ((fun k => bI (iz k))))), (b6, .inl (tc 2, 100, .inl ((fun k => byI (u k)))))]) ⟨hx, hb, hml, hown, hts⟩ hM hS hP hD (c7_holds0 l D tc zb b ((th)) (fun k9 => match k9 with | 1 => .ref b1 | 2 => .ref b2 | 3 => .ref b3 | 4 => .int (nI n) | 5 => .ref b4 | 6 => .ref b5 | 7 => .ref b6 | 8 => .int (nI ln) | _ => .null)) gX7_simulate_X7_holds rfl (by decide +kernel) ⟨Nat.le_of_ble_eq_true rfl, Nat.le_of_ble_eq_true rfl⟩ [0] rfl rfl [(true, 0), (false, 1), (false, 2), (false, 3), (false, 4), (false, 5), (false, 6)] rfl rfl rfl (va_recv hM.1 hP (ci := 6) (q0 := 0) rfl rfl) rfl hl.1 rfl (Nat.le_of_ble_eq_true rfl) dX7_simulate_18 ⟨Nat.le_refl _, Nat.le_refl _⟩ (fun H locs hP hD hS => ?_)
  refine W.eq (g2 := F0 m 21 ls [.int (bI (true))]) rfl ?_
  refine lv_if_ne (tgt := 26) hx hb dX7_simulate_21 (by decide) (fun _ => ?_) (fun h9 => False.elim (by revert h9; decide))
  refine lv_aload_n hx hb dX7_simulate_26 rfl (lv_at hl 0 rfl) ?_
  refine ip_V (C := RX7) (n := 0) (wl' := [(b, .inr (6, [.int (nI 0), .ref b1, .ref b2, .ref b3, .int (nI n), .ref b4, .ref b5, .ref b6, .int (nI ln)])), (b1, .inl (tc 0, 60, .inl ((fun k => nI (g k))))), (b2, .inl (tc 0, 60, .inl ((fun k => nI ((k_win g ga 0 0 60) k))))), (b3, .inl (tc 0, 840, .inl ((fun k => nI (sv k))))), (b4, .inl (tc 0, 120, .inl ((fun k => nI (sl k))))), (b5, .inl (tc 3, 2, .inl ((fun k => bI (iz k))))), (b6, .inl (tc 2, 100, .inl ((fun k => byI (u k)))))]) ⟨hx, hb, hml, hown, hts⟩ hM hS hP hD (c7_putAside l D tc zb b b1 b2 (fun k9 => match k9 with | 0 => .int (nI 0) | 3 => .ref b3 | 4 => .int (nI n) | 5 => .ref b4 | 6 => .ref b5 | 7 => .ref b6 | 8 => .int (nI ln) | _ => .null) g ga) gX7_simulate_X7_putAside rfl (by decide +kernel) ⟨Nat.le_of_ble_eq_true rfl, Nat.le_of_ble_eq_true rfl⟩ [0, 1, 2] rfl rfl [(true, 0), (true, 1), (true, 2), (false, 3), (false, 4), (false, 5), (false, 6)] rfl rfl rfl (va_recv hM.1 hP (ci := 6) (q0 := 0) rfl rfl) rfl hl.1 rfl (Nat.le_of_ble_eq_true rfl) dX7_simulate_27 ⟨Nat.le_refl _, Nat.le_refl _⟩ (fun H locs hP hD hS => ?_)
  refine W.eq (g2 := F0 m 30 ls []) rfl ?_
  refine lv_lload_n hx hb dX7_simulate_30 rfl (lv_at hl 1 rfl) ?_
  refine lv_lstore (lv' := [(4, .long (x0)), (0, .ref b), (1, .long (x0)), (3, .int (nI mm))]) hx hb dX7_simulate_31 hl (by decide) rfl (fun ls hl => ?_)
  refine lv_aload_n hx hb dX7_simulate_33 rfl (lv_at hl 1 rfl) ?_
  refine va_get (D := D) (ci := 6) (v := .ref b1) (C := RX7) (T := TX7) (N := 9) hx hb hts hinX7 hown hM.1 hP 0 rfl rfl 1 (by decide) (hts (.fieldLink RX7 7 "TripleWaysModel" "s" "[I") (by decide +kernel)) (fun _ h9 => h9) rfl dX7_simulate_34 ?_
  refine lv_bipush (v := (nI 44)) hx hb dX7_simulate_37 (by decide) ?_
  refine ln_iald hx hb hM.1 hP 1 0 rfl rfl dX7_simulate_39 (by decide) (by omega) (rfl) ?_
  refine lv_istore (lv' := [(6, .int (nI (g 44))), (4, .long (x0)), (0, .ref b), (1, .long (x0)), (3, .int (nI mm))]) hx hb dX7_simulate_40 hl (by decide) rfl (fun ls hl => ?_)
  refine lv_iconst (v := (nI 0)) hx hb dX7_simulate_42 (by decide) ?_
  refine lv_istore (lv' := [(7, .int (nI 0)), (6, .int (nI (g 44))), (4, .long (x0)), (0, .ref b), (1, .long (x0)), (3, .int (nI mm))]) hx hb dX7_simulate_43 hl (by decide) rfl (fun ls hl => ?_)
  have lp45 : ∀ (n9 : Nat) (gf : Nat → Nat) (xv : Int64) (j9 : Nat), (mm - j9) < n9 → (j9 ≤ mm) → (gf = m_sim g x0 j9) → (xv = k_xs x0 j9) → (k_ok gf) → ∀ (H : Heap) (locs : List Loc), va_P D vwCl [(b, .inr (6, [.int (nI 0), .ref b1, .ref b2, .ref b3, .int (nI n), .ref b4, .ref b5, .ref b6, .int (nI ln)])), (b1, .inl (tc 0, 60, .inl ((fun k => nI (gf k))))), (b2, .inl (tc 0, 60, .inl ((fun k => nI ((k_win g ga 0 0 60) k))))), (b3, .inl (tc 0, 840, .inl ((fun k => nI (sv k))))), (b4, .inl (tc 0, 120, .inl ((fun k => nI (sl k))))), (b5, .inl (tc 3, 2, .inl ((fun k => bI (iz k))))), (b6, .inl (tc 2, 100, .inl ((fun k => byI (u k)))))] H → va_D A [(b, .inr (6, [.int (nI 0), .ref b1, .ref b2, .ref b3, .int (nI n), .ref b4, .ref b5, .ref b6, .int (nI ln)])), (b1, .inl (tc 0, 60, .inl ((fun k => nI (gf k))))), (b2, .inl (tc 0, 60, .inl ((fun k => nI ((k_win g ga 0 0 60) k))))), (b3, .inl (tc 0, 840, .inl ((fun k => nI (sv k))))), (b4, .inl (tc 0, 120, .inl ((fun k => nI (sl k))))), (b5, .inl (tc 3, 2, .inl ((fun k => bI (iz k))))), (b6, .inl (tc 2, 100, .inl ((fun k => byI (u k)))))] → va_S A s.heap H locs → ∀ ls : Array Slot, lv_has ls 9 [(7, .int (nI j9)), (6, .int (nI (g 44))), (4, .long (xv)), (0, .ref b), (3, .int (nI mm))] → W p l e ({ frames := 12, cells := 0, slots := 0, locals := 278 } : Room) s m args below meth c H locs 0 0 (MQ below (ipQ D A (w_md tc b b1 b2 b3 b4 b5 b6 (nI 0) ((k_bk g ga (m_sim g x0 mm))) ((k_win g ga 0 0 60)) sv n sl iz u ln) (some (.int (nI (k_smv g (m_sim g x0 mm)))))) args s 0 0 A) (F0 m 45 ls []) := by
    intro n9
    induction n9 with
    | zero => intro gf xv j9 hmu; exact absurd hmu (Nat.not_lt_zero _)
    | succ n9 ih45 =>
      intro gf xv j9 hmu hkm hgf hxv hkg H locs hP hD hS ls hl
      have h44 := sim_44 hk x0 j9
      rw [← hgf] at h44
      have hg41 := hkg.2.1
      refine lv_iload hx hb dX7_simulate_45 (lv_at hl 0 rfl) ?_
      refine lv_iload_n hx hb dX7_simulate_47 rfl (lv_at hl 4 rfl) ?_
      refine ln_icmp_ge (tgt := 79) hx hb dX7_simulate_48 (by decide) (by omega) (by omega) (fun h1 => ?_) (fun h1 => ?_)
      · refine lv_aload_n hx hb dX7_simulate_79 rfl (lv_at hl 3 rfl) ?_
        refine va_get (D := D) (ci := 6) (v := .ref b1) (C := RX7) (T := TX7) (N := 9) hx hb hts hinX7 hown hM.1 hP 0 rfl rfl 1 (by decide) (hts (.fieldLink RX7 7 "TripleWaysModel" "s" "[I") (by decide +kernel)) (fun _ h9 => h9) rfl dX7_simulate_80 ?_
        refine lv_bipush (v := (nI 44)) hx hb dX7_simulate_83 (by decide) ?_
        refine ln_iald hx hb hM.1 hP 1 0 rfl rfl dX7_simulate_85 (by decide) (by omega) (rfl) ?_
        refine lv_iload hx hb dX7_simulate_86 (lv_at hl 1 rfl) ?_
        refine ln_isub hx hb dX7_simulate_88 (by omega) ?_
        refine lv_istore (lv' := [(7, .int (nI ((gf 44) - (g 44)))), (6, .int (nI (g 44))), (4, .long (xv)), (0, .ref b), (3, .int (nI mm))]) hx hb dX7_simulate_89 hl (by decide) rfl (fun ls hl => ?_)
        refine lv_aload_n hx hb dX7_simulate_91 rfl (lv_at hl 3 rfl) ?_
        refine va_get (D := D) (ci := 6) (v := .ref b1) (C := RX7) (T := TX7) (N := 9) hx hb hts hinX7 hown hM.1 hP 0 rfl rfl 1 (by decide) (hts (.fieldLink RX7 7 "TripleWaysModel" "s" "[I") (by decide +kernel)) (fun _ h9 => h9) rfl dX7_simulate_92 ?_
        refine lv_bipush (v := (nI 41)) hx hb dX7_simulate_95 (by decide) ?_
        refine ln_iald hx hb hM.1 hP 1 0 rfl rfl dX7_simulate_97 (by decide) (by omega) (rfl) ?_
        refine ro_S (n := 1) ⟨hx, hb, hml, hown, hts⟩ hM hS hP (c7_bitsOf l D tc zb (gf 41) (by omega)) gX7_simulate_X7_bitsOf rfl (by decide +kernel) ⟨Nat.le_of_ble_eq_true rfl, Nat.le_of_ble_eq_true rfl⟩ [] rfl rfl hl.1 rfl (Nat.le_of_ble_eq_true rfl) dX7_simulate_98 ⟨Nat.le_refl _, Nat.le_refl _⟩ ?_
        have hf2 := k_pc_le (gf 41)
        refine lv_istore (lv' := [(8, .int (nI (k_pc (gf 41)))), (7, .int (nI ((gf 44) - (g 44)))), (6, .int (nI (g 44))), (4, .long (xv)), (0, .ref b), (3, .int (nI mm))]) hx hb dX7_simulate_101 hl (by decide) rfl (fun ls hl => ?_)
        refine lv_aload_n hx hb dX7_simulate_103 rfl (lv_at hl 4 rfl) ?_
        refine ip_V (C := RX7) (n := 0) (wl' := [(b, .inr (6, [.int (nI 0), .ref b1, .ref b2, .ref b3, .int (nI n), .ref b4, .ref b5, .ref b6, .int (nI ln)])), (b1, .inl (tc 0, 60, .inl ((fun k => nI ((k_win ((k_win g ga 0 0 60)) gf 0 0 60) k))))), (b2, .inl (tc 0, 60, .inl ((fun k => nI (((k_win g ga 0 0 60)) k))))), (b3, .inl (tc 0, 840, .inl ((fun k => nI (sv k))))), (b4, .inl (tc 0, 120, .inl ((fun k => nI (sl k))))), (b5, .inl (tc 3, 2, .inl ((fun k => bI (iz k))))), (b6, .inl (tc 2, 100, .inl ((fun k => byI (u k)))))]) ⟨hx, hb, hml, hown, hts⟩ hM hS hP hD (c7_putBack l D tc zb b b1 b2 (fun k9 => match k9 with | 0 => .int (nI 0) | 3 => .ref b3 | 4 => .int (nI n) | 5 => .ref b4 | 6 => .ref b5 | 7 => .ref b6 | 8 => .int (nI ln) | _ => .null) gf ((k_win g ga 0 0 60))) gX7_simulate_X7_putBack rfl (by decide +kernel) ⟨Nat.le_of_ble_eq_true rfl, Nat.le_of_ble_eq_true rfl⟩ [0, 1, 2] rfl rfl [(true, 0), (true, 1), (true, 2), (false, 3), (false, 4), (false, 5), (false, 6)] rfl rfl rfl (va_recv hM.1 hP (ci := 6) (q0 := 0) rfl rfl) rfl hl.1 rfl (Nat.le_of_ble_eq_true rfl) dX7_simulate_104 ⟨Nat.le_refl _, Nat.le_refl _⟩ (fun H locs hP hD hS => ?_)
        refine W.eq (g2 := F0 m 107 ls []) rfl ?_
        refine lv_sipush (v := (nI 1000)) hx hb dX7_simulate_107 (by decide) ?_
        refine lv_iload hx hb dX7_simulate_110 (lv_at hl 0 rfl) ?_
        refine ln_imul hx hb dX7_simulate_112 ?_
        refine lv_iload hx hb dX7_simulate_113 (lv_at hl 1 rfl) ?_
        refine lv_sipush (v := (nI 999)) hx hb dX7_simulate_115 (by decide) ?_
        refine ln_icmp_le (tgt := 127) hx hb dX7_simulate_118 (by decide) (by omega) (by decide) (fun h3 => ?_) (fun h3 => ?_)
        · refine lv_iload hx hb dX7_simulate_127 (lv_at hl 1 rfl) ?_
          refine ln_iadd hx hb dX7_simulate_129 ?_
          exact ip_iret hx hb hr hlk dX7_simulate_130 hS (congrArg nI (by (have ek : j9 = mm := by omega); rw [ek] at hgf; rw [← hgf]; unfold k_smv; omega)) (by (have ek : j9 = mm := by omega); rw [ek] at hgf; rw [← hgf]; exact hP)
        · refine lv_sipush (v := (nI 999)) hx hb dX7_simulate_121 (by decide) ?_
          refine lv_goto (tgt := 129) hx hb dX7_simulate_124 (by decide) ?_
          refine ln_iadd hx hb dX7_simulate_129 ?_
          exact ip_iret hx hb hr hlk dX7_simulate_130 hS (congrArg nI (by (have ek : j9 = mm := by omega); rw [ek] at hgf; rw [← hgf]; unfold k_smv; omega)) (by (have ek : j9 = mm := by omega); rw [ek] at hgf; rw [← hgf]; exact hP)
      · refine lv_lload hx hb dX7_simulate_51 (lv_at hl 2 rfl) ?_
        refine lv_ldc2 (v := (6364136223846793005 : Int64)) hx hb hown (hts (.constantLong RX7 211 (6364136223846793005)) (by decide +kernel)) dX7_simulate_53 ?_
        refine ln_eqV (v' := .long c_lm) rfl ?_
        refine lv_lmul hx hb dX7_simulate_56 ?_
        refine lv_ldc2 (v := (1442695040888963407 : Int64)) hx hb hown (hts (.constantLong RX7 213 (1442695040888963407)) (by decide +kernel)) dX7_simulate_57 ?_
        refine ln_eqV (v' := .long c_la) rfl ?_
        refine lv_ladd hx hb dX7_simulate_60 ?_
        refine lv_lstore (lv' := [(4, .long (xv * c_lm + c_la)), (7, .int (nI j9)), (6, .int (nI (g 44))), (0, .ref b), (3, .int (nI mm))]) hx hb dX7_simulate_61 hl (by decide) rfl (fun ls hl => ?_)
        refine lv_aload_n hx hb dX7_simulate_63 rfl (lv_at hl 3 rfl) ?_
        refine lv_lload hx hb dX7_simulate_64 (lv_at hl 0 rfl) ?_
        refine lv_bipush (v := (nI 33)) hx hb dX7_simulate_66 (by decide) ?_
        refine lv_lushr (v := lN (k_rr (xv * c_lm + c_la))) hx hb dX7_simulate_68 (k_rr_ok _) ?_
        refine lv_l2i (v := nI (k_rr (xv * c_lm + c_la))) hx hb dX7_simulate_69 (lN_i _) ?_
        obtain ⟨rr9, hrr9⟩ : ∃ rr9, rr9 = k_rr (xv * c_lm + c_la) := ⟨_, rfl⟩
        have hrl9 : rr9 < 2 ^ 31 := hrr9 ▸ k_rr_lt _
        refine ln_eq (x' := (nI rr9)) (congrArg nI hrr9.symm) ?_
        refine ip_V (C := RX7) (n := 1) (wl' := [(b, .inr (6, [.int (nI 0), .ref b1, .ref b2, .ref b3, .int (nI n), .ref b4, .ref b5, .ref b6, .int (nI ln)])), (b1, .inl (tc 0, 60, .inl ((fun k => nI ((m_tn gf rr9) k))))), (b2, .inl (tc 0, 60, .inl ((fun k => nI ((k_win g ga 0 0 60) k))))), (b3, .inl (tc 0, 840, .inl ((fun k => nI (sv k))))), (b4, .inl (tc 0, 120, .inl ((fun k => nI (sl k))))), (b5, .inl (tc 3, 2, .inl ((fun k => bI (iz k))))), (b6, .inl (tc 2, 100, .inl ((fun k => byI (u k)))))]) ⟨hx, hb, hml, hown, hts⟩ hM hS hP hD (c7_turn l D tc zb b b1 (fun k9 => match k9 with | 0 => .int (nI 0) | 2 => .ref b2 | 3 => .ref b3 | 4 => .int (nI n) | 5 => .ref b4 | 6 => .ref b5 | 7 => .ref b6 | 8 => .int (nI ln) | _ => .null) gf rr9 hkg (by first | omega | exact k_rr_lt _)) gX7_simulate_X7_turn rfl (by decide +kernel) ⟨Nat.le_of_ble_eq_true rfl, Nat.le_of_ble_eq_true rfl⟩ [0, 1] rfl rfl [(true, 0), (true, 1), (false, 2), (false, 3), (false, 4), (false, 5), (false, 6)] rfl rfl rfl (va_recv hM.1 hP (ci := 6) (q0 := 0) rfl rfl) rfl hl.1 rfl (Nat.le_of_ble_eq_true rfl) dX7_simulate_70 ⟨Nat.le_refl _, Nat.le_refl _⟩ (fun H locs hP hD hS => ?_)
        refine W.eq (g2 := F0 m 73 ls []) rfl ?_
        refine lv_iinc (v := (nI (j9 + 1))) (lv' := [(7, .int (nI (j9 + 1))), (4, .long (xv * c_lm + c_la)), (6, .int (nI (g 44))), (0, .ref b), (3, .int (nI mm))]) hx hb dX7_simulate_73 hl (k := 1) rfl (nI_add j9 1) (by decide) rfl (fun ls hl => ?_)
        refine lv_goto (tgt := 45) hx hb dX7_simulate_76 (by decide) ?_
        exact ih45 ((m_tn gf rr9)) (xv * c_lm + c_la) (j9 + 1) (by omega) (by omega) (by rw [m_sim, k_xs_1, ← hgf, ← hxv, ← hrr9]) (by rw [k_xs_1, ← hxv]) (by exact ok_tn hkg _) _ _ hP hD hS _ (lv_sub hl [0, 2, 1, 3, 4] rfl)
  exact lp45 _ g x0 0 (Nat.lt_succ_self _) (by omega) (by rfl) (by rfl) (by exact hk) _ _ hP hD hS _ (lv_sub hl [0, 1, 2, 3, 5] rfl)
