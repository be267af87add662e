set_option maxHeartbeats 4000000 in
set_option maxRecDepth 100000 in
theorem c0_learn (l : Launch) (D : va_G) (tc : Nat → ClassId) (zb : Nat) (d0 d1 d2 : Nat) (fc hc : Nat → Int32) (v1 v2 v3 v4 : Int32) (a a1 a2 : Nat) (tr qs : Nat → Int32) (g : Nat → Nat) (hk : k_ok g) (hR : k_R tr qs g) : IP l yX0_learn wsX0_learn 3 70 D tc zb [(d0, .inr (0, [.ref d1, .ref d2, .int (v1), .int (v2), .int (v3), .int (v4)])), (d1, .inl (tc 0, 72, .inl fc)), (d2, .inl (tc 0, 12, .inl hc)), (a, .inr (3, [.ref a1, .int (nI (g 0)), .int (nI (g 41)), .int (nI (g 42)), .int (nI (g 43)), .int (nI (g 44)), .int (nI (g 45)), .ref a2, .int (nI (g 46)), .int (nI (g 59))])), (a1, .inl (tc 0, 40, .inl tr)), (a2, .inl (tc 0, 12, .inl qs))] ((w_ad tc d0 d1 d2 ((k_lf fc g (6 * g 46))) ((k_lh hc g (g 46))) (g 46) (g 0) (g 41) (k_due g)) ++ w_st tc a a1 a2 tr qs g) [.ref d0, .ref a] none := by
  refine IP.of (cc := cX0_learn) (maxL := 7) (ret := none) (by decide) rfl (Nat.le_of_ble_eq_true rfl) ?_
  intro p e s m args below meth c A hx hb hr hml hlk hts hown hM hS hP hD ls hl
  have hl : lv_has ls 7 [(0, .ref d0), (1, .ref a)] := hl
  have hinX0 : ∀ w ∈ u_ws RX0 TX0 6, w ∈ wsX0_learn := by decide +kernel
  have hinX4 : ∀ w ∈ u_ws RX4 TX4 10, w ∈ wsX0_learn := by decide +kernel
  obtain ⟨ok0, ok1, ok2, ok3, ok4, ok5, ok6⟩ := id hk
  refine lv_aload_n hx hb dX0_learn_0 rfl (lv_at hl 0 rfl) ?_
  refine lv_aload_n hx hb dX0_learn_1 rfl (lv_at hl 1 rfl) ?_
  refine va_getN (D := D) (ci := 3) (v := .int (nI (g 46))) (C := RX4) (T := TX4) (N := 10) hx hb hts hinX4 hown hM.1 hP 3 rfl rfl 8 (by decide) (va_Nw.use rfl (hM.2.2.2.2.2.1 ("TripleWays$Advice", 18, "TripleWays$State", "questionCount", "I") (by decide +kernel))) (fun _ h9 => h9) rfl dX0_learn_2 ?_
  refine va_put (D := D) (ci := 0) (v := .int (nI (g 46))) (ty := .int) (C := RX0) (T := TX0) (N := 6) hx hb hts hinX0 tyX0 tyX0_ok nmX0 hown hM.1 hP hD hS 0 rfl rfl 2 (by decide) (hts (.fieldLink RX0 24 "TripleWays$Advice" "questionCount" "I") (by decide +kernel)) (fun _ h9 => h9) rfl (by decide +kernel) rfl rfl (Nat.le_of_ble_eq_true rfl) dX0_learn_5 (fun H locs hP hD hS => ?_)
  have hP : va_P D vwCl [(d0, .inr (0, [.ref d1, .ref d2, .int (nI (g 46)), .int (v2), .int (v3), .int (v4)])), (d1, .inl (tc 0, 72, .inl fc)), (d2, .inl (tc 0, 12, .inl hc)), (a, .inr (3, [.ref a1, .int (nI (g 0)), .int (nI (g 41)), .int (nI (g 42)), .int (nI (g 43)), .int (nI (g 44)), .int (nI (g 45)), .ref a2, .int (nI (g 46)), .int (nI (g 59))])), (a1, .inl (tc 0, 40, .inl tr)), (a2, .inl (tc 0, 12, .inl qs))] H := hP
  have hD : va_D A [(d0, .inr (0, [.ref d1, .ref d2, .int (nI (g 46)), .int (v2), .int (v3), .int (v4)])), (d1, .inl (tc 0, 72, .inl fc)), (d2, .inl (tc 0, 12, .inl hc)), (a, .inr (3, [.ref a1, .int (nI (g 0)), .int (nI (g 41)), .int (nI (g 42)), .int (nI (g 43)), .int (nI (g 44)), .int (nI (g 45)), .ref a2, .int (nI (g 46)), .int (nI (g 59))])), (a1, .inl (tc 0, 40, .inl tr)), (a2, .inl (tc 0, 12, .inl qs))] := hD
  refine lv_aload_n hx hb dX0_learn_8 rfl (lv_at hl 0 rfl) ?_
  refine lv_aload_n hx hb dX0_learn_9 rfl (lv_at hl 1 rfl) ?_
  refine va_getN (D := D) (ci := 3) (v := .int (nI (g 0))) (C := RX4) (T := TX4) (N := 10) hx hb hts hinX4 hown hM.1 hP 3 rfl rfl 1 (by decide) (va_Nw.use rfl (hM.2.2.2.2.2.1 ("TripleWays$Advice", 25, "TripleWays$State", "size", "I") (by decide +kernel))) (fun _ h9 => h9) rfl dX0_learn_10 ?_
  refine va_put (D := D) (ci := 0) (v := .int (nI (g 0))) (ty := .int) (C := RX0) (T := TX0) (N := 6) hx hb hts hinX0 tyX0 tyX0_ok nmX0 hown hM.1 hP hD hS 0 rfl rfl 3 (by decide) (hts (.fieldLink RX0 28 "TripleWays$Advice" "fullWalk" "I") (by decide +kernel)) (fun _ h9 => h9) rfl (by decide +kernel) rfl rfl (Nat.le_of_ble_eq_true rfl) dX0_learn_13 (fun H locs hP hD hS => ?_)
  have hP : va_P D vwCl [(d0, .inr (0, [.ref d1, .ref d2, .int (nI (g 46)), .int (nI (g 0)), .int (v3), .int (v4)])), (d1, .inl (tc 0, 72, .inl fc)), (d2, .inl (tc 0, 12, .inl hc)), (a, .inr (3, [.ref a1, .int (nI (g 0)), .int (nI (g 41)), .int (nI (g 42)), .int (nI (g 43)), .int (nI (g 44)), .int (nI (g 45)), .ref a2, .int (nI (g 46)), .int (nI (g 59))])), (a1, .inl (tc 0, 40, .inl tr)), (a2, .inl (tc 0, 12, .inl qs))] H := hP
  have hD : va_D A [(d0, .inr (0, [.ref d1, .ref d2, .int (nI (g 46)), .int (nI (g 0)), .int (v3), .int (v4)])), (d1, .inl (tc 0, 72, .inl fc)), (d2, .inl (tc 0, 12, .inl hc)), (a, .inr (3, [.ref a1, .int (nI (g 0)), .int (nI (g 41)), .int (nI (g 42)), .int (nI (g 43)), .int (nI (g 44)), .int (nI (g 45)), .ref a2, .int (nI (g 46)), .int (nI (g 59))])), (a1, .inl (tc 0, 40, .inl tr)), (a2, .inl (tc 0, 12, .inl qs))] := hD
  refine lv_aload_n hx hb dX0_learn_16 rfl (lv_at hl 0 rfl) ?_
  refine lv_aload_n hx hb dX0_learn_17 rfl (lv_at hl 1 rfl) ?_
  refine va_getN (D := D) (ci := 3) (v := .int (nI (g 41))) (C := RX4) (T := TX4) (N := 10) hx hb hts hinX4 hown hM.1 hP 3 rfl rfl 2 (by decide) (va_Nw.use rfl (hM.2.2.2.2.2.1 ("TripleWays$Advice", 31, "TripleWays$State", "kept", "I") (by decide +kernel))) (fun _ h9 => h9) rfl dX0_learn_18 ?_
  refine va_put (D := D) (ci := 0) (v := .int (nI (g 41))) (ty := .int) (C := RX0) (T := TX0) (N := 6) hx hb hts hinX0 tyX0 tyX0_ok nmX0 hown hM.1 hP hD hS 0 rfl rfl 4 (by decide) (hts (.fieldLink RX0 34 "TripleWays$Advice" "kept" "I") (by decide +kernel)) (fun _ h9 => h9) rfl (by decide +kernel) rfl rfl (Nat.le_of_ble_eq_true rfl) dX0_learn_21 (fun H locs hP hD hS => ?_)
  have hP : va_P D vwCl [(d0, .inr (0, [.ref d1, .ref d2, .int (nI (g 46)), .int (nI (g 0)), .int (nI (g 41)), .int (v4)])), (d1, .inl (tc 0, 72, .inl fc)), (d2, .inl (tc 0, 12, .inl hc)), (a, .inr (3, [.ref a1, .int (nI (g 0)), .int (nI (g 41)), .int (nI (g 42)), .int (nI (g 43)), .int (nI (g 44)), .int (nI (g 45)), .ref a2, .int (nI (g 46)), .int (nI (g 59))])), (a1, .inl (tc 0, 40, .inl tr)), (a2, .inl (tc 0, 12, .inl qs))] H := hP
  have hD : va_D A [(d0, .inr (0, [.ref d1, .ref d2, .int (nI (g 46)), .int (nI (g 0)), .int (nI (g 41)), .int (v4)])), (d1, .inl (tc 0, 72, .inl fc)), (d2, .inl (tc 0, 12, .inl hc)), (a, .inr (3, [.ref a1, .int (nI (g 0)), .int (nI (g 41)), .int (nI (g 42)), .int (nI (g 43)), .int (nI (g 44)), .int (nI (g 45)), .ref a2, .int (nI (g 46)), .int (nI (g 59))])), (a1, .inl (tc 0, 40, .inl tr)), (a2, .inl (tc 0, 12, .inl qs))] := hD
  refine lv_aload_n hx hb dX0_learn_24 rfl (lv_at hl 0 rfl) ?_
  refine lv_aload_n hx hb dX0_learn_25 rfl (lv_at hl 1 rfl) ?_
  refine va_getN (D := D) (ci := 3) (v := .int (nI (g 59))) (C := RX4) (T := TX4) (N := 10) hx hb hts hinX4 hown hM.1 hP 3 rfl rfl 9 (by decide) (va_Nw.use rfl (hM.2.2.2.2.2.1 ("TripleWays$Advice", 35, "TripleWays$State", "weight", "I") (by decide +kernel))) (fun _ h9 => h9) rfl dX0_learn_26 ?_
  refine lv_aload_n hx hb dX0_learn_29 rfl (lv_at hl 1 rfl) ?_
  refine ro_V (C := RX4) (n := 0) ⟨hx, hb, hml, hown, hts⟩ hM hS hP (c_look l D tc zb a a1 a2 tr qs g hk hR) gX0_learn_X4_look rfl (by decide +kernel) ⟨Nat.le_of_ble_eq_true rfl, Nat.le_of_ble_eq_true rfl⟩ [3, 4, 5] rfl (va_recv hM.1 hP (ci := 3) (q0 := 3) rfl rfl) rfl hl.1 rfl (Nat.le_of_ble_eq_true rfl) dX0_learn_30 ⟨Nat.le_refl _, Nat.le_refl _⟩ ?_
  have hf1 := k_lk_le (g 0)
  refine lv_iconst (v := (nI 1)) hx hb dX0_learn_33 (by decide) ?_
  refine ln_iadd hx hb dX0_learn_34 ?_
  refine ln_imul hx hb dX0_learn_35 ?_
  refine va_put (D := D) (ci := 0) (v := .int (nI ((g 59) * ((k_lk (g 0)) + 1)))) (ty := .int) (C := RX0) (T := TX0) (N := 6) hx hb hts hinX0 tyX0 tyX0_ok nmX0 hown hM.1 hP hD hS 0 rfl rfl 5 (by decide) (hts (.fieldLink RX0 42 "TripleWays$Advice" "upkeep" "I") (by decide +kernel)) (fun _ h9 => h9) rfl (by decide +kernel) rfl rfl (Nat.le_of_ble_eq_true rfl) dX0_learn_36 (fun H locs hP hD hS => ?_)
  have hP : va_P D vwCl [(d0, .inr (0, [.ref d1, .ref d2, .int (nI (g 46)), .int (nI (g 0)), .int (nI (g 41)), .int (nI ((g 59) * ((k_lk (g 0)) + 1)))])), (d1, .inl (tc 0, 72, .inl fc)), (d2, .inl (tc 0, 12, .inl hc)), (a, .inr (3, [.ref a1, .int (nI (g 0)), .int (nI (g 41)), .int (nI (g 42)), .int (nI (g 43)), .int (nI (g 44)), .int (nI (g 45)), .ref a2, .int (nI (g 46)), .int (nI (g 59))])), (a1, .inl (tc 0, 40, .inl tr)), (a2, .inl (tc 0, 12, .inl qs))] H := hP
  have hD : va_D A [(d0, .inr (0, [.ref d1, .ref d2, .int (nI (g 46)), .int (nI (g 0)), .int (nI (g 41)), .int (nI ((g 59) * ((k_lk (g 0)) + 1)))])), (d1, .inl (tc 0, 72, .inl fc)), (d2, .inl (tc 0, 12, .inl hc)), (a, .inr (3, [.ref a1, .int (nI (g 0)), .int (nI (g 41)), .int (nI (g 42)), .int (nI (g 43)), .int (nI (g 44)), .int (nI (g 45)), .ref a2, .int (nI (g 46)), .int (nI (g 59))])), (a1, .inl (tc 0, 40, .inl tr)), (a2, .inl (tc 0, 12, .inl qs))] := hD
  refine lv_iconst (v := (nI 0)) hx hb dX0_learn_39 (by decide) ?_
  refine lv_istore_n (lv' := [(2, .int (nI 0)), (0, .ref d0), (1, .ref a)]) hx hb dX0_learn_40 rfl hl (by decide) rfl (fun ls hl => ?_)
  refine lv_iconst (v := (nI 0)) hx hb dX0_learn_41 (by decide) ?_
  refine lv_istore_n (lv' := [(3, .int (nI 0)), (2, .int (nI 0)), (0, .ref d0), (1, .ref a)]) hx hb dX0_learn_42 rfl hl (by decide) rfl (fun ls hl => ?_)
  have lp43 : ∀ (n9 : Nat) (ff : Nat → Int32) (hh : Nat → Int32) (pl : Nat) (i : Nat), (g 46 - i) < n9 → (i ≤ g 46) → (pl = 6 * i) → (ff = k_lf fc g pl) → (hh = k_lh hc g i) → ∀ (H : Heap) (locs : List Loc), va_P D vwCl [(d0, .inr (0, [.ref d1, .ref d2, .int (nI (g 46)), .int (nI (g 0)), .int (nI (g 41)), .int (nI ((g 59) * ((k_lk (g 0)) + 1)))])), (d1, .inl (tc 0, 72, .inl ff)), (d2, .inl (tc 0, 12, .inl hh)), (a, .inr (3, [.ref a1, .int (nI (g 0)), .int (nI (g 41)), .int (nI (g 42)), .int (nI (g 43)), .int (nI (g 44)), .int (nI (g 45)), .ref a2, .int (nI (g 46)), .int (nI (g 59))])), (a1, .inl (tc 0, 40, .inl tr)), (a2, .inl (tc 0, 12, .inl qs))] H → va_D A [(d0, .inr (0, [.ref d1, .ref d2, .int (nI (g 46)), .int (nI (g 0)), .int (nI (g 41)), .int (nI ((g 59) * ((k_lk (g 0)) + 1)))])), (d1, .inl (tc 0, 72, .inl ff)), (d2, .inl (tc 0, 12, .inl hh)), (a, .inr (3, [.ref a1, .int (nI (g 0)), .int (nI (g 41)), .int (nI (g 42)), .int (nI (g 43)), .int (nI (g 44)), .int (nI (g 45)), .ref a2, .int (nI (g 46)), .int (nI (g 59))])), (a1, .inl (tc 0, 40, .inl tr)), (a2, .inl (tc 0, 12, .inl qs))] → va_S A s.heap H locs → ∀ ls : Array Slot, lv_has ls 7 [(3, .int (nI i)), (2, .int (nI pl)), (0, .ref d0), (1, .ref a)] → W p l e ({ frames := 3, cells := 0, slots := 0, locals := 70 } : Room) s m args below meth c H locs 0 0 (MQ below (ipQ D A ((w_ad tc d0 d1 d2 ((k_lf fc g (6 * g 46))) ((k_lh hc g (g 46))) (g 46) (g 0) (g 41) (k_due g)) ++ w_st tc a a1 a2 tr qs g) none) args s 0 0 A) (F0 m 43 ls []) := by
    intro n9
    induction n9 with
    | zero => intro ff hh pl i hmu; exact absurd hmu (Nat.not_lt_zero _)
    | succ n9 ih43 =>
      intro ff hh pl i hmu hi hpl hff hhh H locs hP hD hS ls hl
      refine lv_iload_n hx hb dX0_learn_43 rfl (lv_at hl 0 rfl) ?_
      refine lv_aload_n hx hb dX0_learn_44 rfl (lv_at hl 2 rfl) ?_
      refine va_get (D := D) (ci := 0) (v := .int (nI (g 46))) (C := RX0) (T := TX0) (N := 6) hx hb hts hinX0 hown hM.1 hP 0 rfl rfl 2 (by decide) (hts (.fieldLink RX0 24 "TripleWays$Advice" "questionCount" "I") (by decide +kernel)) (fun _ h9 => h9) rfl dX0_learn_45 ?_
      refine ln_icmp_ge (tgt := 149) hx hb dX0_learn_48 (by decide) (by omega) (by omega) (fun h2 => ?_) (fun h2 => ?_)
      · exact ip_vret hx hb hr hlk dX0_learn_149 hS (by (have ei : i = g 46 := by omega); rw [show k_lf fc g (6 * g 46) = ff from by rw [hff, hpl, ei], show k_lh hc g (g 46) = hh from by rw [hhh, ei]]; exact hP)
      · have hx9 := ok5 i (by omega)
        refine lv_iload_n hx hb dX0_learn_51 rfl (lv_at hl 0 rfl) ?_
        refine lv_aload_n hx hb dX0_learn_52 rfl (lv_at hl 2 rfl) ?_
        refine va_get (D := D) (ci := 0) (v := .ref d2) (C := RX0) (T := TX0) (N := 6) hx hb hts hinX0 hown hM.1 hP 0 rfl rfl 1 (by decide) (hts (.fieldLink RX0 15 "TripleWays$Advice" "covers" "[I") (by decide +kernel)) (fun _ h9 => h9) rfl dX0_learn_53 ?_
        refine va_alen hx hb hM.1 hP 2 0 rfl rfl (v := nI 12) rfl dX0_learn_56 ?_
        refine ln_icmp_ge (tgt := 149) hx hb dX0_learn_57 (by decide) (by omega) (by decide) (fun h3 => ?_) (fun h3 => ?_)
        · exfalso; omega
        · refine lv_aload_n hx hb dX0_learn_60 rfl (lv_at hl 3 rfl) ?_
          refine lv_iload_n hx hb dX0_learn_61 rfl (lv_at hl 0 rfl) ?_
          refine ro_V (C := RX4) (n := 1) ⟨hx, hb, hml, hown, hts⟩ hM hS hP (c_questionAt l D tc zb a a1 a2 tr qs g i hk hR (by omega)) gX0_learn_X4_questionAt rfl (by decide +kernel) ⟨Nat.le_of_ble_eq_true rfl, Nat.le_of_ble_eq_true rfl⟩ [3, 4, 5] rfl (va_recv hM.1 hP (ci := 3) (q0 := 3) rfl rfl) rfl hl.1 rfl (Nat.le_of_ble_eq_true rfl) dX0_learn_62 ⟨Nat.le_refl _, Nat.le_refl _⟩ ?_
          have hf4 := hk.2.2.2.2.2.1 i (by omega)
          refine lv_istore (lv' := [(4, .int (nI (g (47 + i)))), (3, .int (nI i)), (2, .int (nI pl)), (0, .ref d0), (1, .ref a)]) hx hb dX0_learn_65 hl (by decide) rfl (fun ls hl => ?_)
          refine lv_iconst (v := (nI 0)) hx hb dX0_learn_67 (by decide) ?_
          refine lv_istore (lv' := [(5, .int (nI 0)), (4, .int (nI (g (47 + i)))), (3, .int (nI i)), (2, .int (nI pl)), (0, .ref d0), (1, .ref a)]) hx hb dX0_learn_68 hl (by decide) rfl (fun ls hl => ?_)
          refine lv_iconst (v := (nI 0)) hx hb dX0_learn_70 (by decide) ?_
          refine lv_istore (lv' := [(6, .int (nI 0)), (5, .int (nI 0)), (4, .int (nI (g (47 + i)))), (3, .int (nI i)), (2, .int (nI pl)), (0, .ref d0), (1, .ref a)]) hx hb dX0_learn_71 hl (by decide) rfl (fun ls hl => ?_)
          have lp73 : ∀ (n9 : Nat) (f2 : Nat → Int32) (p2 : Nat) (cv : Nat) (q : Nat), (6 - q) < n9 → (q ≤ 6) → (p2 = 6 * i + q) → (f2 = k_lf fc g p2) → (cv = k_cov (g (47 + i)) q) → ∀ (H : Heap) (locs : List Loc), va_P D vwCl [(d0, .inr (0, [.ref d1, .ref d2, .int (nI (g 46)), .int (nI (g 0)), .int (nI (g 41)), .int (nI ((g 59) * ((k_lk (g 0)) + 1)))])), (d1, .inl (tc 0, 72, .inl f2)), (d2, .inl (tc 0, 12, .inl hh)), (a, .inr (3, [.ref a1, .int (nI (g 0)), .int (nI (g 41)), .int (nI (g 42)), .int (nI (g 43)), .int (nI (g 44)), .int (nI (g 45)), .ref a2, .int (nI (g 46)), .int (nI (g 59))])), (a1, .inl (tc 0, 40, .inl tr)), (a2, .inl (tc 0, 12, .inl qs))] H → va_D A [(d0, .inr (0, [.ref d1, .ref d2, .int (nI (g 46)), .int (nI (g 0)), .int (nI (g 41)), .int (nI ((g 59) * ((k_lk (g 0)) + 1)))])), (d1, .inl (tc 0, 72, .inl f2)), (d2, .inl (tc 0, 12, .inl hh)), (a, .inr (3, [.ref a1, .int (nI (g 0)), .int (nI (g 41)), .int (nI (g 42)), .int (nI (g 43)), .int (nI (g 44)), .int (nI (g 45)), .ref a2, .int (nI (g 46)), .int (nI (g 59))])), (a1, .inl (tc 0, 40, .inl tr)), (a2, .inl (tc 0, 12, .inl qs))] → va_S A s.heap H locs → ∀ ls : Array Slot, lv_has ls 7 [(6, .int (nI q)), (5, .int (nI cv)), (4, .int (nI (g (47 + i)))), (3, .int (nI i)), (2, .int (nI p2)), (0, .ref d0), (1, .ref a)] → W p l e ({ frames := 3, cells := 0, slots := 0, locals := 70 } : Room) s m args below meth c H locs 0 0 (MQ below (ipQ D A ((w_ad tc d0 d1 d2 ((k_lf fc g (6 * g 46))) ((k_lh hc g (g 46))) (g 46) (g 0) (g 41) (k_due g)) ++ w_st tc a a1 a2 tr qs g) none) args s 0 0 A) (F0 m 73 ls []) := by
            intro n9
            induction n9 with
            | zero => intro f2 p2 cv q hmu; exact absurd hmu (Nat.not_lt_zero _)
            | succ n9 ih73 =>
              intro f2 p2 cv q hmu hq hp2 hf2 hcv H locs hP hD hS ls hl
              refine lv_iload hx hb dX0_learn_73 (lv_at hl 0 rfl) ?_
              refine lv_bipush (v := (nI 6)) hx hb dX0_learn_75 (by decide) ?_
              refine ln_icmp_ge (tgt := 135) hx hb dX0_learn_77 (by decide) (by omega) (by decide) (fun h5 => ?_) (fun h5 => ?_)
              · have hcv6 : cv = k_cov (g (47 + i)) 6 := by (have e6 : q = 6 := by omega); rw [hcv, e6]
                refine lv_aload_n hx hb dX0_learn_135 rfl (lv_at hl 5 rfl) ?_
                refine va_get (D := D) (ci := 0) (v := .ref d2) (C := RX0) (T := TX0) (N := 6) hx hb hts hinX0 hown hM.1 hP 0 rfl rfl 1 (by decide) (hts (.fieldLink RX0 15 "TripleWays$Advice" "covers" "[I") (by decide +kernel)) (fun _ h9 => h9) rfl dX0_learn_136 ?_
                refine lv_iload_n hx hb dX0_learn_139 rfl (lv_at hl 3 rfl) ?_
                refine lv_iload hx hb dX0_learn_140 (lv_at hl 1 rfl) ?_
                refine ln_iast hx hb hM.1 hP hD hS 2 0 rfl rfl dX0_learn_142 (by decide) (by omega) (fun H locs hP hD hS => ?_)
                have hP : va_P D vwCl [(d0, .inr (0, [.ref d1, .ref d2, .int (nI (g 46)), .int (nI (g 0)), .int (nI (g 41)), .int (nI ((g 59) * ((k_lk (g 0)) + 1)))])), (d1, .inl (tc 0, 72, .inl f2)), (d2, .inl (tc 0, 12, .inl (upd hh i ((nI cv))))), (a, .inr (3, [.ref a1, .int (nI (g 0)), .int (nI (g 41)), .int (nI (g 42)), .int (nI (g 43)), .int (nI (g 44)), .int (nI (g 45)), .ref a2, .int (nI (g 46)), .int (nI (g 59))])), (a1, .inl (tc 0, 40, .inl tr)), (a2, .inl (tc 0, 12, .inl qs))] H := hP
                have hD : va_D A [(d0, .inr (0, [.ref d1, .ref d2, .int (nI (g 46)), .int (nI (g 0)), .int (nI (g 41)), .int (nI ((g 59) * ((k_lk (g 0)) + 1)))])), (d1, .inl (tc 0, 72, .inl f2)), (d2, .inl (tc 0, 12, .inl (upd hh i ((nI cv))))), (a, .inr (3, [.ref a1, .int (nI (g 0)), .int (nI (g 41)), .int (nI (g 42)), .int (nI (g 43)), .int (nI (g 44)), .int (nI (g 45)), .ref a2, .int (nI (g 46)), .int (nI (g 59))])), (a1, .inl (tc 0, 40, .inl tr)), (a2, .inl (tc 0, 12, .inl qs))] := hD
                refine lv_iinc (v := (nI (i + 1))) (lv' := [(3, .int (nI (i + 1))), (6, .int (nI q)), (5, .int (nI cv)), (4, .int (nI (g (47 + i)))), (2, .int (nI p2)), (0, .ref d0), (1, .ref a)]) hx hb dX0_learn_143 hl (k := 3) rfl (nI_add i 1) (by decide) rfl (fun ls hl => ?_)
                refine lv_goto (tgt := 43) hx hb dX0_learn_146 (by decide) ?_
                exact ih43 f2 (upd hh i ((nI cv))) p2 (i + 1) (by omega) (by omega) (by omega) (by exact hf2) (by rw [hcv6]; exact k_lh_1 hhh) _ _ hP hD hS _ (lv_sub hl [0, 4, 5, 6] rfl)
              · refine lv_iload_n hx hb dX0_learn_80 rfl (lv_at hl 4 rfl) ?_
                refine lv_aload_n hx hb dX0_learn_81 rfl (lv_at hl 5 rfl) ?_
                refine va_get (D := D) (ci := 0) (v := .ref d1) (C := RX0) (T := TX0) (N := 6) hx hb hts hinX0 hown hM.1 hP 0 rfl rfl 0 (by decide) (hts (.fieldLink RX0 9 "TripleWays$Advice" "costs" "[I") (by decide +kernel)) (fun _ h9 => h9) rfl dX0_learn_82 ?_
                refine va_alen hx hb hM.1 hP 1 0 rfl rfl (v := nI 72) rfl dX0_learn_85 ?_
                refine ln_icmp_ge (tgt := 135) hx hb dX0_learn_86 (by decide) (by omega) (by decide) (fun h6 => ?_) (fun h6 => ?_)
                · exfalso; omega
                · refine lv_aload_n hx hb dX0_learn_89 rfl (lv_at hl 5 rfl) ?_
                  refine va_get (D := D) (ci := 0) (v := .ref d1) (C := RX0) (T := TX0) (N := 6) hx hb hts hinX0 hown hM.1 hP 0 rfl rfl 0 (by decide) (hts (.fieldLink RX0 9 "TripleWays$Advice" "costs" "[I") (by decide +kernel)) (fun _ h9 => h9) rfl dX0_learn_90 ?_
                  refine lv_iload_n hx hb dX0_learn_93 rfl (lv_at hl 4 rfl) ?_
                  refine lv_aload_n hx hb dX0_learn_94 rfl (lv_at hl 6 rfl) ?_
                  refine lv_iload hx hb dX0_learn_95 (lv_at hl 2 rfl) ?_
                  refine lv_iload hx hb dX0_learn_97 (lv_at hl 0 rfl) ?_
                  refine ro_V (C := RX4) (n := 2) ⟨hx, hb, hml, hown, hts⟩ hM hS hP (c_costBy l D tc zb a a1 a2 tr qs g (g (47 + i)) q hk hR (by omega) (by omega)) gX0_learn_X4_costBy rfl (by decide +kernel) ⟨Nat.le_of_ble_eq_true rfl, Nat.le_of_ble_eq_true rfl⟩ [3, 4, 5] rfl (va_recv hM.1 hP (ci := 3) (q0 := 3) rfl rfl) rfl hl.1 rfl (Nat.le_of_ble_eq_true rfl) dX0_learn_99 ⟨Nat.le_refl _, Nat.le_refl _⟩ ?_
                  have hf7 := k_cb_le g (g (47 + i)) q
                  refine ln_iast hx hb hM.1 hP hD hS 1 0 rfl rfl dX0_learn_102 (by decide) (by omega) (fun H locs hP hD hS => ?_)
                  have hP : va_P D vwCl [(d0, .inr (0, [.ref d1, .ref d2, .int (nI (g 46)), .int (nI (g 0)), .int (nI (g 41)), .int (nI ((g 59) * ((k_lk (g 0)) + 1)))])), (d1, .inl (tc 0, 72, .inl (upd f2 p2 ((nI (k_cb g (g (47 + i)) q)))))), (d2, .inl (tc 0, 12, .inl hh)), (a, .inr (3, [.ref a1, .int (nI (g 0)), .int (nI (g 41)), .int (nI (g 42)), .int (nI (g 43)), .int (nI (g 44)), .int (nI (g 45)), .ref a2, .int (nI (g 46)), .int (nI (g 59))])), (a1, .inl (tc 0, 40, .inl tr)), (a2, .inl (tc 0, 12, .inl qs))] H := hP
                  have hD : va_D A [(d0, .inr (0, [.ref d1, .ref d2, .int (nI (g 46)), .int (nI (g 0)), .int (nI (g 41)), .int (nI ((g 59) * ((k_lk (g 0)) + 1)))])), (d1, .inl (tc 0, 72, .inl (upd f2 p2 ((nI (k_cb g (g (47 + i)) q)))))), (d2, .inl (tc 0, 12, .inl hh)), (a, .inr (3, [.ref a1, .int (nI (g 0)), .int (nI (g 41)), .int (nI (g 42)), .int (nI (g 43)), .int (nI (g 44)), .int (nI (g 45)), .ref a2, .int (nI (g 46)), .int (nI (g 59))])), (a1, .inl (tc 0, 40, .inl tr)), (a2, .inl (tc 0, 12, .inl qs))] := hD
                  refine lv_iinc (v := (nI (p2 + 1))) (lv' := [(2, .int (nI (p2 + 1))), (6, .int (nI q)), (5, .int (nI cv)), (4, .int (nI (g (47 + i)))), (3, .int (nI i)), (0, .ref d0), (1, .ref a)]) hx hb dX0_learn_103 hl (k := 4) rfl (nI_add p2 1) (by decide) rfl (fun ls hl => ?_)
                  refine lv_iload hx hb dX0_learn_106 (lv_at hl 2 rfl) ?_
                  refine lv_iload hx hb dX0_learn_108 (lv_at hl 3 rfl) ?_
                  refine lv_iload hx hb dX0_learn_110 (lv_at hl 1 rfl) ?_
                  refine ro_S (n := 2) ⟨hx, hb, hml, hown, hts⟩ hM hS hP (c_reachesAll l D tc zb (g (47 + i)) q (by omega) (by omega)) gX0_learn_X2_reachesAll rfl (by decide +kernel) ⟨Nat.le_of_ble_eq_true rfl, Nat.le_of_ble_eq_true rfl⟩ [] rfl rfl hl.1 rfl (Nat.le_of_ble_eq_true rfl) dX0_learn_112 ⟨Nat.le_refl _, Nat.le_refl _⟩ ?_
                  refine ln_if_eqB (tgt := 125) hx hb dX0_learn_115 (by decide) (fun h8 => ?_) (fun h8 => ?_)
                  · have h8 := of_decide_eq_false h8
                    refine lv_iconst (v := (nI 0)) hx hb dX0_learn_125 (by decide) ?_
                    refine ln_ior hx hb dX0_learn_126 ?_
                    refine lv_istore (lv' := [(5, .int (nI (cv ||| 0))), (2, .int (nI (p2 + 1))), (6, .int (nI q)), (4, .int (nI (g (47 + i)))), (3, .int (nI i)), (0, .ref d0), (1, .ref a)]) hx hb dX0_learn_127 hl (by decide) rfl (fun ls hl => ?_)
                    refine lv_iinc (v := (nI (q + 1))) (lv' := [(6, .int (nI (q + 1))), (5, .int (nI (cv ||| 0))), (2, .int (nI (p2 + 1))), (4, .int (nI (g (47 + i)))), (3, .int (nI i)), (0, .ref d0), (1, .ref a)]) hx hb dX0_learn_129 hl (k := 2) rfl (nI_add q 1) (by decide) rfl (fun ls hl => ?_)
                    refine lv_goto (tgt := 73) hx hb dX0_learn_132 (by decide) ?_
                    exact ih73 (upd f2 p2 ((nI (k_cb g (g (47 + i)) q)))) (p2 + 1) (cv ||| 0) (q + 1) (by omega) (by omega) (by omega) (by exact k_lf_1 (by omega) hf2 hp2) (by first | (rw [k_cov, if_pos (by assumption), ← hcv]; done) | (rw [k_cov, if_neg (by assumption), ← hcv]; done)) _ _ hP hD hS _ (lv_sub hl [0, 1, 3, 4, 2, 5, 6] rfl)
                  · have h8 := of_decide_eq_true h8
                    refine lv_iconst (v := (nI 1)) hx hb dX0_learn_118 (by decide) ?_
                    refine lv_iload hx hb dX0_learn_119 (lv_at hl 1 rfl) ?_
                    refine ln_ishl1 hx hb dX0_learn_121 (by omega) ?_
                    refine lv_goto (tgt := 126) hx hb dX0_learn_122 (by decide) ?_
                    refine ln_ior hx hb dX0_learn_126 ?_
                    refine lv_istore (lv' := [(5, .int (nI (cv ||| (2 ^ q)))), (2, .int (nI (p2 + 1))), (6, .int (nI q)), (4, .int (nI (g (47 + i)))), (3, .int (nI i)), (0, .ref d0), (1, .ref a)]) hx hb dX0_learn_127 hl (by decide) rfl (fun ls hl => ?_)
                    refine lv_iinc (v := (nI (q + 1))) (lv' := [(6, .int (nI (q + 1))), (5, .int (nI (cv ||| (2 ^ q)))), (2, .int (nI (p2 + 1))), (4, .int (nI (g (47 + i)))), (3, .int (nI i)), (0, .ref d0), (1, .ref a)]) hx hb dX0_learn_129 hl (k := 2) rfl (nI_add q 1) (by decide) rfl (fun ls hl => ?_)
                    refine lv_goto (tgt := 73) hx hb dX0_learn_132 (by decide) ?_
                    exact ih73 (upd f2 p2 ((nI (k_cb g (g (47 + i)) q)))) (p2 + 1) (cv ||| (2 ^ q)) (q + 1) (by omega) (by omega) (by omega) (by exact k_lf_1 (by omega) hf2 hp2) (by first | (rw [k_cov, if_pos (by assumption), ← hcv]; done) | (rw [k_cov, if_neg (by assumption), ← hcv]; done)) _ _ hP hD hS _ (lv_sub hl [0, 1, 3, 4, 2, 5, 6] rfl)
          exact lp73 _ ff pl 0 0 (Nat.lt_succ_self _) (by omega) (by omega) (by exact hff) (by rfl) _ _ hP hD hS _ (lv_sub hl [0, 1, 2, 3, 4, 5, 6] rfl)
  exact lp43 _ fc hc 0 0 (Nat.lt_succ_self _) (by omega) (by omega) (by exact (k_lf_0 fc g).symm) (by exact (k_lh_0 hc g).symm) _ _ hP hD hS _ (lv_sub hl [0, 1, 2, 3] rfl)
set_option maxHeartbeats 4000000 in
set_option maxRecDepth 100000 in
theorem c0_costAt (l : Launch) (D : va_G) (tc : Nat → ClassId) (zb : Nat) (d0 d1 d2 : Nat) (fc hc : Nat → Int32) (g : Nat → Nat) (i q : Nat) (hk : k_ok g) (hLa : k_La fc hc g) (hi : i < g 46) (hq : q < 6) : RO l yX0_costAt wsX0_costAt 0 0 D tc zb (w_ad tc d0 d1 d2 fc hc (g 46) (g 0) (g 41) (k_due g)) [.ref d0, .int (nI i), .int (nI q)] (.int (nI (k_cb g (g (47 + i)) q))) := by
  refine RO.of (cc := cX0_costAt) (maxL := 4) (ret := (some .int)) (by decide) rfl (Nat.le_of_ble_eq_true rfl) ?_
  intro p e s m args below meth c hx hb hr hml hlk hts hown hM hS hP ls hl
  have hl : lv_has ls 4 [(0, .ref d0), (1, .int (nI i)), (2, .int (nI q))] := hl
  have hinX0 : ∀ w ∈ u_ws RX0 TX0 6, w ∈ wsX0_costAt := by decide +kernel
  obtain ⟨ok0, ok1, ok2, ok3, ok4, ok5, ok6⟩ := id hk
  have hdu9 := k_due_le hk
  refine lv_bipush (v := (nI 6)) hx hb dX0_costAt_0 (by decide) ?_
  refine lv_iload_n hx hb dX0_costAt_2 rfl (lv_at hl 1 rfl) ?_
  refine ln_imul hx hb dX0_costAt_3 ?_
  refine lv_iload_n hx hb dX0_costAt_4 rfl (lv_at hl 2 rfl) ?_
  refine ln_iadd hx hb dX0_costAt_5 ?_
  refine lv_istore_n (lv' := [(3, .int (nI ((6 * i) + q))), (0, .ref d0), (1, .int (nI i)), (2, .int (nI q))]) hx hb dX0_costAt_6 rfl hl (by decide) rfl (fun ls hl => ?_)
  refine lv_iload_n hx hb dX0_costAt_7 rfl (lv_at hl 0 rfl) ?_
  refine ln_if_lt (tgt := 29) hx hb dX0_costAt_8 (by decide) (by omega) ?_
  refine lv_iload_n hx hb dX0_costAt_11 rfl (lv_at hl 0 rfl) ?_
  refine lv_aload_n hx hb dX0_costAt_12 rfl (lv_at hl 1 rfl) ?_
  refine va_get (D := D) (ci := 0) (v := .ref d1) (C := RX0) (T := TX0) (N := 6) hx hb hts hinX0 hown hM.1 hP 0 rfl rfl 0 (by decide) (hts (.fieldLink RX0 9 "TripleWays$Advice" "costs" "[I") (by decide +kernel)) (fun _ h9 => h9) rfl dX0_costAt_13 ?_
  refine va_alen hx hb hM.1 hP 1 0 rfl rfl (v := nI 72) rfl dX0_costAt_16 ?_
  refine ln_icmp_ge (tgt := 29) hx hb dX0_costAt_17 (by decide) (by omega) (by decide) (fun h1 => ?_) (fun h1 => ?_)
  · exfalso; omega
  · refine lv_aload_n hx hb dX0_costAt_20 rfl (lv_at hl 1 rfl) ?_
    refine va_get (D := D) (ci := 0) (v := .ref d1) (C := RX0) (T := TX0) (N := 6) hx hb hts hinX0 hown hM.1 hP 0 rfl rfl 0 (by decide) (hts (.fieldLink RX0 9 "TripleWays$Advice" "costs" "[I") (by decide +kernel)) (fun _ h9 => h9) rfl dX0_costAt_21 ?_
    refine lv_iload_n hx hb dX0_costAt_24 rfl (lv_at hl 0 rfl) ?_
    refine ln_iald hx hb hM.1 hP 1 0 rfl rfl dX0_costAt_25 (by decide) (by omega) (hLa.1 i q (by omega) (by omega)) ?_
    refine lv_goto (tgt := 33) hx hb dX0_costAt_26 (by decide) ?_
    exact ro_iret hx hb hr hlk dX0_costAt_33 (rfl)
set_option maxHeartbeats 4000000 in
set_option maxRecDepth 100000 in
theorem c0_costWith (l : Launch) (D : va_G) (tc : Nat → ClassId) (zb : Nat) (d0 d1 d2 : Nat) (fc hc : Nat → Int32) (g : Nat → Nat) (set : Nat) (hk : k_ok g) (hLa : k_La fc hc g) (hs : set < 64) : RO l yX0_costWith wsX0_costWith 1 23 D tc zb (w_ad tc d0 d1 d2 fc hc (g 46) (g 0) (g 41) (k_due g)) [.ref d0, .int (nI set)] (.int (nI (k_sum g set))) := by
  refine RO.of (cc := cX0_costWith) (maxL := 6) (ret := (some .int)) (by decide) rfl (Nat.le_of_ble_eq_true rfl) ?_
  intro p e s m args below meth c hx hb hr hml hlk hts hown hM hS hP ls hl
  have hl : lv_has ls 6 [(0, .ref d0), (1, .int (nI set))] := hl
  have hinX0 : ∀ w ∈ u_ws RX0 TX0 6, w ∈ wsX0_costWith := by decide +kernel
  obtain ⟨ok0, ok1, ok2, ok3, ok4, ok5, ok6⟩ := id hk
  have hdu9 := k_due_le hk
  refine lv_iconst (v := (nI 0)) hx hb dX0_costWith_0 (by decide) ?_
  refine lv_istore_n (lv' := [(2, .int (nI 0)), (0, .ref d0), (1, .int (nI set))]) hx hb dX0_costWith_1 rfl hl (by decide) rfl (fun ls hl => ?_)
  refine lv_iconst (v := (nI 0)) hx hb dX0_costWith_2 (by decide) ?_
  refine lv_istore_n (lv' := [(3, .int (nI 0)), (2, .int (nI 0)), (0, .ref d0), (1, .int (nI set))]) hx hb dX0_costWith_3 rfl hl (by decide) rfl (fun ls hl => ?_)
  have lp4 : ∀ (n9 : Nat) (acc : Nat) (i : Nat), (g 46 - i) < n9 → (i ≤ g 46) → (acc = k_sm g set i) → ∀ ls : Array Slot, lv_has ls 6 [(3, .int (nI i)), (2, .int (nI acc)), (0, .ref d0), (1, .int (nI set))] → W p l e ({ frames := 1, cells := 0, slots := 0, locals := 23 } : Room) s m args below meth c s.heap [] 0 0 (MQ below (roQ (.int (nI (k_sum g set)))) args s 0 0 (fun _ => False)) (F0 m 4 ls []) := by
    intro n9
    induction n9 with
    | zero => intro acc i hmu; exact absurd hmu (Nat.not_lt_zero _)
    | succ n9 ih4 =>
      intro acc i hmu hi hv ls hl
      refine lv_iload_n hx hb dX0_costWith_4 rfl (lv_at hl 0 rfl) ?_
      refine lv_aload_n hx hb dX0_costWith_5 rfl (lv_at hl 2 rfl) ?_
      refine va_get (D := D) (ci := 0) (v := .int (nI (g 46))) (C := RX0) (T := TX0) (N := 6) hx hb hts hinX0 hown hM.1 hP 0 rfl rfl 2 (by decide) (hts (.fieldLink RX0 24 "TripleWays$Advice" "questionCount" "I") (by decide +kernel)) (fun _ h9 => h9) rfl dX0_costWith_6 ?_
      refine ln_icmp_ge (tgt := 69) hx hb dX0_costWith_9 (by decide) (by omega) (by omega) (fun h1 => ?_) (fun h1 => ?_)
      · refine lv_iload_n hx hb dX0_costWith_69 rfl (lv_at hl 1 rfl) ?_
        exact ro_iret hx hb hr hlk dX0_costWith_70 (congrArg nI (by have e9 : i = g 46 := (by omega); subst e9; exact hv))
      · refine lv_aload_n hx hb dX0_costWith_12 rfl (lv_at hl 2 rfl) ?_
        refine va_get (D := D) (ci := 0) (v := .int (nI (g 0))) (C := RX0) (T := TX0) (N := 6) hx hb hts hinX0 hown hM.1 hP 0 rfl rfl 3 (by decide) (hts (.fieldLink RX0 28 "TripleWays$Advice" "fullWalk" "I") (by decide +kernel)) (fun _ h9 => h9) rfl dX0_costWith_13 ?_
        refine lv_istore (lv' := [(4, .int (nI (g 0))), (3, .int (nI i)), (2, .int (nI acc)), (0, .ref d0), (1, .int (nI set))]) hx hb dX0_costWith_16 hl (by decide) rfl (fun ls hl => ?_)
        refine lv_iconst (v := (nI 0)) hx hb dX0_costWith_18 (by decide) ?_
        refine lv_istore (lv' := [(5, .int (nI 0)), (4, .int (nI (g 0))), (3, .int (nI i)), (2, .int (nI acc)), (0, .ref d0), (1, .int (nI set))]) hx hb dX0_costWith_19 hl (by decide) rfl (fun ls hl => ?_)
        have lp21 : ∀ (n9 : Nat) (le9 : Nat) (q : Nat), (6 - q) < n9 → (q ≤ 6) → (le9 = k_mn g (g (47 + i)) set q) → (le9 ≤ g 0) → ∀ ls : Array Slot, lv_has ls 6 [(5, .int (nI q)), (4, .int (nI le9)), (3, .int (nI i)), (2, .int (nI acc)), (0, .ref d0), (1, .int (nI set))] → W p l e ({ frames := 1, cells := 0, slots := 0, locals := 23 } : Room) s m args below meth c s.heap [] 0 0 (MQ below (roQ (.int (nI (k_sum g set)))) args s 0 0 (fun _ => False)) (F0 m 21 ls []) := by
          intro n9
          induction n9 with
          | zero => intro le9 q hmu; exact absurd hmu (Nat.not_lt_zero _)
          | succ n9 ih21 =>
            intro le9 q hmu hq hl9 hlb ls hl
            refine lv_iload hx hb dX0_costWith_21 (lv_at hl 0 rfl) ?_
            refine lv_bipush (v := (nI 6)) hx hb dX0_costWith_23 (by decide) ?_
            refine ln_icmp_ge (tgt := 58) hx hb dX0_costWith_25 (by decide) (by omega) (by decide) (fun h2 => ?_) (fun h2 => ?_)
            · have hl6 : le9 = k_mn g (g (47 + i)) set 6 := by (have e6 : q = 6 := by omega); rw [hl9, e6]
              refine lv_iload_n hx hb dX0_costWith_58 rfl (lv_at hl 3 rfl) ?_
              refine lv_iload hx hb dX0_costWith_59 (lv_at hl 1 rfl) ?_
              refine ln_iadd hx hb dX0_costWith_61 ?_
              refine lv_istore_n (lv' := [(2, .int (nI (acc + le9))), (5, .int (nI q)), (4, .int (nI le9)), (3, .int (nI i)), (0, .ref d0), (1, .int (nI set))]) hx hb dX0_costWith_62 rfl hl (by decide) rfl (fun ls hl => ?_)
              refine lv_iinc (v := (nI (i + 1))) (lv' := [(3, .int (nI (i + 1))), (2, .int (nI (acc + le9))), (5, .int (nI q)), (4, .int (nI le9)), (0, .ref d0), (1, .int (nI set))]) hx hb dX0_costWith_63 hl (k := 3) rfl (nI_add i 1) (by decide) rfl (fun ls hl => ?_)
              refine lv_goto (tgt := 4) hx hb dX0_costWith_66 (by decide) ?_
              exact ih4 (acc + le9) (i + 1) (by omega) (by omega) (by rw [k_sm, ← hv, ← hl6]) _ (lv_sub hl [0, 1, 4, 5] rfl)
            · refine lv_iload_n hx hb dX0_costWith_28 rfl (lv_at hl 5 rfl) ?_
              refine lv_iload hx hb dX0_costWith_29 (lv_at hl 0 rfl) ?_
              refine ln_ishr hx hb dX0_costWith_31 (by omega) (by omega) ?_
              refine lv_iconst (v := (nI 1)) hx hb dX0_costWith_32 (by decide) ?_
              refine ln_iand1 hx hb dX0_costWith_33 (Nat.lt_of_le_of_lt (Nat.div_le_self _ _) (by omega)) ?_
              refine lv_iconst (v := (nI 1)) hx hb dX0_costWith_34 (by decide) ?_
              refine ln_icmp_ne (tgt := 52) hx hb dX0_costWith_35 (by decide) (by omega) (by decide) (fun h3 => ?_) (fun h3 => ?_)
              · refine lv_iinc (v := (nI (q + 1))) (lv' := [(5, .int (nI (q + 1))), (4, .int (nI le9)), (3, .int (nI i)), (2, .int (nI acc)), (0, .ref d0), (1, .int (nI set))]) hx hb dX0_costWith_52 hl (k := 0) rfl (nI_add q 1) (by decide) rfl (fun ls hl => ?_)
                refine lv_goto (tgt := 21) hx hb dX0_costWith_55 (by decide) ?_
                exact ih21 le9 (q + 1) (by omega) (by omega) (by first | (rw [k_mn, if_pos (show k_in set q = true from decide_eq_true (by assumption)), ← hl9]; done) | (rw [k_mn, if_neg (show ¬ k_in set q = true from fun h9 => absurd (of_decide_eq_true h9) (by assumption))]; exact hl9)) (by omega) _ (lv_sub hl [0, 1, 2, 3, 4, 5] rfl)
              · refine lv_iload hx hb dX0_costWith_38 (lv_at hl 1 rfl) ?_
                refine lv_aload_n hx hb dX0_costWith_40 rfl (lv_at hl 4 rfl) ?_
                refine lv_iload_n hx hb dX0_costWith_41 rfl (lv_at hl 2 rfl) ?_
                refine lv_iload hx hb dX0_costWith_42 (lv_at hl 0 rfl) ?_
                refine ro_V (C := RX0) (n := 2) ⟨hx, hb, hml, hown, hts⟩ hM hS hP (c0_costAt l D tc zb d0 d1 d2 fc hc g i q (by assumption) (by assumption) (by omega) (by omega)) gX0_costWith_X0_costAt rfl (by decide +kernel) ⟨Nat.le_of_ble_eq_true rfl, Nat.le_of_ble_eq_true rfl⟩ [0, 1, 2] rfl (va_recv hM.1 hP (ci := 0) (q0 := 0) rfl rfl) rfl hl.1 rfl (Nat.le_of_ble_eq_true rfl) dX0_costWith_44 ⟨Nat.le_refl _, Nat.le_refl _⟩ ?_
                have hf4 := k_cb_le g (g (47 + i)) q
                refine va_mmin hx hb (hml.trans hl.1.symm) hown (hts (.methodLink RX0 62 Lib.Math.min.name) (by decide +kernel)) (hts (.static Lib.Math.min.name) (by decide +kernel)) (hts (.initialized "java/lang/Math") (by decide +kernel)) (hts (.code Lib.Math.min.name Lib.Math.min.code 2 (some .int)) (by decide +kernel)) (Nat.le_of_ble_eq_true rfl) (Nat.le_of_ble_eq_true rfl) (Nat.le_refl _) (Nat.le_refl _) dX0_costWith_47 ?_
                refine ln_eq (x' := nI (min le9 (k_cb g (g (47 + i)) q))) (k_min (by omega) (by omega)) ?_
                refine lv_istore (lv' := [(4, .int (nI (min le9 (k_cb g (g (47 + i)) q)))), (5, .int (nI q)), (3, .int (nI i)), (2, .int (nI acc)), (0, .ref d0), (1, .int (nI set))]) hx hb dX0_costWith_50 hl (by decide) rfl (fun ls hl => ?_)
                refine lv_iinc (v := (nI (q + 1))) (lv' := [(5, .int (nI (q + 1))), (4, .int (nI (min le9 (k_cb g (g (47 + i)) q)))), (3, .int (nI i)), (2, .int (nI acc)), (0, .ref d0), (1, .int (nI set))]) hx hb dX0_costWith_52 hl (k := 1) rfl (nI_add q 1) (by decide) rfl (fun ls hl => ?_)
                refine lv_goto (tgt := 21) hx hb dX0_costWith_55 (by decide) ?_
                exact ih21 (min le9 (k_cb g (g (47 + i)) q)) (q + 1) (by omega) (by omega) (by first | (rw [k_mn, if_pos (show k_in set q = true from decide_eq_true (by assumption)), ← hl9]; done) | (rw [k_mn, if_neg (show ¬ k_in set q = true from fun h9 => absurd (of_decide_eq_true h9) (by assumption))]; exact hl9)) (by omega) _ (lv_sub hl [0, 1, 2, 3, 4, 5] rfl)
        exact lp21 _ (g 0) 0 (Nat.lt_succ_self _) (by omega) (by rfl) (by omega) _ (lv_sub hl [0, 1, 2, 3, 4, 5] rfl)
  exact lp4 _ 0 0 (Nat.lt_succ_self _) (by omega) (by rfl) _ (lv_sub hl [0, 1, 2, 3] rfl)
set_option maxHeartbeats 4000000 in
set_option maxRecDepth 100000 in
theorem c0_worth (l : Launch) (D : va_G) (tc : Nat → ClassId) (zb : Nat) (d0 d1 d2 : Nat) (fc hc : Nat → Int32) (g : Nat → Nat) (q : Nat) (hk : k_ok g) (hLa : k_La fc hc g) (hq : q < 6) : RO l yX0_worth wsX0_worth 2 48 D tc zb (w_ad tc d0 d1 d2 fc hc (g 46) (g 0) (g 41) (k_due g)) [.ref d0, .int (nI q)] (.int (zI (k_val g q))) := by
  refine RO.of (cc := cX0_worth) (maxL := 3) (ret := (some .int)) (by decide) rfl (Nat.le_of_ble_eq_true rfl) ?_
  intro p e s m args below meth c hx hb hr hml hlk hts hown hM hS hP ls hl
  have hl : lv_has ls 3 [(0, .ref d0), (1, .int (nI q))] := hl
  have hinX0 : ∀ w ∈ u_ws RX0 TX0 6, w ∈ wsX0_worth := by decide +kernel
  obtain ⟨ok0, ok1, ok2, ok3, ok4, ok5, ok6⟩ := id hk
  have hdu9 := k_due_le hk
  refine lv_iconst (v := (nI 1)) hx hb dX0_worth_0 (by decide) ?_
  refine lv_iload_n hx hb dX0_worth_1 rfl (lv_at hl 1 rfl) ?_
  refine ln_ishl1 hx hb dX0_worth_2 (by omega) ?_
  refine lv_istore_n (lv' := [(2, .int (nI (2 ^ q))), (0, .ref d0), (1, .int (nI q))]) hx hb dX0_worth_3 rfl hl (by decide) rfl (fun ls hl => ?_)
  have hc9 : g 41 &&& (63 ^^^ 2 ^ q) < 64 := k_and64 ok1
  have ho9 : g 41 ||| 2 ^ q < 64 := k_or64 _ ok1 _ hq
  refine lv_aload_n hx hb dX0_worth_4 rfl (lv_at hl 1 rfl) ?_
  refine lv_aload_n hx hb dX0_worth_5 rfl (lv_at hl 1 rfl) ?_
  refine va_get (D := D) (ci := 0) (v := .int (nI (g 41))) (C := RX0) (T := TX0) (N := 6) hx hb hts hinX0 hown hM.1 hP 0 rfl rfl 4 (by decide) (hts (.fieldLink RX0 34 "TripleWays$Advice" "kept" "I") (by decide +kernel)) (fun _ h9 => h9) rfl dX0_worth_6 ?_
  refine lv_iload_n hx hb dX0_worth_9 rfl (lv_at hl 0 rfl) ?_
  refine lv_iconst (v := (-1)) hx hb dX0_worth_10 (by decide) ?_
  refine lv_ixor hx hb dX0_worth_11 ?_
  refine ln_iandn hx hb dX0_worth_12 (by omega) (k_pow64 (by omega)) ?_
  refine ro_V (C := RX0) (n := 1) ⟨hx, hb, hml, hown, hts⟩ hM hS hP (c0_costWith l D tc zb d0 d1 d2 fc hc g ((g 41) &&& (63 ^^^ (2 ^ q))) (by assumption) (by assumption) (by omega)) gX0_worth_X0_costWith rfl (by decide +kernel) ⟨Nat.le_of_ble_eq_true rfl, Nat.le_of_ble_eq_true rfl⟩ [0, 1, 2] rfl (va_recv hM.1 hP (ci := 0) (q0 := 0) rfl rfl) rfl hl.1 rfl (Nat.le_of_ble_eq_true rfl) dX0_worth_13 ⟨Nat.le_refl _, Nat.le_refl _⟩ ?_
  have hf1 := show k_sum g ((g 41) &&& (63 ^^^ (2 ^ q))) ≤ 480 from k_sum_le hk
  refine lv_aload_n hx hb dX0_worth_16 rfl (lv_at hl 1 rfl) ?_
  refine lv_aload_n hx hb dX0_worth_17 rfl (lv_at hl 1 rfl) ?_
  refine va_get (D := D) (ci := 0) (v := .int (nI (g 41))) (C := RX0) (T := TX0) (N := 6) hx hb hts hinX0 hown hM.1 hP 0 rfl rfl 4 (by decide) (hts (.fieldLink RX0 34 "TripleWays$Advice" "kept" "I") (by decide +kernel)) (fun _ h9 => h9) rfl dX0_worth_18 ?_
  refine lv_iload_n hx hb dX0_worth_21 rfl (lv_at hl 0 rfl) ?_
  refine ln_ior hx hb dX0_worth_22 ?_
  refine ro_V (C := RX0) (n := 1) ⟨hx, hb, hml, hown, hts⟩ hM hS hP (c0_costWith l D tc zb d0 d1 d2 fc hc g ((g 41) ||| (2 ^ q)) (by assumption) (by assumption) (by omega)) gX0_worth_X0_costWith rfl (by decide +kernel) ⟨Nat.le_of_ble_eq_true rfl, Nat.le_of_ble_eq_true rfl⟩ [0, 1, 2] rfl (va_recv hM.1 hP (ci := 0) (q0 := 0) rfl rfl) rfl hl.1 rfl (Nat.le_of_ble_eq_true rfl) dX0_worth_23 ⟨Nat.le_refl _, Nat.le_refl _⟩ ?_
  have hf2 := show k_sum g ((g 41) ||| (2 ^ q)) ≤ 480 from k_sum_le hk
  refine ln_isubZ hx hb dX0_worth_26 ?_
  refine lv_aload_n hx hb dX0_worth_27 rfl (lv_at hl 1 rfl) ?_
  refine va_get (D := D) (ci := 0) (v := .int (nI (k_due g))) (C := RX0) (T := TX0) (N := 6) hx hb hts hinX0 hown hM.1 hP 0 rfl rfl 5 (by decide) (hts (.fieldLink RX0 42 "TripleWays$Advice" "upkeep" "I") (by decide +kernel)) (fun _ h9 => h9) rfl dX0_worth_28 ?_
  refine ln_isubZN hx hb dX0_worth_31 ?_
  exact ro_iret hx hb hr hlk dX0_worth_32 (by rfl)
set_option maxHeartbeats 4000000 in
set_option maxRecDepth 100000 in
theorem c0_orderToBuild (l : Launch) (D : va_G) (tc : Nat → ClassId) (zb : Nat) (d0 d1 d2 : Nat) (fc hc : Nat → Int32) (g : Nat → Nat) (hk : k_ok g) (hLa : k_La fc hc g) : RO l yX0_orderToBuild wsX0_orderToBuild 3 70 D tc zb (w_ad tc d0 d1 d2 fc hc (g 46) (g 0) (g 41) (k_due g)) [.ref d0] (.int (oI (k_go g 6))) := by
  refine RO.of (cc := cX0_orderToBuild) (maxL := 5) (ret := (some .int)) (by decide) rfl (Nat.le_of_ble_eq_true rfl) ?_
  intro p e s m args below meth c hx hb hr hml hlk hts hown hM hS hP ls hl
  have hl : lv_has ls 5 [(0, .ref d0)] := hl
  have hinX0 : ∀ w ∈ u_ws RX0 TX0 6, w ∈ wsX0_orderToBuild := by decide +kernel
  obtain ⟨ok0, ok1, ok2, ok3, ok4, ok5, ok6⟩ := id hk
  have hdu9 := k_due_le hk
  refine lv_iconst (v := (-1)) hx hb dX0_orderToBuild_0 (by decide) ?_
  refine lv_istore_n (lv' := [(1, .int (-1)), (0, .ref d0)]) hx hb dX0_orderToBuild_1 rfl hl (by decide) rfl (fun ls hl => ?_)
  refine lv_iconst (v := (nI 0)) hx hb dX0_orderToBuild_2 (by decide) ?_
  refine lv_istore_n (lv' := [(2, .int (nI 0)), (1, .int (-1)), (0, .ref d0)]) hx hb dX0_orderToBuild_3 rfl hl (by decide) rfl (fun ls hl => ?_)
  refine lv_iconst (v := (nI 0)) hx hb dX0_orderToBuild_4 (by decide) ?_
  refine lv_istore_n (lv' := [(3, .int (nI 0)), (2, .int (nI 0)), (1, .int (-1)), (0, .ref d0)]) hx hb dX0_orderToBuild_5 rfl hl (by decide) rfl (fun ls hl => ?_)
  have lp6 : ∀ (n9 : Nat) (bo : Option Nat) (z : Int) (i : Nat), (6 - i) < n9 → (i ≤ 6) → (z = k_gt g i) → (-2000 < z ∧ z < 2000 ∧ 0 ≤ z) → (bo = k_go g i) → ∀ ls : Array Slot, lv_has ls 5 [(3, .int (nI i)), (2, .int (zI (z))), (1, .int (oI (bo))), (0, .ref d0)] → W p l e ({ frames := 3, cells := 0, slots := 0, locals := 70 } : Room) s m args below meth c s.heap [] 0 0 (MQ below (roQ (.int (oI (k_go g 6)))) args s 0 0 (fun _ => False)) (F0 m 6 ls []) := by
    intro n9
    induction n9 with
    | zero => intro bo z i hmu; exact absurd hmu (Nat.not_lt_zero _)
    | succ n9 ih6 =>
      intro bo z i hmu hi hz hzb hb9 ls hl
      have hp9 : 2 ^ i ≤ 2 ^ 6 := Nat.pow_le_pow_right (by decide) hi
      refine lv_iload_n hx hb dX0_orderToBuild_6 rfl (lv_at hl 0 rfl) ?_
      refine lv_bipush (v := (nI 6)) hx hb dX0_orderToBuild_7 (by decide) ?_
      refine ln_icmp_ge (tgt := 51) hx hb dX0_orderToBuild_9 (by decide) (by omega) (by decide) (fun h1 => ?_) (fun h1 => ?_)
      · refine lv_iload_n hx hb dX0_orderToBuild_51 rfl (lv_at hl 2 rfl) ?_
        exact ro_iret hx hb hr hlk dX0_orderToBuild_52 (congrArg oI (by have e9 : i = 6 := (by omega); subst e9; exact hb9))
      · refine lv_aload_n hx hb dX0_orderToBuild_12 rfl (lv_at hl 3 rfl) ?_
        refine va_get (D := D) (ci := 0) (v := .int (nI (g 41))) (C := RX0) (T := TX0) (N := 6) hx hb hts hinX0 hown hM.1 hP 0 rfl rfl 4 (by decide) (hts (.fieldLink RX0 34 "TripleWays$Advice" "kept" "I") (by decide +kernel)) (fun _ h9 => h9) rfl dX0_orderToBuild_13 ?_
        refine lv_iload_n hx hb dX0_orderToBuild_16 rfl (lv_at hl 0 rfl) ?_
        refine ln_ishr hx hb dX0_orderToBuild_17 (by omega) (by omega) ?_
        refine lv_iconst (v := (nI 1)) hx hb dX0_orderToBuild_18 (by decide) ?_
        refine ln_iand1 hx hb dX0_orderToBuild_19 (Nat.lt_of_le_of_lt (Nat.div_le_self _ _) (by omega)) ?_
        refine ln_if_ne (tgt := 31) hx hb dX0_orderToBuild_20 (by decide) (by omega) (fun h2 => ?_) (fun h2 => ?_)
        · have hin9 : k_in (g 41) i = true := decide_eq_true (by omega)
          refine lv_iconst (v := (nI 0)) hx hb dX0_orderToBuild_31 (by decide) ?_
          refine lv_istore (lv' := [(4, .int (nI 0)), (3, .int (nI i)), (2, .int (zI (z))), (1, .int (oI (bo))), (0, .ref d0)]) hx hb dX0_orderToBuild_32 hl (by decide) rfl (fun ls hl => ?_)
          refine lv_iload hx hb dX0_orderToBuild_34 (lv_at hl 0 rfl) ?_
          refine lv_iload_n hx hb dX0_orderToBuild_36 rfl (lv_at hl 2 rfl) ?_
          refine ln_icmp_leZ (x := ((0 : Nat) : Int)) (y := z) (tgt := 45) hx hb dX0_orderToBuild_37 (by decide) (zI_nat _) rfl (by omega) (by omega) (by omega) (by omega) (fun h3 => ?_) (fun h3 => ?_)
          · refine lv_iinc (v := (nI (i + 1))) (lv' := [(3, .int (nI (i + 1))), (4, .int (nI 0)), (2, .int (zI (z))), (1, .int (oI (bo))), (0, .ref d0)]) hx hb dX0_orderToBuild_45 hl (k := 1) rfl (nI_add i 1) (by decide) rfl (fun ls hl => ?_)
            refine lv_goto (tgt := 6) hx hb dX0_orderToBuild_48 (by decide) ?_
            exact ih6 bo z (i + 1) (by omega) (by omega) (by rw [k_gt, ← hz]; split <;> rename_i h9 <;> first | rfl | (exfalso; first | omega | (have h8 := h9.1; rw [hin9] at h8; cases h8; done) | exact h9 ⟨hin9, by omega⟩)) (by omega) (by rw [k_go, ← hz, ← hb9]; split <;> rename_i h9 <;> first | rfl | (exfalso; first | omega | (have h8 := h9.1; rw [hin9] at h8; cases h8; done) | exact h9 ⟨hin9, by omega⟩)) _ (lv_sub hl [0, 2, 3, 4] rfl)
          · refine lv_iload hx hb dX0_orderToBuild_40 (lv_at hl 0 rfl) ?_
            refine lv_istore_n (lv' := [(2, .int (nI 0)), (4, .int (nI 0)), (3, .int (nI i)), (1, .int (oI (bo))), (0, .ref d0)]) hx hb dX0_orderToBuild_42 rfl hl (by decide) rfl (fun ls hl => ?_)
            refine lv_iload_n hx hb dX0_orderToBuild_43 rfl (lv_at hl 2 rfl) ?_
            refine lv_istore_n (lv' := [(1, .int (nI i)), (2, .int (nI 0)), (4, .int (nI 0)), (3, .int (nI i)), (0, .ref d0)]) hx hb dX0_orderToBuild_44 rfl hl (by decide) rfl (fun ls hl => ?_)
            refine lv_iinc (v := (nI (i + 1))) (lv' := [(3, .int (nI (i + 1))), (1, .int (nI i)), (2, .int (nI 0)), (4, .int (nI 0)), (0, .ref d0)]) hx hb dX0_orderToBuild_45 hl (k := 3) rfl (nI_add i 1) (by decide) rfl (fun ls hl => ?_)
            refine lv_goto (tgt := 6) hx hb dX0_orderToBuild_48 (by decide) ?_
            exact ih6 (some i) 0 (i + 1) (by omega) (by omega) (by rw [k_gt, ← hz]; split <;> rename_i h9 <;> first | rfl | (exfalso; first | omega | (have h8 := h9.1; rw [hin9] at h8; cases h8; done) | exact h9 ⟨hin9, by omega⟩)) (by omega) (by rw [k_go, ← hz, ← hb9]; split <;> rename_i h9 <;> first | rfl | (exfalso; first | omega | (have h8 := h9.1; rw [hin9] at h8; cases h8; done) | exact h9 ⟨hin9, by omega⟩)) _ (lv_sub hl [0, 2, 1, 4] rfl)
        · have hin9 : k_in (g 41) i = false := decide_eq_false (by omega)
          refine lv_aload_n hx hb dX0_orderToBuild_23 rfl (lv_at hl 3 rfl) ?_
          refine lv_iload_n hx hb dX0_orderToBuild_24 rfl (lv_at hl 0 rfl) ?_
          refine ro_V (C := RX0) (n := 1) ⟨hx, hb, hml, hown, hts⟩ hM hS hP (c0_worth l D tc zb d0 d1 d2 fc hc g i (by assumption) (by assumption) (by omega)) gX0_orderToBuild_X0_worth rfl (by decide +kernel) ⟨Nat.le_of_ble_eq_true rfl, Nat.le_of_ble_eq_true rfl⟩ [0, 1, 2] rfl (va_recv hM.1 hP (ci := 0) (q0 := 0) rfl rfl) rfl hl.1 rfl (Nat.le_of_ble_eq_true rfl) dX0_orderToBuild_25 ⟨Nat.le_refl _, Nat.le_refl _⟩ ?_
          have hf4 := k_val_bd hk i
          refine lv_goto (tgt := 32) hx hb dX0_orderToBuild_28 (by decide) ?_
          refine lv_istore (lv' := [(4, .int (zI (k_val g i))), (3, .int (nI i)), (2, .int (zI (z))), (1, .int (oI (bo))), (0, .ref d0)]) hx hb dX0_orderToBuild_32 hl (by decide) rfl (fun ls hl => ?_)
          refine lv_iload hx hb dX0_orderToBuild_34 (lv_at hl 0 rfl) ?_
          refine lv_iload_n hx hb dX0_orderToBuild_36 rfl (lv_at hl 2 rfl) ?_
          refine ln_icmp_leZ (x := (k_val g i)) (y := z) (tgt := 45) hx hb dX0_orderToBuild_37 (by decide) rfl rfl (by omega) (by omega) (by omega) (by omega) (fun h5 => ?_) (fun h5 => ?_)
          · refine lv_iinc (v := (nI (i + 1))) (lv' := [(3, .int (nI (i + 1))), (4, .int (zI (k_val g i))), (2, .int (zI (z))), (1, .int (oI (bo))), (0, .ref d0)]) hx hb dX0_orderToBuild_45 hl (k := 1) rfl (nI_add i 1) (by decide) rfl (fun ls hl => ?_)
            refine lv_goto (tgt := 6) hx hb dX0_orderToBuild_48 (by decide) ?_
            exact ih6 bo z (i + 1) (by omega) (by omega) (by rw [k_gt, ← hz]; split <;> rename_i h9 <;> first | rfl | (exfalso; first | omega | (have h8 := h9.1; rw [hin9] at h8; cases h8; done) | exact h9 ⟨hin9, by omega⟩)) (by omega) (by rw [k_go, ← hz, ← hb9]; split <;> rename_i h9 <;> first | rfl | (exfalso; first | omega | (have h8 := h9.1; rw [hin9] at h8; cases h8; done) | exact h9 ⟨hin9, by omega⟩)) _ (lv_sub hl [0, 2, 3, 4] rfl)
          · refine lv_iload hx hb dX0_orderToBuild_40 (lv_at hl 0 rfl) ?_
            refine lv_istore_n (lv' := [(2, .int (zI (k_val g i))), (4, .int (zI (k_val g i))), (3, .int (nI i)), (1, .int (oI (bo))), (0, .ref d0)]) hx hb dX0_orderToBuild_42 rfl hl (by decide) rfl (fun ls hl => ?_)
            refine lv_iload_n hx hb dX0_orderToBuild_43 rfl (lv_at hl 2 rfl) ?_
            refine lv_istore_n (lv' := [(1, .int (nI i)), (2, .int (zI (k_val g i))), (4, .int (zI (k_val g i))), (3, .int (nI i)), (0, .ref d0)]) hx hb dX0_orderToBuild_44 rfl hl (by decide) rfl (fun ls hl => ?_)
            refine lv_iinc (v := (nI (i + 1))) (lv' := [(3, .int (nI (i + 1))), (1, .int (nI i)), (2, .int (zI (k_val g i))), (4, .int (zI (k_val g i))), (0, .ref d0)]) hx hb dX0_orderToBuild_45 hl (k := 3) rfl (nI_add i 1) (by decide) rfl (fun ls hl => ?_)
            refine lv_goto (tgt := 6) hx hb dX0_orderToBuild_48 (by decide) ?_
            exact ih6 (some i) (k_val g i) (i + 1) (by omega) (by omega) (by rw [k_gt, ← hz]; split <;> rename_i h9 <;> first | rfl | (exfalso; first | omega | (have h8 := h9.1; rw [hin9] at h8; cases h8; done) | exact h9 ⟨hin9, by omega⟩)) (by omega) (by rw [k_go, ← hz, ← hb9]; split <;> rename_i h9 <;> first | rfl | (exfalso; first | omega | (have h8 := h9.1; rw [hin9] at h8; cases h8; done) | exact h9 ⟨hin9, by omega⟩)) _ (lv_sub hl [0, 2, 1, 4] rfl)
  exact lp6 _ none 0 0 (Nat.lt_succ_self _) (by omega) (by rfl) (by omega) (by rfl) _ (lv_sub hl [0, 1, 2, 3] rfl)
set_option maxHeartbeats 4000000 in
set_option maxRecDepth 100000 in
theorem c0_orderToDrop (l : Launch) (D : va_G) (tc : Nat → ClassId) (zb : Nat) (d0 d1 d2 : Nat) (fc hc : Nat → Int32) (g : Nat → Nat) (hk : k_ok g) (hLa : k_La fc hc g) : RO l yX0_orderToDrop wsX0_orderToDrop 3 70 D tc zb (w_ad tc d0 d1 d2 fc hc (g 46) (g 0) (g 41) (k_due g)) [.ref d0] (.int (oI (k_lo g 6))) := by
  refine RO.of (cc := cX0_orderToDrop) (maxL := 5) (ret := (some .int)) (by decide) rfl (Nat.le_of_ble_eq_true rfl) ?_
  intro p e s m args below meth c hx hb hr hml hlk hts hown hM hS hP ls hl
  have hl : lv_has ls 5 [(0, .ref d0)] := hl
  have hinX0 : ∀ w ∈ u_ws RX0 TX0 6, w ∈ wsX0_orderToDrop := by decide +kernel
  obtain ⟨ok0, ok1, ok2, ok3, ok4, ok5, ok6⟩ := id hk
  have hdu9 := k_due_le hk
  refine lv_iconst (v := (-1)) hx hb dX0_orderToDrop_0 (by decide) ?_
  refine lv_istore_n (lv' := [(1, .int (-1)), (0, .ref d0)]) hx hb dX0_orderToDrop_1 rfl hl (by decide) rfl (fun ls hl => ?_)
  refine lv_iconst (v := (nI 0)) hx hb dX0_orderToDrop_2 (by decide) ?_
  refine lv_istore_n (lv' := [(2, .int (nI 0)), (1, .int (-1)), (0, .ref d0)]) hx hb dX0_orderToDrop_3 rfl hl (by decide) rfl (fun ls hl => ?_)
  refine lv_iconst (v := (nI 0)) hx hb dX0_orderToDrop_4 (by decide) ?_
  refine lv_istore_n (lv' := [(3, .int (nI 0)), (2, .int (nI 0)), (1, .int (-1)), (0, .ref d0)]) hx hb dX0_orderToDrop_5 rfl hl (by decide) rfl (fun ls hl => ?_)
  have lp6 : ∀ (n9 : Nat) (bo : Option Nat) (z : Int) (i : Nat), (6 - i) < n9 → (i ≤ 6) → (z = k_ls g i) → (-2000 < z ∧ z < 2000 ∧ z ≤ 0) → (bo = k_lo g i) → ∀ ls : Array Slot, lv_has ls 5 [(3, .int (nI i)), (2, .int (zI (z))), (1, .int (oI (bo))), (0, .ref d0)] → W p l e ({ frames := 3, cells := 0, slots := 0, locals := 70 } : Room) s m args below meth c s.heap [] 0 0 (MQ below (roQ (.int (oI (k_lo g 6)))) args s 0 0 (fun _ => False)) (F0 m 6 ls []) := by
    intro n9
    induction n9 with
    | zero => intro bo z i hmu; exact absurd hmu (Nat.not_lt_zero _)
    | succ n9 ih6 =>
      intro bo z i hmu hi hz hzb hb9 ls hl
      have hp9 : 2 ^ i ≤ 2 ^ 6 := Nat.pow_le_pow_right (by decide) hi
      refine lv_iload_n hx hb dX0_orderToDrop_6 rfl (lv_at hl 0 rfl) ?_
      refine lv_bipush (v := (nI 6)) hx hb dX0_orderToDrop_7 (by decide) ?_
      refine ln_icmp_ge (tgt := 52) hx hb dX0_orderToDrop_9 (by decide) (by omega) (by decide) (fun h1 => ?_) (fun h1 => ?_)
      · refine lv_iload_n hx hb dX0_orderToDrop_52 rfl (lv_at hl 2 rfl) ?_
        exact ro_iret hx hb hr hlk dX0_orderToDrop_53 (congrArg oI (by have e9 : i = 6 := (by omega); subst e9; exact hb9))
      · refine lv_aload_n hx hb dX0_orderToDrop_12 rfl (lv_at hl 3 rfl) ?_
        refine va_get (D := D) (ci := 0) (v := .int (nI (g 41))) (C := RX0) (T := TX0) (N := 6) hx hb hts hinX0 hown hM.1 hP 0 rfl rfl 4 (by decide) (hts (.fieldLink RX0 34 "TripleWays$Advice" "kept" "I") (by decide +kernel)) (fun _ h9 => h9) rfl dX0_orderToDrop_13 ?_
        refine lv_iload_n hx hb dX0_orderToDrop_16 rfl (lv_at hl 0 rfl) ?_
        refine ln_ishr hx hb dX0_orderToDrop_17 (by omega) (by omega) ?_
        refine lv_iconst (v := (nI 1)) hx hb dX0_orderToDrop_18 (by decide) ?_
        refine ln_iand1 hx hb dX0_orderToDrop_19 (Nat.lt_of_le_of_lt (Nat.div_le_self _ _) (by omega)) ?_
        refine lv_iconst (v := (nI 1)) hx hb dX0_orderToDrop_20 (by decide) ?_
        refine ln_icmp_ne (tgt := 32) hx hb dX0_orderToDrop_21 (by decide) (by omega) (by decide) (fun h2 => ?_) (fun h2 => ?_)
        · have hin9 : k_in (g 41) i = false := decide_eq_false (by omega)
          refine lv_iconst (v := (nI 0)) hx hb dX0_orderToDrop_32 (by decide) ?_
          refine lv_istore (lv' := [(4, .int (nI 0)), (3, .int (nI i)), (2, .int (zI (z))), (1, .int (oI (bo))), (0, .ref d0)]) hx hb dX0_orderToDrop_33 hl (by decide) rfl (fun ls hl => ?_)
          refine lv_iload hx hb dX0_orderToDrop_35 (lv_at hl 0 rfl) ?_
          refine lv_iload_n hx hb dX0_orderToDrop_37 rfl (lv_at hl 2 rfl) ?_
          refine ln_icmp_geZ (x := ((0 : Nat) : Int)) (y := z) (tgt := 46) hx hb dX0_orderToDrop_38 (by decide) (zI_nat _) rfl (by omega) (by omega) (by omega) (by omega) (fun h3 => ?_) (fun h3 => ?_)
          · refine lv_iinc (v := (nI (i + 1))) (lv' := [(3, .int (nI (i + 1))), (4, .int (nI 0)), (2, .int (zI (z))), (1, .int (oI (bo))), (0, .ref d0)]) hx hb dX0_orderToDrop_46 hl (k := 1) rfl (nI_add i 1) (by decide) rfl (fun ls hl => ?_)
            refine lv_goto (tgt := 6) hx hb dX0_orderToDrop_49 (by decide) ?_
            exact ih6 bo z (i + 1) (by omega) (by omega) (by rw [k_ls, ← hz]; split <;> rename_i h9 <;> first | rfl | (exfalso; first | omega | (have h8 := h9.1; rw [hin9] at h8; cases h8; done) | exact h9 ⟨hin9, by omega⟩)) (by omega) (by rw [k_lo, ← hz, ← hb9]; split <;> rename_i h9 <;> first | rfl | (exfalso; first | omega | (have h8 := h9.1; rw [hin9] at h8; cases h8; done) | exact h9 ⟨hin9, by omega⟩)) _ (lv_sub hl [0, 2, 3, 4] rfl)
          · refine lv_iload hx hb dX0_orderToDrop_41 (lv_at hl 0 rfl) ?_
            refine lv_istore_n (lv' := [(2, .int (nI 0)), (4, .int (nI 0)), (3, .int (nI i)), (1, .int (oI (bo))), (0, .ref d0)]) hx hb dX0_orderToDrop_43 rfl hl (by decide) rfl (fun ls hl => ?_)
            refine lv_iload_n hx hb dX0_orderToDrop_44 rfl (lv_at hl 2 rfl) ?_
            refine lv_istore_n (lv' := [(1, .int (nI i)), (2, .int (nI 0)), (4, .int (nI 0)), (3, .int (nI i)), (0, .ref d0)]) hx hb dX0_orderToDrop_45 rfl hl (by decide) rfl (fun ls hl => ?_)
            refine lv_iinc (v := (nI (i + 1))) (lv' := [(3, .int (nI (i + 1))), (1, .int (nI i)), (2, .int (nI 0)), (4, .int (nI 0)), (0, .ref d0)]) hx hb dX0_orderToDrop_46 hl (k := 3) rfl (nI_add i 1) (by decide) rfl (fun ls hl => ?_)
            refine lv_goto (tgt := 6) hx hb dX0_orderToDrop_49 (by decide) ?_
            exact ih6 (some i) 0 (i + 1) (by omega) (by omega) (by rw [k_ls, ← hz]; split <;> rename_i h9 <;> first | rfl | (exfalso; first | omega | (have h8 := h9.1; rw [hin9] at h8; cases h8; done) | exact h9 ⟨hin9, by omega⟩)) (by omega) (by rw [k_lo, ← hz, ← hb9]; split <;> rename_i h9 <;> first | rfl | (exfalso; first | omega | (have h8 := h9.1; rw [hin9] at h8; cases h8; done) | exact h9 ⟨hin9, by omega⟩)) _ (lv_sub hl [0, 2, 1, 4] rfl)
        · have hin9 : k_in (g 41) i = true := decide_eq_true (by omega)
          refine lv_aload_n hx hb dX0_orderToDrop_24 rfl (lv_at hl 3 rfl) ?_
          refine lv_iload_n hx hb dX0_orderToDrop_25 rfl (lv_at hl 0 rfl) ?_
          refine ro_V (C := RX0) (n := 1) ⟨hx, hb, hml, hown, hts⟩ hM hS hP (c0_worth l D tc zb d0 d1 d2 fc hc g i (by assumption) (by assumption) (by omega)) gX0_orderToDrop_X0_worth rfl (by decide +kernel) ⟨Nat.le_of_ble_eq_true rfl, Nat.le_of_ble_eq_true rfl⟩ [0, 1, 2] rfl (va_recv hM.1 hP (ci := 0) (q0 := 0) rfl rfl) rfl hl.1 rfl (Nat.le_of_ble_eq_true rfl) dX0_orderToDrop_26 ⟨Nat.le_refl _, Nat.le_refl _⟩ ?_
          have hf4 := k_val_bd hk i
          refine lv_goto (tgt := 33) hx hb dX0_orderToDrop_29 (by decide) ?_
          refine lv_istore (lv' := [(4, .int (zI (k_val g i))), (3, .int (nI i)), (2, .int (zI (z))), (1, .int (oI (bo))), (0, .ref d0)]) hx hb dX0_orderToDrop_33 hl (by decide) rfl (fun ls hl => ?_)
          refine lv_iload hx hb dX0_orderToDrop_35 (lv_at hl 0 rfl) ?_
          refine lv_iload_n hx hb dX0_orderToDrop_37 rfl (lv_at hl 2 rfl) ?_
          refine ln_icmp_geZ (x := (k_val g i)) (y := z) (tgt := 46) hx hb dX0_orderToDrop_38 (by decide) rfl rfl (by omega) (by omega) (by omega) (by omega) (fun h5 => ?_) (fun h5 => ?_)
          · refine lv_iinc (v := (nI (i + 1))) (lv' := [(3, .int (nI (i + 1))), (4, .int (zI (k_val g i))), (2, .int (zI (z))), (1, .int (oI (bo))), (0, .ref d0)]) hx hb dX0_orderToDrop_46 hl (k := 1) rfl (nI_add i 1) (by decide) rfl (fun ls hl => ?_)
            refine lv_goto (tgt := 6) hx hb dX0_orderToDrop_49 (by decide) ?_
            exact ih6 bo z (i + 1) (by omega) (by omega) (by rw [k_ls, ← hz]; split <;> rename_i h9 <;> first | rfl | (exfalso; first | omega | (have h8 := h9.1; rw [hin9] at h8; cases h8; done) | exact h9 ⟨hin9, by omega⟩)) (by omega) (by rw [k_lo, ← hz, ← hb9]; split <;> rename_i h9 <;> first | rfl | (exfalso; first | omega | (have h8 := h9.1; rw [hin9] at h8; cases h8; done) | exact h9 ⟨hin9, by omega⟩)) _ (lv_sub hl [0, 2, 3, 4] rfl)
          · refine lv_iload hx hb dX0_orderToDrop_41 (lv_at hl 0 rfl) ?_
            refine lv_istore_n (lv' := [(2, .int (zI (k_val g i))), (4, .int (zI (k_val g i))), (3, .int (nI i)), (1, .int (oI (bo))), (0, .ref d0)]) hx hb dX0_orderToDrop_43 rfl hl (by decide) rfl (fun ls hl => ?_)
            refine lv_iload_n hx hb dX0_orderToDrop_44 rfl (lv_at hl 2 rfl) ?_
            refine lv_istore_n (lv' := [(1, .int (nI i)), (2, .int (zI (k_val g i))), (4, .int (zI (k_val g i))), (3, .int (nI i)), (0, .ref d0)]) hx hb dX0_orderToDrop_45 rfl hl (by decide) rfl (fun ls hl => ?_)
            refine lv_iinc (v := (nI (i + 1))) (lv' := [(3, .int (nI (i + 1))), (1, .int (nI i)), (2, .int (zI (k_val g i))), (4, .int (zI (k_val g i))), (0, .ref d0)]) hx hb dX0_orderToDrop_46 hl (k := 3) rfl (nI_add i 1) (by decide) rfl (fun ls hl => ?_)
            refine lv_goto (tgt := 6) hx hb dX0_orderToDrop_49 (by decide) ?_
            exact ih6 (some i) (k_val g i) (i + 1) (by omega) (by omega) (by rw [k_ls, ← hz]; split <;> rename_i h9 <;> first | rfl | (exfalso; first | omega | (have h8 := h9.1; rw [hin9] at h8; cases h8; done) | exact h9 ⟨hin9, by omega⟩)) (by omega) (by rw [k_lo, ← hz, ← hb9]; split <;> rename_i h9 <;> first | rfl | (exfalso; first | omega | (have h8 := h9.1; rw [hin9] at h8; cases h8; done) | exact h9 ⟨hin9, by omega⟩)) _ (lv_sub hl [0, 2, 1, 4] rfl)
  exact lp6 _ none 0 0 (Nat.lt_succ_self _) (by omega) (by rfl) (by omega) (by rfl) _ (lv_sub hl [0, 1, 2, 3] rfl)
set_option maxHeartbeats 4000000 in
set_option maxRecDepth 100000 in
theorem c0_coversAll (l : Launch) (D : va_G) (tc : Nat → ClassId) (zb : Nat) (d0 d1 d2 : Nat) (fc hc : Nat → Int32) (g : Nat → Nat) (set : Nat) (hk : k_ok g) (hLa : k_La fc hc g) (hs : set < 64) : RO l yX0_coversAll wsX0_coversAll 0 0 D tc zb (w_ad tc d0 d1 d2 fc hc (g 46) (g 0) (g 41) (k_due g)) [.ref d0, .int (nI set)] (.int (bI (k_en g set))) := by
  refine RO.of (cc := cX0_coversAll) (maxL := 3) (ret := (some .boolean)) (by decide) rfl (Nat.le_of_ble_eq_true rfl) ?_
  intro p e s m args below meth c hx hb hr hml hlk hts hown hM hS hP ls hl
  have hl : lv_has ls 3 [(0, .ref d0), (1, .int (nI set))] := hl
  have hinX0 : ∀ w ∈ u_ws RX0 TX0 6, w ∈ wsX0_coversAll := by decide +kernel
  obtain ⟨ok0, ok1, ok2, ok3, ok4, ok5, ok6⟩ := id hk
  have hdu9 := k_due_le hk
  refine lv_iconst (v := (nI 0)) hx hb dX0_coversAll_0 (by decide) ?_
  refine lv_istore_n (lv' := [(2, .int (nI 0)), (0, .ref d0), (1, .int (nI set))]) hx hb dX0_coversAll_1 rfl hl (by decide) rfl (fun ls hl => ?_)
  have lp2 : ∀ (n9 : Nat) (i : Nat), (g 46 - i) < n9 → (i ≤ g 46) → (k_en0 g set i = true) → ∀ ls : Array Slot, lv_has ls 3 [(2, .int (nI i)), (0, .ref d0), (1, .int (nI set))] → W p l e ({ frames := 0, cells := 0, slots := 0, locals := 0 } : Room) s m args below meth c s.heap [] 0 0 (MQ below (roQ (.int (bI (k_en g set)))) args s 0 0 (fun _ => False)) (F0 m 2 ls []) := by
    intro n9
    induction n9 with
    | zero => intro i hmu; exact absurd hmu (Nat.not_lt_zero _)
    | succ n9 ih2 =>
      intro i hmu hi hv ls hl
      have hcl9 := k_cov_lt (g (47 + i)) 6 (by omega)
      have hca9 : k_cov (g (47 + i)) 6 &&& set < 64 := k_and64 hcl9
      refine lv_iload_n hx hb dX0_coversAll_2 rfl (lv_at hl 0 rfl) ?_
      refine lv_aload_n hx hb dX0_coversAll_3 rfl (lv_at hl 1 rfl) ?_
      refine va_get (D := D) (ci := 0) (v := .int (nI (g 46))) (C := RX0) (T := TX0) (N := 6) hx hb hts hinX0 hown hM.1 hP 0 rfl rfl 2 (by decide) (hts (.fieldLink RX0 24 "TripleWays$Advice" "questionCount" "I") (by decide +kernel)) (fun _ h9 => h9) rfl dX0_coversAll_4 ?_
      refine ln_icmp_ge (tgt := 38) hx hb dX0_coversAll_7 (by decide) (by omega) (by omega) (fun h1 => ?_) (fun h1 => ?_)
      · refine lv_iconst (v := (nI 1)) hx hb dX0_coversAll_38 (by decide) ?_
        exact ro_zret hx hb hr hlk dX0_coversAll_39 (show bI true = _ from congrArg bI (by (have ei : i = g 46 := by omega); rw [ei] at hv; exact hv.symm))
      · refine lv_iload_n hx hb dX0_coversAll_10 rfl (lv_at hl 0 rfl) ?_
        refine lv_aload_n hx hb dX0_coversAll_11 rfl (lv_at hl 1 rfl) ?_
        refine va_get (D := D) (ci := 0) (v := .ref d2) (C := RX0) (T := TX0) (N := 6) hx hb hts hinX0 hown hM.1 hP 0 rfl rfl 1 (by decide) (hts (.fieldLink RX0 15 "TripleWays$Advice" "covers" "[I") (by decide +kernel)) (fun _ h9 => h9) rfl dX0_coversAll_12 ?_
        refine va_alen hx hb hM.1 hP 2 0 rfl rfl (v := nI 12) rfl dX0_coversAll_15 ?_
        refine ln_icmp_ge (tgt := 38) hx hb dX0_coversAll_16 (by decide) (by omega) (by decide) (fun h2 => ?_) (fun h2 => ?_)
        · exfalso; omega
        · refine lv_aload_n hx hb dX0_coversAll_19 rfl (lv_at hl 1 rfl) ?_
          refine va_get (D := D) (ci := 0) (v := .ref d2) (C := RX0) (T := TX0) (N := 6) hx hb hts hinX0 hown hM.1 hP 0 rfl rfl 1 (by decide) (hts (.fieldLink RX0 15 "TripleWays$Advice" "covers" "[I") (by decide +kernel)) (fun _ h9 => h9) rfl dX0_coversAll_20 ?_
          refine lv_iload_n hx hb dX0_coversAll_23 rfl (lv_at hl 0 rfl) ?_
          refine ln_iald hx hb hM.1 hP 2 0 rfl rfl dX0_coversAll_24 (by decide) (by omega) (hLa.2 i (by omega)) ?_
          refine lv_iload_n hx hb dX0_coversAll_25 rfl (lv_at hl 2 rfl) ?_
          refine ln_iand hx hb dX0_coversAll_26 ?_
          refine ln_if_ne (tgt := 32) hx hb dX0_coversAll_27 (by decide) (by omega) (fun h3 => ?_) (fun h3 => ?_)
          · refine lv_iinc (v := (nI (i + 1))) (lv' := [(2, .int (nI (i + 1))), (0, .ref d0), (1, .int (nI set))]) hx hb dX0_coversAll_32 hl (k := 0) rfl (nI_add i 1) (by decide) rfl (fun ls hl => ?_)
            refine lv_goto (tgt := 2) hx hb dX0_coversAll_35 (by decide) ?_
            exact ih2 (i + 1) (by omega) (by omega) (by exact k_en_go hs hv (by omega)) _ (lv_sub hl [0, 1, 2] rfl)
          · refine lv_iconst (v := (nI 0)) hx hb dX0_coversAll_30 (by decide) ?_
            exact ro_zret hx hb hr hlk dX0_coversAll_31 (show bI false = _ from congrArg bI (by exact (k_en_no (i := i) hs (by omega) (by omega)).symm))
  exact lp2 _ 0 (Nat.lt_succ_self _) (by omega) (by rfl) _ (lv_sub hl [0, 1, 2] rfl)
set_option maxHeartbeats 4000000 in
set_option maxRecDepth 100000 in
theorem c0_smallestCover (l : Launch) (D : va_G) (tc : Nat → ClassId) (zb : Nat) (d0 d1 d2 : Nat) (fc hc : Nat → Int32) (g : Nat → Nat) (hk : k_ok g) (hLa : k_La fc hc g) : RO l yX0_smallestCover wsX0_smallestCover 1 22 D tc zb (w_ad tc d0 d1 d2 fc hc (g 46) (g 0) (g 41) (k_due g)) [.ref d0] (.int (nI (k_dn g 64))) := by
  refine RO.of (cc := cX0_smallestCover) (maxL := 3) (ret := (some .int)) (by decide) rfl (Nat.le_of_ble_eq_true rfl) ?_
  intro p e s m args below meth c hx hb hr hml hlk hts hown hM hS hP ls hl
  have hl : lv_has ls 3 [(0, .ref d0)] := hl
  obtain ⟨ok0, ok1, ok2, ok3, ok4, ok5, ok6⟩ := id hk
  have hdu9 := k_due_le hk
  refine lv_bipush (v := (nI 63)) hx hb dX0_smallestCover_0 (by decide) ?_
  refine lv_istore_n (lv' := [(1, .int (nI 63)), (0, .ref d0)]) hx hb dX0_smallestCover_2 rfl hl (by decide) rfl (fun ls hl => ?_)
  refine lv_bipush (v := (nI 63)) hx hb dX0_smallestCover_3 (by decide) ?_
  refine lv_istore_n (lv' := [(2, .int (nI 63)), (1, .int (nI 63)), (0, .ref d0)]) hx hb dX0_smallestCover_5 rfl hl (by decide) rfl (fun ls hl => ?_)
  have lp6 : ∀ (n9 : Nat) (bs : Nat) (wo : Option Nat), (wo.elim 0 (fun i => i + 1)) < n9 → (bs ≤ 63) → (∀ i, wo = some i → i ≤ 63 ∧ bs = k_dn g (63 - i)) → (wo = none → bs = k_dn g 64) → ∀ ls : Array Slot, lv_has ls 3 [(2, .int (oI (wo))), (1, .int (nI bs)), (0, .ref d0)] → W p l e ({ frames := 1, cells := 0, slots := 0, locals := 22 } : Room) s m args below meth c s.heap [] 0 0 (MQ below (roQ (.int (nI (k_dn g 64)))) args s 0 0 (fun _ => False)) (F0 m 6 ls []) := by
    intro n9
    induction n9 with
    | zero => intro bs wo hmu; exact absurd hmu (Nat.not_lt_zero _)
    | succ n9 ih6 =>
      intro bs wo hmu hbl hw hn ls hl
      cases wo with
      | none =>
        have hl : lv_has ls 3 [(2, .int (-1)), (1, .int (nI bs)), (0, .ref d0)] := hl
        refine lv_iload_n hx hb dX0_smallestCover_6 rfl (lv_at hl 0 rfl) ?_
        refine lv_if_lt (tgt := 37) hx hb dX0_smallestCover_7 (by decide) (fun _ => ?_) (fun h9 => False.elim (by revert h9; decide))
        refine lv_iload_n hx hb dX0_smallestCover_37 rfl (lv_at hl 1 rfl) ?_
        exact ro_iret hx hb hr hlk dX0_smallestCover_38 (congrArg nI (by exact hn rfl))
      | some v9 =>
        have hl : lv_has ls 3 [(2, .int (nI v9)), (1, .int (nI bs)), (0, .ref d0)] := hl
        have hwv := hw v9 rfl
        refine lv_iload_n hx hb dX0_smallestCover_6 rfl (lv_at hl 0 rfl) ?_
        refine ln_if_lt (tgt := 37) hx hb dX0_smallestCover_7 (by decide) (by omega) ?_
        refine lv_iload_n hx hb dX0_smallestCover_10 rfl (lv_at hl 0 rfl) ?_
        refine ro_S (n := 1) ⟨hx, hb, hml, hown, hts⟩ hM hS hP (c_bitCount l D tc zb v9 (by omega)) gX0_smallestCover_J6_bitCount_0f7a4 rfl (by decide +kernel) ⟨Nat.le_of_ble_eq_true rfl, Nat.le_of_ble_eq_true rfl⟩ [] rfl rfl hl.1 rfl (Nat.le_of_ble_eq_true rfl) dX0_smallestCover_11 ⟨Nat.le_refl _, Nat.le_refl _⟩ ?_
        have hf1 := k_pc_le v9
        refine lv_iload_n hx hb dX0_smallestCover_14 rfl (lv_at hl 1 rfl) ?_
        refine ro_S (n := 1) ⟨hx, hb, hml, hown, hts⟩ hM hS hP (c_bitCount l D tc zb bs (by omega)) gX0_smallestCover_J6_bitCount_0f7a4 rfl (by decide +kernel) ⟨Nat.le_of_ble_eq_true rfl, Nat.le_of_ble_eq_true rfl⟩ [] rfl rfl hl.1 rfl (Nat.le_of_ble_eq_true rfl) dX0_smallestCover_15 ⟨Nat.le_refl _, Nat.le_refl _⟩ ?_
        have hf2 := k_pc_le bs
        refine ln_icmp_gt (tgt := 31) hx hb dX0_smallestCover_18 (by decide) (by omega) (by omega) (fun h3 => ?_) (fun h3 => ?_)
        · have hbs9 : bs = k_dn g (63 - v9 + 1) := (by rw [k_dn, show 63 - (63 - v9) = v9 by omega, ← hwv.2]; split <;> rename_i h9 <;> first | rfl | (exfalso; first | omega | (have h8 := h9.2; simp_all; done) | exact h9 ⟨by omega, by assumption⟩))
          cases v9 with
          | zero =>
            have hl : lv_has ls 3 [(2, .int (nI 0)), (1, .int (nI bs)), (0, .ref d0)] := hl
            refine lv_iinc (v := (-1)) (lv' := [(2, .int (-1)), (1, .int (nI bs)), (0, .ref d0)]) hx hb dX0_smallestCover_31 hl (k := 0) rfl (by decide) (by decide) rfl (fun ls hl => ?_)
            refine lv_goto (tgt := 6) hx hb dX0_smallestCover_34 (by decide) ?_
            exact ih6 bs none (by simp only [Option.elim] at *; omega) (by omega) (by intro i9 hi9; cases hi9 <;> (first | exact ⟨by omega, by rw [show 63 - (v8 + 1 - 1) = 63 - (v8 + 1) + 1 by omega]; exact hbs9⟩)) (by intro hi9; first | exact hbs9 | cases hi9) _ (lv_sub hl [0, 1, 2] rfl)
          | succ v8 =>
            have hl : lv_has ls 3 [(2, .int (nI ((v8 + 1)))), (1, .int (nI bs)), (0, .ref d0)] := hl
            refine lv_iinc (v := (nI ((v8 + 1) - 1))) (lv' := [(2, .int (nI ((v8 + 1) - 1))), (1, .int (nI bs)), (0, .ref d0)]) hx hb dX0_smallestCover_31 hl (k := 0) rfl (by rw [show (Int32.ofInt (-1)) = -(nI 1) from rfl]; exact (Int32.sub_eq_add_neg _ _).symm.trans (pk_sub (by omega))) (by decide) rfl (fun ls hl => ?_)
            refine lv_goto (tgt := 6) hx hb dX0_smallestCover_34 (by decide) ?_
            exact ih6 bs (some ((v8 + 1) - 1)) (by simp only [Option.elim] at *; omega) (by omega) (by intro i9 hi9; cases hi9 <;> (first | exact ⟨by omega, by rw [show 63 - (v8 + 1 - 1) = 63 - (v8 + 1) + 1 by omega]; exact hbs9⟩)) (by intro hi9; first | exact hbs9 | cases hi9) _ (lv_sub hl [0, 1, 2] rfl)
        · refine lv_aload_n hx hb dX0_smallestCover_21 rfl (lv_at hl 2 rfl) ?_
          refine lv_iload_n hx hb dX0_smallestCover_22 rfl (lv_at hl 0 rfl) ?_
          refine ro_V (C := RX0) (n := 1) ⟨hx, hb, hml, hown, hts⟩ hM hS hP (c0_coversAll l D tc zb d0 d1 d2 fc hc g v9 (by assumption) (by assumption) (by omega)) gX0_smallestCover_X0_coversAll rfl (by decide +kernel) ⟨Nat.le_of_ble_eq_true rfl, Nat.le_of_ble_eq_true rfl⟩ [0, 1, 2] rfl (va_recv hM.1 hP (ci := 0) (q0 := 0) rfl rfl) rfl hl.1 rfl (Nat.le_of_ble_eq_true rfl) dX0_smallestCover_23 ⟨Nat.le_refl _, Nat.le_refl _⟩ ?_
          refine ln_if_eqB (tgt := 31) hx hb dX0_smallestCover_26 (by decide) (fun h4 => ?_) (fun h4 => ?_)
          · have hbs9 : bs = k_dn g (63 - v9 + 1) := (by rw [k_dn, show 63 - (63 - v9) = v9 by omega, ← hwv.2]; split <;> rename_i h9 <;> first | rfl | (exfalso; first | omega | (have h8 := h9.2; simp_all; done) | exact h9 ⟨by omega, by assumption⟩))
            cases v9 with
            | zero =>
              have hl : lv_has ls 3 [(2, .int (nI 0)), (1, .int (nI bs)), (0, .ref d0)] := hl
              refine lv_iinc (v := (-1)) (lv' := [(2, .int (-1)), (1, .int (nI bs)), (0, .ref d0)]) hx hb dX0_smallestCover_31 hl (k := 0) rfl (by decide) (by decide) rfl (fun ls hl => ?_)
              refine lv_goto (tgt := 6) hx hb dX0_smallestCover_34 (by decide) ?_
              exact ih6 bs none (by simp only [Option.elim] at *; omega) (by omega) (by intro i9 hi9; cases hi9 <;> (first | exact ⟨by omega, by rw [show 63 - (v8 + 1 - 1) = 63 - (v8 + 1) + 1 by omega]; exact hbs9⟩)) (by intro hi9; first | exact hbs9 | cases hi9) _ (lv_sub hl [0, 1, 2] rfl)
            | succ v8 =>
              have hl : lv_has ls 3 [(2, .int (nI ((v8 + 1)))), (1, .int (nI bs)), (0, .ref d0)] := hl
              refine lv_iinc (v := (nI ((v8 + 1) - 1))) (lv' := [(2, .int (nI ((v8 + 1) - 1))), (1, .int (nI bs)), (0, .ref d0)]) hx hb dX0_smallestCover_31 hl (k := 0) rfl (by rw [show (Int32.ofInt (-1)) = -(nI 1) from rfl]; exact (Int32.sub_eq_add_neg _ _).symm.trans (pk_sub (by omega))) (by decide) rfl (fun ls hl => ?_)
              refine lv_goto (tgt := 6) hx hb dX0_smallestCover_34 (by decide) ?_
              exact ih6 bs (some ((v8 + 1) - 1)) (by simp only [Option.elim] at *; omega) (by omega) (by intro i9 hi9; cases hi9 <;> (first | exact ⟨by omega, by rw [show 63 - (v8 + 1 - 1) = 63 - (v8 + 1) + 1 by omega]; exact hbs9⟩)) (by intro hi9; first | exact hbs9 | cases hi9) _ (lv_sub hl [0, 1, 2] rfl)
          · refine lv_iload_n hx hb dX0_smallestCover_29 rfl (lv_at hl 0 rfl) ?_
            refine lv_istore_n (lv' := [(1, .int (nI v9)), (2, .int (nI v9)), (0, .ref d0)]) hx hb dX0_smallestCover_30 rfl hl (by decide) rfl (fun ls hl => ?_)
            have hbs9 : v9 = k_dn g (63 - v9 + 1) := (by rw [k_dn, show 63 - (63 - v9) = v9 by omega, ← hwv.2]; split <;> rename_i h9 <;> first | rfl | (exfalso; first | omega | (have h8 := h9.2; simp_all; done) | exact h9 ⟨by omega, by assumption⟩))
            cases v9 with
            | zero =>
              have hl : lv_has ls 3 [(1, .int (nI 0)), (2, .int (nI 0)), (0, .ref d0)] := hl
              refine lv_iinc (v := (-1)) (lv' := [(2, .int (-1)), (1, .int (nI 0)), (0, .ref d0)]) hx hb dX0_smallestCover_31 hl (k := 1) rfl (by decide) (by decide) rfl (fun ls hl => ?_)
              refine lv_goto (tgt := 6) hx hb dX0_smallestCover_34 (by decide) ?_
              exact ih6 0 none (by simp only [Option.elim] at *; omega) (by omega) (by intro i9 hi9; cases hi9 <;> (first | exact ⟨by omega, by rw [show 63 - (v8 + 1 - 1) = 63 - (v8 + 1) + 1 by omega]; exact hbs9⟩)) (by intro hi9; first | exact hbs9 | cases hi9) _ (lv_sub hl [0, 1, 2] rfl)
            | succ v8 =>
              have hl : lv_has ls 3 [(1, .int (nI ((v8 + 1)))), (2, .int (nI ((v8 + 1)))), (0, .ref d0)] := hl
              refine lv_iinc (v := (nI ((v8 + 1) - 1))) (lv' := [(2, .int (nI ((v8 + 1) - 1))), (1, .int (nI ((v8 + 1)))), (0, .ref d0)]) hx hb dX0_smallestCover_31 hl (k := 1) rfl (by rw [show (Int32.ofInt (-1)) = -(nI 1) from rfl]; exact (Int32.sub_eq_add_neg _ _).symm.trans (pk_sub (by omega))) (by decide) rfl (fun ls hl => ?_)
              refine lv_goto (tgt := 6) hx hb dX0_smallestCover_34 (by decide) ?_
              exact ih6 ((v8 + 1)) (some ((v8 + 1) - 1)) (by simp only [Option.elim] at *; omega) (by omega) (by intro i9 hi9; cases hi9 <;> (first | exact ⟨by omega, by rw [show 63 - (v8 + 1 - 1) = 63 - (v8 + 1) + 1 by omega]; exact hbs9⟩)) (by intro hi9; first | exact hbs9 | cases hi9) _ (lv_sub hl [0, 1, 2] rfl)
  exact lp6 _ 63 (some 63) (Nat.lt_succ_self _) (by omega) (by intro i9 hi9; cases hi9; exact ⟨by omega, rfl⟩) (by intro hi9; cases hi9) _ (lv_sub hl [0, 1, 2] rfl)
set_option maxHeartbeats 4000000 in
set_option maxRecDepth 100000 in
theorem c0_cheapestSet (l : Launch) (D : va_G) (tc : Nat → ClassId) (zb : Nat) (d0 d1 d2 : Nat) (fc hc : Nat → Int32) (g : Nat → Nat) (hk : k_ok g) (hLa : k_La fc hc g) : RO l yX0_cheapestSet wsX0_cheapestSet 2 48 D tc zb (w_ad tc d0 d1 d2 fc hc (g 46) (g 0) (g 41) (k_due g)) [.ref d0] (.int (nI (k_bs g 63))) := by
  refine RO.of (cc := cX0_cheapestSet) (maxL := 5) (ret := (some .int)) (by decide) rfl (Nat.le_of_ble_eq_true rfl) ?_
  intro p e s m args below meth c hx hb hr hml hlk hts hown hM hS hP ls hl
  have hl : lv_has ls 5 [(0, .ref d0)] := hl
  have hinX0 : ∀ w ∈ u_ws RX0 TX0 6, w ∈ wsX0_cheapestSet := by decide +kernel
  obtain ⟨ok0, ok1, ok2, ok3, ok4, ok5, ok6⟩ := id hk
  have hdu9 := k_due_le hk
  refine lv_iconst (v := (nI 0)) hx hb dX0_cheapestSet_0 (by decide) ?_
  refine lv_istore_n (lv' := [(1, .int (nI 0)), (0, .ref d0)]) hx hb dX0_cheapestSet_1 rfl hl (by decide) rfl (fun ls hl => ?_)
  refine lv_aload_n hx hb dX0_cheapestSet_2 rfl (lv_at hl 1 rfl) ?_
  refine lv_iconst (v := (nI 0)) hx hb dX0_cheapestSet_3 (by decide) ?_
  refine ro_V (C := RX0) (n := 1) ⟨hx, hb, hml, hown, hts⟩ hM hS hP (c0_costWith l D tc zb d0 d1 d2 fc hc g 0 (by assumption) (by assumption) (by omega)) gX0_cheapestSet_X0_costWith rfl (by decide +kernel) ⟨Nat.le_of_ble_eq_true rfl, Nat.le_of_ble_eq_true rfl⟩ [0, 1, 2] rfl (va_recv hM.1 hP (ci := 0) (q0 := 0) rfl rfl) rfl hl.1 rfl (Nat.le_of_ble_eq_true rfl) dX0_cheapestSet_4 ⟨Nat.le_refl _, Nat.le_refl _⟩ ?_
  have hf1 := show k_sum g 0 ≤ 480 from k_sum_le hk
  refine lv_istore_n (lv' := [(2, .int (nI (k_sum g 0))), (1, .int (nI 0)), (0, .ref d0)]) hx hb dX0_cheapestSet_7 rfl hl (by decide) rfl (fun ls hl => ?_)
  refine lv_iconst (v := (nI 1)) hx hb dX0_cheapestSet_8 (by decide) ?_
  refine lv_istore_n (lv' := [(3, .int (nI 1)), (2, .int (nI (k_sum g 0))), (1, .int (nI 0)), (0, .ref d0)]) hx hb dX0_cheapestSet_9 rfl hl (by decide) rfl (fun ls hl => ?_)
  have lp10 : ∀ (n9 : Nat) (fo : Nat) (lo9 : Nat) (i : Nat), (64 - i) < n9 → (1 ≤ i ∧ i ≤ 64) → (fo = k_bs g (i - 1)) → (lo9 = k_bm g (i - 1)) → (lo9 ≤ 480) → ∀ ls : Array Slot, lv_has ls 5 [(3, .int (nI i)), (2, .int (nI lo9)), (1, .int (nI fo)), (0, .ref d0)] → W p l e ({ frames := 2, cells := 0, slots := 0, locals := 48 } : Room) s m args below meth c s.heap [] 0 0 (MQ below (roQ (.int (nI (k_bs g 63)))) args s 0 0 (fun _ => False)) (F0 m 10 ls []) := by
    intro n9
    induction n9 with
    | zero => intro fo lo9 i hmu; exact absurd hmu (Nat.not_lt_zero _)
    | succ n9 ih10 =>
      intro fo lo9 i hmu hi hf hm hlb ls hl
      refine lv_iload_n hx hb dX0_cheapestSet_10 rfl (lv_at hl 0 rfl) ?_
      refine lv_bipush (v := (nI 64)) hx hb dX0_cheapestSet_11 (by decide) ?_
      refine ln_icmp_ge (tgt := 50) hx hb dX0_cheapestSet_13 (by decide) (by omega) (by decide) (fun h2 => ?_) (fun h2 => ?_)
      · refine lv_iload_n hx hb dX0_cheapestSet_50 rfl (lv_at hl 2 rfl) ?_
        exact ro_iret hx hb hr hlk dX0_cheapestSet_51 (congrArg nI (by have e9 : i = 64 := (by omega); subst e9; exact hf))
      · refine lv_aload_n hx hb dX0_cheapestSet_16 rfl (lv_at hl 3 rfl) ?_
        refine lv_iload_n hx hb dX0_cheapestSet_17 rfl (lv_at hl 0 rfl) ?_
        refine ro_V (C := RX0) (n := 1) ⟨hx, hb, hml, hown, hts⟩ hM hS hP (c0_costWith l D tc zb d0 d1 d2 fc hc g i (by assumption) (by assumption) (by omega)) gX0_cheapestSet_X0_costWith rfl (by decide +kernel) ⟨Nat.le_of_ble_eq_true rfl, Nat.le_of_ble_eq_true rfl⟩ [0, 1, 2] rfl (va_recv hM.1 hP (ci := 0) (q0 := 0) rfl rfl) rfl hl.1 rfl (Nat.le_of_ble_eq_true rfl) dX0_cheapestSet_18 ⟨Nat.le_refl _, Nat.le_refl _⟩ ?_
        have hf3 := show k_sum g i ≤ 480 from k_sum_le hk
        refine lv_aload_n hx hb dX0_cheapestSet_21 rfl (lv_at hl 3 rfl) ?_
        refine va_get (D := D) (ci := 0) (v := .int (nI (k_due g))) (C := RX0) (T := TX0) (N := 6) hx hb hts hinX0 hown hM.1 hP 0 rfl rfl 5 (by decide) (hts (.fieldLink RX0 42 "TripleWays$Advice" "upkeep" "I") (by decide +kernel)) (fun _ h9 => h9) rfl dX0_cheapestSet_22 ?_
        refine lv_iload_n hx hb dX0_cheapestSet_25 rfl (lv_at hl 0 rfl) ?_
        refine ro_S (n := 1) ⟨hx, hb, hml, hown, hts⟩ hM hS hP (c_bitCount l D tc zb i (by omega)) gX0_cheapestSet_J6_bitCount_0f7a4 rfl (by decide +kernel) ⟨Nat.le_of_ble_eq_true rfl, Nat.le_of_ble_eq_true rfl⟩ [] rfl rfl hl.1 rfl (Nat.le_of_ble_eq_true rfl) dX0_cheapestSet_26 ⟨Nat.le_refl _, Nat.le_refl _⟩ ?_
        have hf4 := k_pc_le i
        refine ln_imul hx hb dX0_cheapestSet_29 ?_
        refine ln_iadd hx hb dX0_cheapestSet_30 ?_
        refine lv_istore (lv' := [(4, .int (nI ((k_sum g i) + ((k_due g) * (k_pc i))))), (3, .int (nI i)), (2, .int (nI lo9)), (1, .int (nI fo)), (0, .ref d0)]) hx hb dX0_cheapestSet_31 hl (by decide) rfl (fun ls hl => ?_)
        have hct9 := k_ct_le hk i
        unfold k_ct at hct9
        have hcm9 := Nat.mul_comm (k_pc i) (k_due g)
        refine lv_iload hx hb dX0_cheapestSet_33 (lv_at hl 0 rfl) ?_
        refine lv_iload_n hx hb dX0_cheapestSet_35 rfl (lv_at hl 2 rfl) ?_
        refine ln_icmp_ge (tgt := 44) hx hb dX0_cheapestSet_36 (by decide) (by omega) (by omega) (fun h5 => ?_) (fun h5 => ?_)
        · refine lv_iinc (v := (nI (i + 1))) (lv' := [(3, .int (nI (i + 1))), (4, .int (nI ((k_sum g i) + ((k_due g) * (k_pc i))))), (2, .int (nI lo9)), (1, .int (nI fo)), (0, .ref d0)]) hx hb dX0_cheapestSet_44 hl (k := 1) rfl (nI_add i 1) (by decide) rfl (fun ls hl => ?_)
          refine lv_goto (tgt := 10) hx hb dX0_cheapestSet_47 (by decide) ?_
          exact ih10 fo lo9 (i + 1) (by omega) (by omega) (by (have e7 : i + 1 - 1 = (i - 1) + 1 := by omega); (have e6 : i - 1 + 1 = i := by omega); rw [e7, k_bs, e6, ← hm]; split <;> rename_i h9 <;> (try unfold k_ct at h9) <;> (try unfold k_ct) <;> omega) (by (have e7 : i + 1 - 1 = (i - 1) + 1 := by omega); (have e6 : i - 1 + 1 = i := by omega); rw [e7, k_bm, e6, ← hm]; split <;> rename_i h9 <;> (try unfold k_ct at h9) <;> (try unfold k_ct) <;> omega) (by omega) _ (lv_sub hl [0, 2, 3, 4] rfl)
        · refine lv_iload hx hb dX0_cheapestSet_39 (lv_at hl 0 rfl) ?_
          refine lv_istore_n (lv' := [(2, .int (nI ((k_sum g i) + ((k_due g) * (k_pc i))))), (4, .int (nI ((k_sum g i) + ((k_due g) * (k_pc i))))), (3, .int (nI i)), (1, .int (nI fo)), (0, .ref d0)]) hx hb dX0_cheapestSet_41 rfl hl (by decide) rfl (fun ls hl => ?_)
          refine lv_iload_n hx hb dX0_cheapestSet_42 rfl (lv_at hl 2 rfl) ?_
          refine lv_istore_n (lv' := [(1, .int (nI i)), (2, .int (nI ((k_sum g i) + ((k_due g) * (k_pc i))))), (4, .int (nI ((k_sum g i) + ((k_due g) * (k_pc i))))), (3, .int (nI i)), (0, .ref d0)]) hx hb dX0_cheapestSet_43 rfl hl (by decide) rfl (fun ls hl => ?_)
          refine lv_iinc (v := (nI (i + 1))) (lv' := [(3, .int (nI (i + 1))), (1, .int (nI i)), (2, .int (nI ((k_sum g i) + ((k_due g) * (k_pc i))))), (4, .int (nI ((k_sum g i) + ((k_due g) * (k_pc i))))), (0, .ref d0)]) hx hb dX0_cheapestSet_44 hl (k := 3) rfl (nI_add i 1) (by decide) rfl (fun ls hl => ?_)
          refine lv_goto (tgt := 10) hx hb dX0_cheapestSet_47 (by decide) ?_
          exact ih10 i ((k_sum g i) + ((k_due g) * (k_pc i))) (i + 1) (by omega) (by omega) (by (have e7 : i + 1 - 1 = (i - 1) + 1 := by omega); (have e6 : i - 1 + 1 = i := by omega); rw [e7, k_bs, e6, ← hm]; split <;> rename_i h9 <;> (try unfold k_ct at h9) <;> (try unfold k_ct) <;> omega) (by (have e7 : i + 1 - 1 = (i - 1) + 1 := by omega); (have e6 : i - 1 + 1 = i := by omega); rw [e7, k_bm, e6, ← hm]; split <;> rename_i h9 <;> (try unfold k_ct at h9) <;> (try unfold k_ct) <;> omega) (by omega) _ (lv_sub hl [0, 2, 1, 4] rfl)
  exact lp10 _ 0 (k_sum g 0) 1 (Nat.lt_succ_self _) (by omega) (by rfl) (by rfl) (by omega) _ (lv_sub hl [0, 1, 2, 3] rfl)
