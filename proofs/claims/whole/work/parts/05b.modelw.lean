set_option maxHeartbeats 4000000 in
set_option maxRecDepth 100000 in
theorem c7_keepUp (l : Launch) (D : va_G) (tc : Nat → ClassId) (zb : Nat) (b b1 : Nat) (o : Nat → Value) (g : Nat → Nat) (hk : k_ok g) : IP l yX7_keepUp wsX7_keepUp 1 22 D tc zb (w_ms tc b b1 o g) [(b, .inr (6, [o 0, .ref b1, o 2, o 3, o 4, o 5, o 6, o 7, o 8])), (b1, .inl (tc 0, 60, .inl ((fun k => nI (k_up g 42 (g 42 + k_pc (g 41) * (k_lk (g 0) + 1)) k)))))] [.ref b] none := by
  refine IP.of (cc := cX7_keepUp) (maxL := 1) (ret := none) (by decide) rfl (Nat.le_of_ble_eq_true rfl) ?_
  intro p e s m args below meth c A hx hb hr hml hlk hts hown hM hS hP hD ls hl
  have hl : lv_has ls 1 [(0, .ref b)] := hl
  have hinX7 : ∀ w ∈ u_ws RX7 TX7 9, w ∈ wsX7_keepUp := by decide +kernel
  obtain ⟨ok0, ok1, ok2, ok3, ok4, ok5, ok6⟩ := id hk
  refine lv_aload_n hx hb dX7_keepUp_0 rfl (lv_at hl 0 rfl) ?_
  refine va_get (D := D) (ci := 6) (v := .ref b1) (C := RX7) (T := TX7) (N := 9) hx hb hts hinX7 hown hM.1 hP 0 rfl rfl 1 (by decide) (hts (.fieldLink RX7 7 "TripleWaysModel" "s" "[I") (by decide +kernel)) (fun _ h9 => h9) rfl dX7_keepUp_1 ?_
  refine lv_bipush (v := (nI 42)) hx hb dX7_keepUp_4 (by decide) ?_
  refine lv_dup2_11 hx hb dX7_keepUp_6 rfl rfl ?_
  refine ln_iald hx hb hM.1 hP 1 0 rfl rfl dX7_keepUp_7 (by decide) (by omega) (rfl) ?_
  refine lv_aload_n hx hb dX7_keepUp_8 rfl (lv_at hl 0 rfl) ?_
  refine va_get (D := D) (ci := 6) (v := .ref b1) (C := RX7) (T := TX7) (N := 9) hx hb hts hinX7 hown hM.1 hP 0 rfl rfl 1 (by decide) (hts (.fieldLink RX7 7 "TripleWaysModel" "s" "[I") (by decide +kernel)) (fun _ h9 => h9) rfl dX7_keepUp_9 ?_
  refine lv_bipush (v := (nI 41)) hx hb dX7_keepUp_12 (by decide) ?_
  refine ln_iald hx hb hM.1 hP 1 0 rfl rfl dX7_keepUp_14 (by decide) (by omega) (rfl) ?_
  refine ro_S (n := 1) ⟨hx, hb, hml, hown, hts⟩ hM hS hP (c7_bitsOf l D tc zb (g 41) (by omega)) gX7_keepUp_X7_bitsOf rfl (by decide +kernel) ⟨Nat.le_of_ble_eq_true rfl, Nat.le_of_ble_eq_true rfl⟩ [] rfl rfl hl.1 rfl (Nat.le_of_ble_eq_true rfl) dX7_keepUp_15 ⟨Nat.le_refl _, Nat.le_refl _⟩ ?_
  have hf1 := k_pc_le (g 41)
  refine lv_aload_n hx hb dX7_keepUp_18 rfl (lv_at hl 0 rfl) ?_
  refine va_get (D := D) (ci := 6) (v := .ref b1) (C := RX7) (T := TX7) (N := 9) hx hb hts hinX7 hown hM.1 hP 0 rfl rfl 1 (by decide) (hts (.fieldLink RX7 7 "TripleWaysModel" "s" "[I") (by decide +kernel)) (fun _ h9 => h9) rfl dX7_keepUp_19 ?_
  refine lv_iconst (v := (nI 0)) hx hb dX7_keepUp_22 (by decide) ?_
  refine ln_iald hx hb hM.1 hP 1 0 rfl rfl dX7_keepUp_23 (by decide) (by omega) (rfl) ?_
  refine ro_S (n := 1) ⟨hx, hb, hml, hown, hts⟩ hM hS hP (c7_look l D tc zb (g 0) (by omega)) gX7_keepUp_X7_look rfl (by decide +kernel) ⟨Nat.le_of_ble_eq_true rfl, Nat.le_of_ble_eq_true rfl⟩ [] rfl rfl hl.1 rfl (Nat.le_of_ble_eq_true rfl) dX7_keepUp_24 ⟨Nat.le_refl _, Nat.le_refl _⟩ ?_
  have hf2 := k_lk_le ((g 0))
  refine lv_iconst (v := (nI 1)) hx hb dX7_keepUp_27 (by decide) ?_
  refine ln_iadd hx hb dX7_keepUp_28 ?_
  refine ln_imul hx hb dX7_keepUp_29 ?_
  refine ln_iadd hx hb dX7_keepUp_30 ?_
  refine ln_iastN hx hb hM.1 hP hD hS 1 0 rfl rfl dX7_keepUp_31 (by decide) (by omega) (fun H locs hP hD hS => ?_)
  have hP : va_P D vwCl [(b, .inr (6, [o 0, .ref b1, o 2, o 3, o 4, o 5, o 6, o 7, o 8])), (b1, .inl (tc 0, 60, .inl ((fun k => nI (k_up g 42 ((g 42) + ((k_pc (g 41)) * ((k_lk (g 0)) + 1))) k)))))] H := hP
  have hD : va_D A [(b, .inr (6, [o 0, .ref b1, o 2, o 3, o 4, o 5, o 6, o 7, o 8])), (b1, .inl (tc 0, 60, .inl ((fun k => nI (k_up g 42 ((g 42) + ((k_pc (g 41)) * ((k_lk (g 0)) + 1))) k)))))] := hD
  exact ip_vret hx hb hr hlk dX7_keepUp_32 hS hP
set_option maxHeartbeats 4000000 in
set_option maxRecDepth 100000 in
theorem c7_adds (l : Launch) (D : va_G) (tc : Nat → ClassId) (zb : Nat) (b b1 : Nat) (o : Nat → Value) (g : Nat → Nat) (t : Nat) (hk : k_ok g) (ht : t < 1000) (hroom : g 0 < 40 ∨ k_ix g t ≠ none) : IP l yX7_adds wsX7_adds 2 42 D tc zb (w_ms tc b b1 o g) (w_ms tc b b1 o (m_put g t)) [.ref b, .int (nI t)] (some (.int (nI (k_pv g t)))) := by
  refine IP.of (cc := cX7_adds) (maxL := 2) (ret := (some .int)) (by decide) rfl (Nat.le_of_ble_eq_true rfl) ?_
  intro p e s m args below meth c A hx hb hr hml hlk hts hown hM hS hP hD ls hl
  have hl : lv_has ls 2 [(0, .ref b), (1, .int (nI t))] := hl
  have hinX7 : ∀ w ∈ u_ws RX7 TX7 9, w ∈ wsX7_adds := by decide +kernel
  obtain ⟨ok0, ok1, ok2, ok3, ok4, ok5, ok6⟩ := id hk
  refine lv_aload_n hx hb dX7_adds_0 rfl (lv_at hl 0 rfl) ?_
  refine lv_iload_n hx hb dX7_adds_1 rfl (lv_at hl 1 rfl) ?_
  refine ro_V (C := RX7) (n := 1) ⟨hx, hb, hml, hown, hts⟩ hM hS hP (c7_placeOf l D tc zb b b1 o g t hk (by first | omega | exact ok4 _ (by omega))) gX7_adds_X7_placeOf rfl (by decide +kernel) ⟨Nat.le_of_ble_eq_true rfl, Nat.le_of_ble_eq_true rfl⟩ [0, 1] rfl (va_recv hM.1 hP (ci := 6) (q0 := 0) rfl rfl) rfl hl.1 rfl (Nat.le_of_ble_eq_true rfl) dX7_adds_2 ⟨Nat.le_refl _, Nat.le_refl _⟩ ?_
  cases ho2 : k_ix g t with
  | none =>
    refine ln_eq (x' := -1) rfl ?_
    have hlt9 : g 0 < 40 := hroom.resolve_right (fun h9 => h9 ho2)
    refine lv_iconst (v := (-1)) hx hb dX7_adds_5 (by decide) ?_
    refine lv_icmp_eq (tgt := 11) hx hb dX7_adds_6 (by decide) (fun _ => ?_) (fun h9 => False.elim (by revert h9; decide))
    refine lv_aload_n hx hb dX7_adds_11 rfl (lv_at hl 0 rfl) ?_
    refine ip_V (C := RX7) (n := 0) (wl' := [(b, .inr (6, [o 0, .ref b1, o 2, o 3, o 4, o 5, o 6, o 7, o 8])), (b1, .inl (tc 0, 60, .inl ((fun k => nI (k_up g 42 (g 42 + k_pc (g 41) * (k_lk (g 0) + 1)) k)))))]) ⟨hx, hb, hml, hown, hts⟩ hM hS hP hD (c7_keepUp l D tc zb b b1 o g hk) gX7_adds_X7_keepUp rfl (by decide +kernel) ⟨Nat.le_of_ble_eq_true rfl, Nat.le_of_ble_eq_true rfl⟩ [0, 1] rfl rfl [(true, 0), (true, 1)] rfl rfl rfl (va_recv hM.1 hP (ci := 6) (q0 := 0) rfl rfl) rfl hl.1 rfl (Nat.le_of_ble_eq_true rfl) dX7_adds_12 ⟨Nat.le_refl _, Nat.le_refl _⟩ (fun H locs hP hD hS => ?_)
    refine W.eq (g2 := F0 m 15 ls []) rfl ?_
    refine lv_aload_n hx hb dX7_adds_15 rfl (lv_at hl 0 rfl) ?_
    refine va_get (D := D) (ci := 6) (v := .ref b1) (C := RX7) (T := TX7) (N := 9) hx hb hts hinX7 hown hM.1 hP 0 rfl rfl 1 (by decide) (hts (.fieldLink RX7 7 "TripleWaysModel" "s" "[I") (by decide +kernel)) (fun _ h9 => h9) rfl dX7_adds_16 ?_
    refine lv_iconst (v := (nI 1)) hx hb dX7_adds_19 (by decide) ?_
    refine lv_aload_n hx hb dX7_adds_20 rfl (lv_at hl 0 rfl) ?_
    refine va_get (D := D) (ci := 6) (v := .ref b1) (C := RX7) (T := TX7) (N := 9) hx hb hts hinX7 hown hM.1 hP 0 rfl rfl 1 (by decide) (hts (.fieldLink RX7 7 "TripleWaysModel" "s" "[I") (by decide +kernel)) (fun _ h9 => h9) rfl dX7_adds_21 ?_
    refine lv_iconst (v := (nI 0)) hx hb dX7_adds_24 (by decide) ?_
    refine ln_iald hx hb hM.1 hP 1 0 rfl rfl dX7_adds_25 (by decide) (by omega) (congrArg nI (show k_up g 42 (g 42 + k_pc (g 41) * (k_lk (g 0) + 1)) 0 = g 0 by rw [k_up_ne (by omega)])) ?_
    refine ln_iadd hx hb dX7_adds_26 ?_
    refine lv_iload_n hx hb dX7_adds_27 rfl (lv_at hl 1 rfl) ?_
    refine ln_iastN hx hb hM.1 hP hD hS 1 0 rfl rfl dX7_adds_28 (by decide) (by omega) (fun H locs hP hD hS => ?_)
    have hP : va_P D vwCl [(b, .inr (6, [o 0, .ref b1, o 2, o 3, o 4, o 5, o 6, o 7, o 8])), (b1, .inl (tc 0, 60, .inl ((fun k => nI (k_up (k_up g 42 (g 42 + k_pc (g 41) * (k_lk (g 0) + 1))) (1 + (g 0)) t k)))))] H := hP
    have hD : va_D A [(b, .inr (6, [o 0, .ref b1, o 2, o 3, o 4, o 5, o 6, o 7, o 8])), (b1, .inl (tc 0, 60, .inl ((fun k => nI (k_up (k_up g 42 (g 42 + k_pc (g 41) * (k_lk (g 0) + 1))) (1 + (g 0)) t k)))))] := hD
    refine lv_aload_n hx hb dX7_adds_29 rfl (lv_at hl 0 rfl) ?_
    refine va_get (D := D) (ci := 6) (v := .ref b1) (C := RX7) (T := TX7) (N := 9) hx hb hts hinX7 hown hM.1 hP 0 rfl rfl 1 (by decide) (hts (.fieldLink RX7 7 "TripleWaysModel" "s" "[I") (by decide +kernel)) (fun _ h9 => h9) rfl dX7_adds_30 ?_
    refine lv_iconst (v := (nI 0)) hx hb dX7_adds_33 (by decide) ?_
    refine lv_dup2_11 hx hb dX7_adds_34 rfl rfl ?_
    refine ln_iald hx hb hM.1 hP 1 0 rfl rfl dX7_adds_35 (by decide) (by omega) (congrArg nI (show k_up (k_up g 42 (g 42 + k_pc (g 41) * (k_lk (g 0) + 1))) (1 + (g 0)) t 0 = g 0 by rw [k_up_ne (by omega), k_up_ne (by omega)])) ?_
    refine lv_iconst (v := (nI 1)) hx hb dX7_adds_36 (by decide) ?_
    refine ln_iadd hx hb dX7_adds_37 ?_
    refine ln_iastN hx hb hM.1 hP hD hS 1 0 rfl rfl dX7_adds_38 (by decide) (by omega) (fun H locs hP hD hS => ?_)
    have hP : va_P D vwCl [(b, .inr (6, [o 0, .ref b1, o 2, o 3, o 4, o 5, o 6, o 7, o 8])), (b1, .inl (tc 0, 60, .inl ((fun k => nI (k_up (k_up (k_up g 42 (g 42 + k_pc (g 41) * (k_lk (g 0) + 1))) (1 + (g 0)) t) 0 ((g 0) + 1) k)))))] H := hP
    have hD : va_D A [(b, .inr (6, [o 0, .ref b1, o 2, o 3, o 4, o 5, o 6, o 7, o 8])), (b1, .inl (tc 0, 60, .inl ((fun k => nI (k_up (k_up (k_up g 42 (g 42 + k_pc (g 41) * (k_lk (g 0) + 1))) (1 + (g 0)) t) 0 ((g 0) + 1) k)))))] := hD
    refine lv_iconst (v := (nI 1)) hx hb dX7_adds_39 (by decide) ?_
    exact ip_iret hx hb hr hlk dX7_adds_40 hS (congrArg nI (by (have hn9 : k_new g t = true := k_new_of hlt9 (by assumption)); simp [k_pv, hn9])) (by (have hn9 : k_new g t = true := k_new_of hlt9 (by assumption)); rw [show m_put g t = m_add g t from if_pos hn9]; exact hP)
  | some r2 =>
    refine ln_eq (x' := nI r2) rfl ?_
    have hr9 := k_ix_lt ho2
    refine lv_iconst (v := (-1)) hx hb dX7_adds_5 (by decide) ?_
    refine ln_eq_m1 (tgt := 11) hx hb dX7_adds_6 (by decide) (by omega) ?_
    refine lv_iconst (v := (nI 0)) hx hb dX7_adds_9 (by decide) ?_
    exact ip_iret hx hb hr hlk dX7_adds_10 hS (congrArg nI (by (have hn9 : k_new g t = false := k_new_some (by assumption)); simp [k_pv, hn9])) (by (have hn9 : k_new g t = false := k_new_some (by assumption)); rw [show m_put g t = g from if_neg (by rw [hn9]; decide)]; exact hP)
set_option maxHeartbeats 4000000 in
set_option maxRecDepth 100000 in
theorem c7_removes (l : Launch) (D : va_G) (tc : Nat → ClassId) (zb : Nat) (b b1 : Nat) (o : Nat → Value) (g : Nat → Nat) (t : Nat) (hk : k_ok g) (ht : t < 1000) : IP l yX7_removes wsX7_removes 2 42 D tc zb (w_ms tc b b1 o g) (w_ms tc b b1 o (m_rem g t)) [.ref b, .int (nI t)] (some (.int (nI (k_rv g t)))) := by
  refine IP.of (cc := cX7_removes) (maxL := 4) (ret := (some .int)) (by decide) rfl (Nat.le_of_ble_eq_true rfl) ?_
  intro p e s m args below meth c A hx hb hr hml hlk hts hown hM hS hP hD ls hl
  have hl : lv_has ls 4 [(0, .ref b), (1, .int (nI t))] := hl
  have hinX7 : ∀ w ∈ u_ws RX7 TX7 9, w ∈ wsX7_removes := by decide +kernel
  obtain ⟨ok0, ok1, ok2, ok3, ok4, ok5, ok6⟩ := id hk
  refine lv_aload_n hx hb dX7_removes_0 rfl (lv_at hl 0 rfl) ?_
  refine lv_iload_n hx hb dX7_removes_1 rfl (lv_at hl 1 rfl) ?_
  refine ro_V (C := RX7) (n := 1) ⟨hx, hb, hml, hown, hts⟩ hM hS hP (c7_placeOf l D tc zb b b1 o g t hk (by first | omega | exact ok4 _ (by omega))) gX7_removes_X7_placeOf rfl (by decide +kernel) ⟨Nat.le_of_ble_eq_true rfl, Nat.le_of_ble_eq_true rfl⟩ [0, 1] rfl (va_recv hM.1 hP (ci := 6) (q0 := 0) rfl rfl) rfl hl.1 rfl (Nat.le_of_ble_eq_true rfl) dX7_removes_2 ⟨Nat.le_refl _, Nat.le_refl _⟩ ?_
  cases ho2 : k_ix g t with
  | none =>
    refine ln_eq (x' := -1) rfl ?_
    refine lv_istore_n (lv' := [(2, .int (-1)), (0, .ref b), (1, .int (nI t))]) hx hb dX7_removes_5 rfl hl (by decide) rfl (fun ls hl => ?_)
    refine lv_iload_n hx hb dX7_removes_6 rfl (lv_at hl 0 rfl) ?_
    refine lv_iconst (v := (-1)) hx hb dX7_removes_7 (by decide) ?_
    refine lv_icmp_ne (tgt := 13) hx hb dX7_removes_8 (by decide) (fun h9 => False.elim (by revert h9; decide)) (fun _ => ?_)
    refine lv_iconst (v := (nI 0)) hx hb dX7_removes_11 (by decide) ?_
    exact ip_iret hx hb hr hlk dX7_removes_12 hS (congrArg nI (by simp only [k_rv, ho2])) (by rw [show m_rem g t = g by simp only [m_rem, ho2]]; exact hP)
  | some r2 =>
    refine ln_eq (x' := nI r2) rfl ?_
    have hr9 := k_ix_lt ho2
    refine lv_istore_n (lv' := [(2, .int (nI r2)), (0, .ref b), (1, .int (nI t))]) hx hb dX7_removes_5 rfl hl (by decide) rfl (fun ls hl => ?_)
    refine lv_iload_n hx hb dX7_removes_6 rfl (lv_at hl 0 rfl) ?_
    refine lv_iconst (v := (-1)) hx hb dX7_removes_7 (by decide) ?_
    refine ln_ne_m1 (tgt := 13) hx hb dX7_removes_8 (by decide) (by omega) ?_
    refine lv_aload_n hx hb dX7_removes_13 rfl (lv_at hl 1 rfl) ?_
    refine ip_V (C := RX7) (n := 0) (wl' := [(b, .inr (6, [o 0, .ref b1, o 2, o 3, o 4, o 5, o 6, o 7, o 8])), (b1, .inl (tc 0, 60, .inl ((fun k => nI (k_up g 42 (g 42 + k_pc (g 41) * (k_lk (g 0) + 1)) k)))))]) ⟨hx, hb, hml, hown, hts⟩ hM hS hP hD (c7_keepUp l D tc zb b b1 o g hk) gX7_removes_X7_keepUp rfl (by decide +kernel) ⟨Nat.le_of_ble_eq_true rfl, Nat.le_of_ble_eq_true rfl⟩ [0, 1] rfl rfl [(true, 0), (true, 1)] rfl rfl rfl (va_recv hM.1 hP (ci := 6) (q0 := 0) rfl rfl) rfl hl.1 rfl (Nat.le_of_ble_eq_true rfl) dX7_removes_14 ⟨Nat.le_refl _, Nat.le_refl _⟩ (fun H locs hP hD hS => ?_)
    refine W.eq (g2 := F0 m 17 ls []) rfl ?_
    refine lv_iload_n hx hb dX7_removes_17 rfl (lv_at hl 0 rfl) ?_
    refine lv_istore_n (lv' := [(3, .int (nI r2)), (2, .int (nI r2)), (0, .ref b), (1, .int (nI t))]) hx hb dX7_removes_18 rfl hl (by decide) rfl (fun ls hl => ?_)
    have lp19 : ∀ (n9 : Nat) (gf : Nat → Nat) (j : Nat), (g 0 - j) < n9 → (r2 ≤ j ∧ j ≤ g 0 - 1) → (gf = m_sh (m_up g) r2 j) → ∀ (H : Heap) (locs : List Loc), va_P D vwCl [(b, .inr (6, [o 0, .ref b1, o 2, o 3, o 4, o 5, o 6, o 7, o 8])), (b1, .inl (tc 0, 60, .inl ((fun k => nI (gf k)))))] H → va_D A [(b, .inr (6, [o 0, .ref b1, o 2, o 3, o 4, o 5, o 6, o 7, o 8])), (b1, .inl (tc 0, 60, .inl ((fun k => nI (gf k)))))] → va_S A s.heap H locs → ∀ ls : Array Slot, lv_has ls 4 [(3, .int (nI j)), (2, .int (nI r2)), (0, .ref b), (1, .int (nI t))] → W p l e ({ frames := 2, cells := 0, slots := 0, locals := 42 } : Room) s m args below meth c H locs 0 0 (MQ below (ipQ D A (w_ms tc b b1 o (m_rem g t)) (some (.int (nI (k_rv g t))))) args s 0 0 A) (F0 m 19 ls []) := by
      intro n9
      induction n9 with
      | zero => intro gf j hmu; exact absurd hmu (Nat.not_lt_zero _)
      | succ n9 ih19 =>
        intro gf j hmu hj hgf H locs hP hD hS ls hl
        have hg0 : gf 0 = g 0 := (by rw [hgf] <;> simp only [m_sh, m_up, k_up] <;> (repeat' split) <;> omega)
        refine lv_iload_n hx hb dX7_removes_19 rfl (lv_at hl 0 rfl) ?_
        refine lv_iconst (v := (nI 1)) hx hb dX7_removes_20 (by decide) ?_
        refine ln_iadd hx hb dX7_removes_21 ?_
        refine lv_aload_n hx hb dX7_removes_22 rfl (lv_at hl 2 rfl) ?_
        refine va_get (D := D) (ci := 6) (v := .ref b1) (C := RX7) (T := TX7) (N := 9) hx hb hts hinX7 hown hM.1 hP 0 rfl rfl 1 (by decide) (hts (.fieldLink RX7 7 "TripleWaysModel" "s" "[I") (by decide +kernel)) (fun _ h9 => h9) rfl dX7_removes_23 ?_
        refine lv_iconst (v := (nI 0)) hx hb dX7_removes_26 (by decide) ?_
        refine ln_iald hx hb hM.1 hP 1 0 rfl rfl dX7_removes_27 (by decide) (by omega) (rfl) ?_
        refine ln_icmp_ge (tgt := 55) hx hb dX7_removes_28 (by decide) (by omega) (by omega) (fun h1 => ?_) (fun h1 => ?_)
        · refine lv_aload_n hx hb dX7_removes_55 rfl (lv_at hl 2 rfl) ?_
          refine va_get (D := D) (ci := 6) (v := .ref b1) (C := RX7) (T := TX7) (N := 9) hx hb hts hinX7 hown hM.1 hP 0 rfl rfl 1 (by decide) (hts (.fieldLink RX7 7 "TripleWaysModel" "s" "[I") (by decide +kernel)) (fun _ h9 => h9) rfl dX7_removes_56 ?_
          refine lv_iconst (v := (nI 0)) hx hb dX7_removes_59 (by decide) ?_
          refine lv_dup2_11 hx hb dX7_removes_60 rfl rfl ?_
          refine ln_iald hx hb hM.1 hP 1 0 rfl rfl dX7_removes_61 (by decide) (by omega) (rfl) ?_
          refine lv_iconst (v := (nI 1)) hx hb dX7_removes_62 (by decide) ?_
          refine ln_isub hx hb dX7_removes_63 (by omega) ?_
          refine ln_iastN hx hb hM.1 hP hD hS 1 0 rfl rfl dX7_removes_64 (by decide) (by omega) (fun H locs hP hD hS => ?_)
          have hP : va_P D vwCl [(b, .inr (6, [o 0, .ref b1, o 2, o 3, o 4, o 5, o 6, o 7, o 8])), (b1, .inl (tc 0, 60, .inl ((fun k => nI (k_up gf 0 ((gf 0) - 1) k)))))] H := hP
          have hD : va_D A [(b, .inr (6, [o 0, .ref b1, o 2, o 3, o 4, o 5, o 6, o 7, o 8])), (b1, .inl (tc 0, 60, .inl ((fun k => nI (k_up gf 0 ((gf 0) - 1) k)))))] := hD
          refine lv_iconst (v := (nI 1)) hx hb dX7_removes_65 (by decide) ?_
          exact ip_iret hx hb hr hlk dX7_removes_66 hS (congrArg nI (by simp only [k_rv, ho2])) (by (have ej : j = g 0 - 1 := by omega); rw [ej] at hgf; rw [show m_rem g t = k_up gf 0 (gf 0 - 1) from (by simp only [m_rem, ho2, m_del] <;> rw [hg0, hgf])]; exact hP)
        · refine lv_aload_n hx hb dX7_removes_31 rfl (lv_at hl 2 rfl) ?_
          refine va_get (D := D) (ci := 6) (v := .ref b1) (C := RX7) (T := TX7) (N := 9) hx hb hts hinX7 hown hM.1 hP 0 rfl rfl 1 (by decide) (hts (.fieldLink RX7 7 "TripleWaysModel" "s" "[I") (by decide +kernel)) (fun _ h9 => h9) rfl dX7_removes_32 ?_
          refine lv_iconst (v := (nI 1)) hx hb dX7_removes_35 (by decide) ?_
          refine lv_iload_n hx hb dX7_removes_36 rfl (lv_at hl 0 rfl) ?_
          refine ln_iadd hx hb dX7_removes_37 ?_
          refine lv_aload_n hx hb dX7_removes_38 rfl (lv_at hl 2 rfl) ?_
          refine va_get (D := D) (ci := 6) (v := .ref b1) (C := RX7) (T := TX7) (N := 9) hx hb hts hinX7 hown hM.1 hP 0 rfl rfl 1 (by decide) (hts (.fieldLink RX7 7 "TripleWaysModel" "s" "[I") (by decide +kernel)) (fun _ h9 => h9) rfl dX7_removes_39 ?_
          refine lv_iconst (v := (nI 1)) hx hb dX7_removes_42 (by decide) ?_
          refine lv_iload_n hx hb dX7_removes_43 rfl (lv_at hl 0 rfl) ?_
          refine ln_iadd hx hb dX7_removes_44 ?_
          refine lv_iconst (v := (nI 1)) hx hb dX7_removes_45 (by decide) ?_
          refine ln_iadd hx hb dX7_removes_46 ?_
          refine ln_iald hx hb hM.1 hP 1 0 rfl rfl dX7_removes_47 (by decide) (by omega) (rfl) ?_
          refine ln_iastN hx hb hM.1 hP hD hS 1 0 rfl rfl dX7_removes_48 (by decide) (by omega) (fun H locs hP hD hS => ?_)
          have hP : va_P D vwCl [(b, .inr (6, [o 0, .ref b1, o 2, o 3, o 4, o 5, o 6, o 7, o 8])), (b1, .inl (tc 0, 60, .inl ((fun k => nI (k_up gf (1 + j) (gf ((1 + j) + 1)) k)))))] H := hP
          have hD : va_D A [(b, .inr (6, [o 0, .ref b1, o 2, o 3, o 4, o 5, o 6, o 7, o 8])), (b1, .inl (tc 0, 60, .inl ((fun k => nI (k_up gf (1 + j) (gf ((1 + j) + 1)) k)))))] := hD
          refine lv_iinc (v := (nI (j + 1))) (lv' := [(3, .int (nI (j + 1))), (2, .int (nI r2)), (0, .ref b), (1, .int (nI t))]) hx hb dX7_removes_49 hl (k := 0) rfl (nI_add j 1) (by decide) rfl (fun ls hl => ?_)
          refine lv_goto (tgt := 19) hx hb dX7_removes_52 (by decide) ?_
          exact ih19 (k_up gf (1 + j) (gf ((1 + j) + 1))) (j + 1) (by omega) (by omega) (by exact m_sh_1 hj.1 hgf) _ _ hP hD hS _ (lv_sub hl [0, 1, 2, 3] rfl)
    exact lp19 _ (k_up g 42 (g 42 + k_pc (g 41) * (k_lk (g 0) + 1))) r2 (Nat.lt_succ_self _) (by omega) (by exact (m_sh_0 (m_up g) r2).symm) _ _ hP hD hS _ (lv_sub hl [0, 1, 2, 3] rfl)
set_option maxHeartbeats 4000000 in
set_option maxRecDepth 100000 in
theorem c7_asks (l : Launch) (D : va_G) (tc : Nat → ClassId) (zb : Nat) (b b1 : Nat) (o : Nat → Value) (g : Nat → Nat) (x : Nat) (hk : k_ok g) (hx9 : x < 1331) : IP l yX7_asks wsX7_asks 7 160 D tc zb (w_ms tc b b1 o g) (w_ms tc b b1 o (m_ask g x)) [.ref b, .int (nI x)] (some (.int (nI (k_cnt g x)))) := by
  refine IP.of (cc := cX7_asks) (maxL := 3) (ret := (some .int)) (by decide) rfl (Nat.le_of_ble_eq_true rfl) ?_
  intro p e s m args below meth c A hx hb hr hml hlk hts hown hM hS hP hD ls hl
  have hl : lv_has ls 3 [(0, .ref b), (1, .int (nI x))] := hl
  have hinX7 : ∀ w ∈ u_ws RX7 TX7 9, w ∈ wsX7_asks := by decide +kernel
  obtain ⟨ok0, ok1, ok2, ok3, ok4, ok5, ok6⟩ := id hk
  refine lv_aload_n hx hb dX7_asks_0 rfl (lv_at hl 0 rfl) ?_
  refine va_get (D := D) (ci := 6) (v := .ref b1) (C := RX7) (T := TX7) (N := 9) hx hb hts hinX7 hown hM.1 hP 0 rfl rfl 1 (by decide) (hts (.fieldLink RX7 7 "TripleWaysModel" "s" "[I") (by decide +kernel)) (fun _ h9 => h9) rfl dX7_asks_1 ?_
  refine lv_bipush (v := (nI 46)) hx hb dX7_asks_4 (by decide) ?_
  refine ln_iald hx hb hM.1 hP 1 0 rfl rfl dX7_asks_6 (by decide) (by omega) (rfl) ?_
  refine lv_bipush (v := (nI 12)) hx hb dX7_asks_7 (by decide) ?_
  refine ln_icmp_ne (tgt := 59) hx hb dX7_asks_9 (by decide) (by omega) (by decide) (fun h1 => ?_) (fun h1 => ?_)
  · refine lv_aload_n hx hb dX7_asks_59 rfl (lv_at hl 0 rfl) ?_
    refine va_get (D := D) (ci := 6) (v := .ref b1) (C := RX7) (T := TX7) (N := 9) hx hb hts hinX7 hown hM.1 hP 0 rfl rfl 1 (by decide) (hts (.fieldLink RX7 7 "TripleWaysModel" "s" "[I") (by decide +kernel)) (fun _ h9 => h9) rfl dX7_asks_60 ?_
    refine lv_bipush (v := (nI 47)) hx hb dX7_asks_63 (by decide) ?_
    refine lv_aload_n hx hb dX7_asks_65 rfl (lv_at hl 0 rfl) ?_
    refine va_get (D := D) (ci := 6) (v := .ref b1) (C := RX7) (T := TX7) (N := 9) hx hb hts hinX7 hown hM.1 hP 0 rfl rfl 1 (by decide) (hts (.fieldLink RX7 7 "TripleWaysModel" "s" "[I") (by decide +kernel)) (fun _ h9 => h9) rfl dX7_asks_66 ?_
    refine lv_bipush (v := (nI 46)) hx hb dX7_asks_69 (by decide) ?_
    refine ln_iald hx hb hM.1 hP 1 0 rfl rfl dX7_asks_71 (by decide) (by omega) (rfl) ?_
    refine ln_iadd hx hb dX7_asks_72 ?_
    refine lv_iload_n hx hb dX7_asks_73 rfl (lv_at hl 1 rfl) ?_
    refine ln_iastN hx hb hM.1 hP hD hS 1 0 rfl rfl dX7_asks_74 (by decide) (by omega) (fun H locs hP hD hS => ?_)
    have hP : va_P D vwCl [(b, .inr (6, [o 0, .ref b1, o 2, o 3, o 4, o 5, o 6, o 7, o 8])), (b1, .inl (tc 0, 60, .inl ((fun k => nI (k_up g (47 + (g 46)) x k)))))] H := hP
    have hD : va_D A [(b, .inr (6, [o 0, .ref b1, o 2, o 3, o 4, o 5, o 6, o 7, o 8])), (b1, .inl (tc 0, 60, .inl ((fun k => nI (k_up g (47 + (g 46)) x k)))))] := hD
    refine lv_aload_n hx hb dX7_asks_75 rfl (lv_at hl 0 rfl) ?_
    refine va_get (D := D) (ci := 6) (v := .ref b1) (C := RX7) (T := TX7) (N := 9) hx hb hts hinX7 hown hM.1 hP 0 rfl rfl 1 (by decide) (hts (.fieldLink RX7 7 "TripleWaysModel" "s" "[I") (by decide +kernel)) (fun _ h9 => h9) rfl dX7_asks_76 ?_
    refine lv_bipush (v := (nI 46)) hx hb dX7_asks_79 (by decide) ?_
    refine lv_dup2_11 hx hb dX7_asks_81 rfl rfl ?_
    refine ln_iald hx hb hM.1 hP 1 0 rfl rfl dX7_asks_82 (by decide) (by omega) (congrArg nI (show k_up g (47 + (g 46)) x 46 = g 46 by rw [k_up_ne (by omega)])) ?_
    refine lv_iconst (v := (nI 1)) hx hb dX7_asks_83 (by decide) ?_
    refine ln_iadd hx hb dX7_asks_84 ?_
    refine ln_iastN hx hb hM.1 hP hD hS 1 0 rfl rfl dX7_asks_85 (by decide) (by omega) (fun H locs hP hD hS => ?_)
    have hP : va_P D vwCl [(b, .inr (6, [o 0, .ref b1, o 2, o 3, o 4, o 5, o 6, o 7, o 8])), (b1, .inl (tc 0, 60, .inl ((fun k => nI (k_up (k_up g (47 + (g 46)) x) 46 ((g 46) + 1) k)))))] H := hP
    have hD : va_D A [(b, .inr (6, [o 0, .ref b1, o 2, o 3, o 4, o 5, o 6, o 7, o 8])), (b1, .inl (tc 0, 60, .inl ((fun k => nI (k_up (k_up g (47 + (g 46)) x) 46 ((g 46) + 1) k)))))] := hD
    refine lv_aload_n hx hb dX7_asks_86 rfl (lv_at hl 0 rfl) ?_
    refine va_get (D := D) (ci := 6) (v := .ref b1) (C := RX7) (T := TX7) (N := 9) hx hb hts hinX7 hown hM.1 hP 0 rfl rfl 1 (by decide) (hts (.fieldLink RX7 7 "TripleWaysModel" "s" "[I") (by decide +kernel)) (fun _ h9 => h9) rfl dX7_asks_87 ?_
    refine lv_bipush (v := (nI 45)) hx hb dX7_asks_90 (by decide) ?_
    refine lv_dup2_11 hx hb dX7_asks_92 rfl rfl ?_
    refine ln_iald hx hb hM.1 hP 1 0 rfl rfl dX7_asks_93 (by decide) (by omega) (congrArg nI (show k_up (k_up g (47 + (g 46)) x) 46 ((g 46) + 1) 45 = g 45 by rw [k_up_ne (by omega), k_up_ne (by omega)])) ?_
    refine lv_iconst (v := (nI 1)) hx hb dX7_asks_94 (by decide) ?_
    refine ln_iadd hx hb dX7_asks_95 ?_
    refine ln_iastN hx hb hM.1 hP hD hS 1 0 rfl rfl dX7_asks_96 (by decide) (by omega) (fun H locs hP hD hS => ?_)
    have hP : va_P D vwCl [(b, .inr (6, [o 0, .ref b1, o 2, o 3, o 4, o 5, o 6, o 7, o 8])), (b1, .inl (tc 0, 60, .inl ((fun k => nI (k_up (k_up (k_up g (47 + (g 46)) x) 46 ((g 46) + 1)) 45 ((g 45) + 1) k)))))] H := hP
    have hD : va_D A [(b, .inr (6, [o 0, .ref b1, o 2, o 3, o 4, o 5, o 6, o 7, o 8])), (b1, .inl (tc 0, 60, .inl ((fun k => nI (k_up (k_up (k_up g (47 + (g 46)) x) 46 ((g 46) + 1)) 45 ((g 45) + 1) k)))))] := hD
    have hP : va_P D vwCl (w_ms tc b b1 o (m_as3 g x)) H := (by (have e9 : m_fg g = g := if_neg (by omega)); unfold m_as3; rw [e9]; exact hP)
    have hD : va_D A (w_ms tc b b1 o (m_as3 g x)) := va_D_addr hD rfl
    have hs41 : m_as3 g x 41 < 64 := Nat.lt_of_le_of_lt (Nat.le_of_eq (as3_at ok2 41 (by omega))) ok1
    refine lv_aload_n hx hb dX7_asks_97 rfl (lv_at hl 0 rfl) ?_
    refine va_get (D := D) (ci := 6) (v := .ref b1) (C := RX7) (T := TX7) (N := 9) hx hb hts hinX7 hown hM.1 hP 0 rfl rfl 1 (by decide) (hts (.fieldLink RX7 7 "TripleWaysModel" "s" "[I") (by decide +kernel)) (fun _ h9 => h9) rfl dX7_asks_98 ?_
    refine lv_bipush (v := (nI 44)) hx hb dX7_asks_101 (by decide) ?_
    refine lv_dup2_11 hx hb dX7_asks_103 rfl rfl ?_
    refine ln_iald hx hb hM.1 hP 1 0 rfl rfl dX7_asks_104 (by decide) (by omega) (rfl) ?_
    refine lv_aload_n hx hb dX7_asks_105 rfl (lv_at hl 0 rfl) ?_
    refine lv_iload_n hx hb dX7_asks_106 rfl (lv_at hl 1 rfl) ?_
    refine lv_aload_n hx hb dX7_asks_107 rfl (lv_at hl 0 rfl) ?_
    refine va_get (D := D) (ci := 6) (v := .ref b1) (C := RX7) (T := TX7) (N := 9) hx hb hts hinX7 hown hM.1 hP 0 rfl rfl 1 (by decide) (hts (.fieldLink RX7 7 "TripleWaysModel" "s" "[I") (by decide +kernel)) (fun _ h9 => h9) rfl dX7_asks_108 ?_
    refine lv_bipush (v := (nI 41)) hx hb dX7_asks_111 (by decide) ?_
    refine ln_iald hx hb hM.1 hP 1 0 rfl rfl dX7_asks_113 (by decide) (by omega) (rfl) ?_
    refine ro_V (C := RX7) (n := 2) ⟨hx, hb, hml, hown, hts⟩ hM hS hP (c7_costOf l D tc zb b b1 o ((m_as3 g x)) x (((m_as3 g x)) 41) ((ok_as3 hk (by first | omega | exact hx9))) (by first | omega | exact ok5 _ (by omega)) (by omega)) gX7_asks_X7_costOf rfl (by decide +kernel) ⟨Nat.le_of_ble_eq_true rfl, Nat.le_of_ble_eq_true rfl⟩ [0, 1] rfl (va_recv hM.1 hP (ci := 6) (q0 := 0) rfl rfl) rfl hl.1 rfl (Nat.le_of_ble_eq_true rfl) dX7_asks_114 ⟨Nat.le_refl _, Nat.le_refl _⟩ ?_
    have hf2 := k_mn_le ((m_as3 g x)) x (((m_as3 g x)) 41) 6
    refine ln_iadd hx hb dX7_asks_117 ?_
    refine ln_iastN hx hb hM.1 hP hD hS 1 0 rfl rfl dX7_asks_118 (by decide) (by omega) (fun H locs hP hD hS => ?_)
    have hP : va_P D vwCl [(b, .inr (6, [o 0, .ref b1, o 2, o 3, o 4, o 5, o 6, o 7, o 8])), (b1, .inl (tc 0, 60, .inl ((fun k => nI (k_up ((m_as3 g x)) 44 ((((m_as3 g x)) 44) + (k_mn ((m_as3 g x)) x (((m_as3 g x)) 41) 6)) k)))))] H := hP
    have hD : va_D A [(b, .inr (6, [o 0, .ref b1, o 2, o 3, o 4, o 5, o 6, o 7, o 8])), (b1, .inl (tc 0, 60, .inl ((fun k => nI (k_up ((m_as3 g x)) 44 ((((m_as3 g x)) 44) + (k_mn ((m_as3 g x)) x (((m_as3 g x)) 41) 6)) k)))))] := hD
    have hP : va_P D vwCl (w_ms tc b b1 o (m_ask g x)) H := (by rw [as3_ask hk]; exact hP)
    have hD : va_D A (w_ms tc b b1 o (m_ask g x)) := va_D_addr hD rfl
    refine lv_aload_n hx hb dX7_asks_119 rfl (lv_at hl 0 rfl) ?_
    refine lv_iload_n hx hb dX7_asks_120 rfl (lv_at hl 1 rfl) ?_
    refine ro_V (C := RX7) (n := 1) ⟨hx, hb, hml, hown, hts⟩ hM hS hP (c7_answersOf l D tc zb b b1 o ((m_ask g x)) x ((ok_ask hk (by first | omega | exact hx9))) (by first | omega | exact ok5 _ (by omega))) gX7_asks_X7_answersOf rfl (by decide +kernel) ⟨Nat.le_of_ble_eq_true rfl, Nat.le_of_ble_eq_true rfl⟩ [0, 1] rfl (va_recv hM.1 hP (ci := 6) (q0 := 0) rfl rfl) rfl hl.1 rfl (Nat.le_of_ble_eq_true rfl) dX7_asks_121 ⟨Nat.le_refl _, Nat.le_refl _⟩ ?_
    have hf3 := k_cnt_le ((m_ask g x)) x
    exact ip_iret hx hb hr hlk dX7_asks_124 hS (congrArg nI (by exact k_cnt_cong ((m_ask_at ok2).1 0 (by omega)) (fun i hi => (m_ask_at ok2).1 (1 + i) (by omega)))) hP
  · refine lv_iconst (v := (nI 0)) hx hb dX7_asks_12 (by decide) ?_
    refine lv_istore_n (lv' := [(2, .int (nI 0)), (0, .ref b), (1, .int (nI x))]) hx hb dX7_asks_13 rfl hl (by decide) rfl (fun ls hl => ?_)
    have lp14 : ∀ (n9 : Nat) (gf : Nat → Nat) (j : Nat), (12 - j) < n9 → (j ≤ 11) → (gf = m_qs g j) → ∀ (H : Heap) (locs : List Loc), va_P D vwCl [(b, .inr (6, [o 0, .ref b1, o 2, o 3, o 4, o 5, o 6, o 7, o 8])), (b1, .inl (tc 0, 60, .inl ((fun k => nI (gf k)))))] H → va_D A [(b, .inr (6, [o 0, .ref b1, o 2, o 3, o 4, o 5, o 6, o 7, o 8])), (b1, .inl (tc 0, 60, .inl ((fun k => nI (gf k)))))] → va_S A s.heap H locs → ∀ ls : Array Slot, lv_has ls 3 [(2, .int (nI j)), (0, .ref b), (1, .int (nI x))] → W p l e ({ frames := 7, cells := 0, slots := 0, locals := 160 } : Room) s m args below meth c H locs 0 0 (MQ below (ipQ D A (w_ms tc b b1 o (m_ask g x)) (some (.int (nI (k_cnt g x))))) args s 0 0 A) (F0 m 14 ls []) := by
      intro n9
      induction n9 with
      | zero => intro gf j hmu; exact absurd hmu (Nat.not_lt_zero _)
      | succ n9 ih14 =>
        intro gf j hmu hj hgf H locs hP hD hS ls hl
        have hg46 : gf 46 = g 46 := (by rw [hgf]; exact if_neg (by omega))
        have hg45 : gf 45 = g 45 := (by rw [hgf]; exact if_neg (by omega))
        refine lv_iload_n hx hb dX7_asks_14 rfl (lv_at hl 0 rfl) ?_
        refine lv_iconst (v := (nI 1)) hx hb dX7_asks_15 (by decide) ?_
        refine ln_iadd hx hb dX7_asks_16 ?_
        refine lv_bipush (v := (nI 12)) hx hb dX7_asks_17 (by decide) ?_
        refine ln_icmp_ge (tgt := 48) hx hb dX7_asks_19 (by decide) (by omega) (by decide) (fun h4 => ?_) (fun h4 => ?_)
        · refine lv_aload_n hx hb dX7_asks_48 rfl (lv_at hl 1 rfl) ?_
          refine va_get (D := D) (ci := 6) (v := .ref b1) (C := RX7) (T := TX7) (N := 9) hx hb hts hinX7 hown hM.1 hP 0 rfl rfl 1 (by decide) (hts (.fieldLink RX7 7 "TripleWaysModel" "s" "[I") (by decide +kernel)) (fun _ h9 => h9) rfl dX7_asks_49 ?_
          refine lv_bipush (v := (nI 46)) hx hb dX7_asks_52 (by decide) ?_
          refine lv_dup2_11 hx hb dX7_asks_54 rfl rfl ?_
          refine ln_iald hx hb hM.1 hP 1 0 rfl rfl dX7_asks_55 (by decide) (by omega) (rfl) ?_
          refine lv_iconst (v := (nI 1)) hx hb dX7_asks_56 (by decide) ?_
          refine ln_isub hx hb dX7_asks_57 (by omega) ?_
          refine ln_iastN hx hb hM.1 hP hD hS 1 0 rfl rfl dX7_asks_58 (by decide) (by omega) (fun H locs hP hD hS => ?_)
          have hP : va_P D vwCl [(b, .inr (6, [o 0, .ref b1, o 2, o 3, o 4, o 5, o 6, o 7, o 8])), (b1, .inl (tc 0, 60, .inl ((fun k => nI (k_up gf 46 ((gf 46) - 1) k)))))] H := hP
          have hD : va_D A [(b, .inr (6, [o 0, .ref b1, o 2, o 3, o 4, o 5, o 6, o 7, o 8])), (b1, .inl (tc 0, 60, .inl ((fun k => nI (k_up gf 46 ((gf 46) - 1) k)))))] := hD
          refine lv_aload_n hx hb dX7_asks_59 rfl (lv_at hl 1 rfl) ?_
          refine va_get (D := D) (ci := 6) (v := .ref b1) (C := RX7) (T := TX7) (N := 9) hx hb hts hinX7 hown hM.1 hP 0 rfl rfl 1 (by decide) (hts (.fieldLink RX7 7 "TripleWaysModel" "s" "[I") (by decide +kernel)) (fun _ h9 => h9) rfl dX7_asks_60 ?_
          refine lv_bipush (v := (nI 47)) hx hb dX7_asks_63 (by decide) ?_
          refine lv_aload_n hx hb dX7_asks_65 rfl (lv_at hl 1 rfl) ?_
          refine va_get (D := D) (ci := 6) (v := .ref b1) (C := RX7) (T := TX7) (N := 9) hx hb hts hinX7 hown hM.1 hP 0 rfl rfl 1 (by decide) (hts (.fieldLink RX7 7 "TripleWaysModel" "s" "[I") (by decide +kernel)) (fun _ h9 => h9) rfl dX7_asks_66 ?_
          refine lv_bipush (v := (nI 46)) hx hb dX7_asks_69 (by decide) ?_
          refine ln_iald hx hb hM.1 hP 1 0 rfl rfl dX7_asks_71 (by decide) (by omega) (congrArg nI (show k_up gf 46 ((gf 46) - 1) 46 = (gf 46) - 1 by rw [k_up_eq rfl])) ?_
          refine ln_iadd hx hb dX7_asks_72 ?_
          refine lv_iload_n hx hb dX7_asks_73 rfl (lv_at hl 2 rfl) ?_
          refine ln_iastN hx hb hM.1 hP hD hS 1 0 rfl rfl dX7_asks_74 (by decide) (by omega) (fun H locs hP hD hS => ?_)
          have hP : va_P D vwCl [(b, .inr (6, [o 0, .ref b1, o 2, o 3, o 4, o 5, o 6, o 7, o 8])), (b1, .inl (tc 0, 60, .inl ((fun k => nI (k_up (k_up gf 46 ((gf 46) - 1)) (47 + ((gf 46) - 1)) x k)))))] H := hP
          have hD : va_D A [(b, .inr (6, [o 0, .ref b1, o 2, o 3, o 4, o 5, o 6, o 7, o 8])), (b1, .inl (tc 0, 60, .inl ((fun k => nI (k_up (k_up gf 46 ((gf 46) - 1)) (47 + ((gf 46) - 1)) x k)))))] := hD
          refine lv_aload_n hx hb dX7_asks_75 rfl (lv_at hl 1 rfl) ?_
          refine va_get (D := D) (ci := 6) (v := .ref b1) (C := RX7) (T := TX7) (N := 9) hx hb hts hinX7 hown hM.1 hP 0 rfl rfl 1 (by decide) (hts (.fieldLink RX7 7 "TripleWaysModel" "s" "[I") (by decide +kernel)) (fun _ h9 => h9) rfl dX7_asks_76 ?_
          refine lv_bipush (v := (nI 46)) hx hb dX7_asks_79 (by decide) ?_
          refine lv_dup2_11 hx hb dX7_asks_81 rfl rfl ?_
          refine ln_iald hx hb hM.1 hP 1 0 rfl rfl dX7_asks_82 (by decide) (by omega) (congrArg nI (show k_up (k_up gf 46 ((gf 46) - 1)) (47 + ((gf 46) - 1)) x 46 = (gf 46) - 1 by rw [k_up_ne (by omega), k_up_eq rfl])) ?_
          refine lv_iconst (v := (nI 1)) hx hb dX7_asks_83 (by decide) ?_
          refine ln_iadd hx hb dX7_asks_84 ?_
          refine ln_iastN hx hb hM.1 hP hD hS 1 0 rfl rfl dX7_asks_85 (by decide) (by omega) (fun H locs hP hD hS => ?_)
          have hP : va_P D vwCl [(b, .inr (6, [o 0, .ref b1, o 2, o 3, o 4, o 5, o 6, o 7, o 8])), (b1, .inl (tc 0, 60, .inl ((fun k => nI (k_up (k_up (k_up gf 46 ((gf 46) - 1)) (47 + ((gf 46) - 1)) x) 46 (((gf 46) - 1) + 1) k)))))] H := hP
          have hD : va_D A [(b, .inr (6, [o 0, .ref b1, o 2, o 3, o 4, o 5, o 6, o 7, o 8])), (b1, .inl (tc 0, 60, .inl ((fun k => nI (k_up (k_up (k_up gf 46 ((gf 46) - 1)) (47 + ((gf 46) - 1)) x) 46 (((gf 46) - 1) + 1) k)))))] := hD
          refine lv_aload_n hx hb dX7_asks_86 rfl (lv_at hl 1 rfl) ?_
          refine va_get (D := D) (ci := 6) (v := .ref b1) (C := RX7) (T := TX7) (N := 9) hx hb hts hinX7 hown hM.1 hP 0 rfl rfl 1 (by decide) (hts (.fieldLink RX7 7 "TripleWaysModel" "s" "[I") (by decide +kernel)) (fun _ h9 => h9) rfl dX7_asks_87 ?_
          refine lv_bipush (v := (nI 45)) hx hb dX7_asks_90 (by decide) ?_
          refine lv_dup2_11 hx hb dX7_asks_92 rfl rfl ?_
          refine ln_iald hx hb hM.1 hP 1 0 rfl rfl dX7_asks_93 (by decide) (by omega) (congrArg nI (show k_up (k_up (k_up gf 46 ((gf 46) - 1)) (47 + ((gf 46) - 1)) x) 46 (((gf 46) - 1) + 1) 45 = gf 45 by rw [k_up_ne (by omega), k_up_ne (by omega), k_up_ne (by omega)])) ?_
          refine lv_iconst (v := (nI 1)) hx hb dX7_asks_94 (by decide) ?_
          refine ln_iadd hx hb dX7_asks_95 ?_
          refine ln_iastN hx hb hM.1 hP hD hS 1 0 rfl rfl dX7_asks_96 (by decide) (by omega) (fun H locs hP hD hS => ?_)
          have hP : va_P D vwCl [(b, .inr (6, [o 0, .ref b1, o 2, o 3, o 4, o 5, o 6, o 7, o 8])), (b1, .inl (tc 0, 60, .inl ((fun k => nI (k_up (k_up (k_up (k_up gf 46 ((gf 46) - 1)) (47 + ((gf 46) - 1)) x) 46 (((gf 46) - 1) + 1)) 45 ((gf 45) + 1) k)))))] H := hP
          have hD : va_D A [(b, .inr (6, [o 0, .ref b1, o 2, o 3, o 4, o 5, o 6, o 7, o 8])), (b1, .inl (tc 0, 60, .inl ((fun k => nI (k_up (k_up (k_up (k_up gf 46 ((gf 46) - 1)) (47 + ((gf 46) - 1)) x) 46 (((gf 46) - 1) + 1)) 45 ((gf 45) + 1) k)))))] := hD
          have hP : va_P D vwCl (w_ms tc b b1 o (m_as3 g x)) H := (by (have ej : j = 11 := by omega); (have e8 : gf = m_qs g 11 := (by rw [hgf, ej])); (have e9 : m_fg g = k_up gf 46 (gf 46 - 1) := (by unfold m_fg; rw [if_pos (by omega), hg46, ← e8])); unfold m_as3; rw [e9, show k_up gf 46 (gf 46 - 1) 46 = gf 46 - 1 from k_up_eq rfl, ← hg45]; exact hP)
          have hD : va_D A (w_ms tc b b1 o (m_as3 g x)) := va_D_addr hD rfl
          have hs41 : m_as3 g x 41 < 64 := Nat.lt_of_le_of_lt (Nat.le_of_eq (as3_at ok2 41 (by omega))) ok1
          refine lv_aload_n hx hb dX7_asks_97 rfl (lv_at hl 1 rfl) ?_
          refine va_get (D := D) (ci := 6) (v := .ref b1) (C := RX7) (T := TX7) (N := 9) hx hb hts hinX7 hown hM.1 hP 0 rfl rfl 1 (by decide) (hts (.fieldLink RX7 7 "TripleWaysModel" "s" "[I") (by decide +kernel)) (fun _ h9 => h9) rfl dX7_asks_98 ?_
          refine lv_bipush (v := (nI 44)) hx hb dX7_asks_101 (by decide) ?_
          refine lv_dup2_11 hx hb dX7_asks_103 rfl rfl ?_
          refine ln_iald hx hb hM.1 hP 1 0 rfl rfl dX7_asks_104 (by decide) (by omega) (rfl) ?_
          refine lv_aload_n hx hb dX7_asks_105 rfl (lv_at hl 1 rfl) ?_
          refine lv_iload_n hx hb dX7_asks_106 rfl (lv_at hl 2 rfl) ?_
          refine lv_aload_n hx hb dX7_asks_107 rfl (lv_at hl 1 rfl) ?_
          refine va_get (D := D) (ci := 6) (v := .ref b1) (C := RX7) (T := TX7) (N := 9) hx hb hts hinX7 hown hM.1 hP 0 rfl rfl 1 (by decide) (hts (.fieldLink RX7 7 "TripleWaysModel" "s" "[I") (by decide +kernel)) (fun _ h9 => h9) rfl dX7_asks_108 ?_
          refine lv_bipush (v := (nI 41)) hx hb dX7_asks_111 (by decide) ?_
          refine ln_iald hx hb hM.1 hP 1 0 rfl rfl dX7_asks_113 (by decide) (by omega) (rfl) ?_
          refine ro_V (C := RX7) (n := 2) ⟨hx, hb, hml, hown, hts⟩ hM hS hP (c7_costOf l D tc zb b b1 o ((m_as3 g x)) x (((m_as3 g x)) 41) ((ok_as3 hk (by first | omega | exact hx9))) (by first | omega | exact ok5 _ (by omega)) (by omega)) gX7_asks_X7_costOf rfl (by decide +kernel) ⟨Nat.le_of_ble_eq_true rfl, Nat.le_of_ble_eq_true rfl⟩ [0, 1] rfl (va_recv hM.1 hP (ci := 6) (q0 := 0) rfl rfl) rfl hl.1 rfl (Nat.le_of_ble_eq_true rfl) dX7_asks_114 ⟨Nat.le_refl _, Nat.le_refl _⟩ ?_
          have hf5 := k_mn_le ((m_as3 g x)) x (((m_as3 g x)) 41) 6
          refine ln_iadd hx hb dX7_asks_117 ?_
          refine ln_iastN hx hb hM.1 hP hD hS 1 0 rfl rfl dX7_asks_118 (by decide) (by omega) (fun H locs hP hD hS => ?_)
          have hP : va_P D vwCl [(b, .inr (6, [o 0, .ref b1, o 2, o 3, o 4, o 5, o 6, o 7, o 8])), (b1, .inl (tc 0, 60, .inl ((fun k => nI (k_up ((m_as3 g x)) 44 ((((m_as3 g x)) 44) + (k_mn ((m_as3 g x)) x (((m_as3 g x)) 41) 6)) k)))))] H := hP
          have hD : va_D A [(b, .inr (6, [o 0, .ref b1, o 2, o 3, o 4, o 5, o 6, o 7, o 8])), (b1, .inl (tc 0, 60, .inl ((fun k => nI (k_up ((m_as3 g x)) 44 ((((m_as3 g x)) 44) + (k_mn ((m_as3 g x)) x (((m_as3 g x)) 41) 6)) k)))))] := hD
          have hP : va_P D vwCl (w_ms tc b b1 o (m_ask g x)) H := (by rw [as3_ask hk]; exact hP)
          have hD : va_D A (w_ms tc b b1 o (m_ask g x)) := va_D_addr hD rfl
          refine lv_aload_n hx hb dX7_asks_119 rfl (lv_at hl 1 rfl) ?_
          refine lv_iload_n hx hb dX7_asks_120 rfl (lv_at hl 2 rfl) ?_
          refine ro_V (C := RX7) (n := 1) ⟨hx, hb, hml, hown, hts⟩ hM hS hP (c7_answersOf l D tc zb b b1 o ((m_ask g x)) x ((ok_ask hk (by first | omega | exact hx9))) (by first | omega | exact ok5 _ (by omega))) gX7_asks_X7_answersOf rfl (by decide +kernel) ⟨Nat.le_of_ble_eq_true rfl, Nat.le_of_ble_eq_true rfl⟩ [0, 1] rfl (va_recv hM.1 hP (ci := 6) (q0 := 0) rfl rfl) rfl hl.1 rfl (Nat.le_of_ble_eq_true rfl) dX7_asks_121 ⟨Nat.le_refl _, Nat.le_refl _⟩ ?_
          have hf6 := k_cnt_le ((m_ask g x)) x
          exact ip_iret hx hb hr hlk dX7_asks_124 hS (congrArg nI (by exact k_cnt_cong ((m_ask_at ok2).1 0 (by omega)) (fun i hi => (m_ask_at ok2).1 (1 + i) (by omega)))) hP
        · refine lv_aload_n hx hb dX7_asks_22 rfl (lv_at hl 1 rfl) ?_
          refine va_get (D := D) (ci := 6) (v := .ref b1) (C := RX7) (T := TX7) (N := 9) hx hb hts hinX7 hown hM.1 hP 0 rfl rfl 1 (by decide) (hts (.fieldLink RX7 7 "TripleWaysModel" "s" "[I") (by decide +kernel)) (fun _ h9 => h9) rfl dX7_asks_23 ?_
          refine lv_bipush (v := (nI 47)) hx hb dX7_asks_26 (by decide) ?_
          refine lv_iload_n hx hb dX7_asks_28 rfl (lv_at hl 0 rfl) ?_
          refine ln_iadd hx hb dX7_asks_29 ?_
          refine lv_aload_n hx hb dX7_asks_30 rfl (lv_at hl 1 rfl) ?_
          refine va_get (D := D) (ci := 6) (v := .ref b1) (C := RX7) (T := TX7) (N := 9) hx hb hts hinX7 hown hM.1 hP 0 rfl rfl 1 (by decide) (hts (.fieldLink RX7 7 "TripleWaysModel" "s" "[I") (by decide +kernel)) (fun _ h9 => h9) rfl dX7_asks_31 ?_
          refine lv_bipush (v := (nI 47)) hx hb dX7_asks_34 (by decide) ?_
          refine lv_iload_n hx hb dX7_asks_36 rfl (lv_at hl 0 rfl) ?_
          refine ln_iadd hx hb dX7_asks_37 ?_
          refine lv_iconst (v := (nI 1)) hx hb dX7_asks_38 (by decide) ?_
          refine ln_iadd hx hb dX7_asks_39 ?_
          refine ln_iald hx hb hM.1 hP 1 0 rfl rfl dX7_asks_40 (by decide) (by omega) (rfl) ?_
          refine ln_iastN hx hb hM.1 hP hD hS 1 0 rfl rfl dX7_asks_41 (by decide) (by omega) (fun H locs hP hD hS => ?_)
          have hP : va_P D vwCl [(b, .inr (6, [o 0, .ref b1, o 2, o 3, o 4, o 5, o 6, o 7, o 8])), (b1, .inl (tc 0, 60, .inl ((fun k => nI (k_up gf (47 + j) (gf ((47 + j) + 1)) k)))))] H := hP
          have hD : va_D A [(b, .inr (6, [o 0, .ref b1, o 2, o 3, o 4, o 5, o 6, o 7, o 8])), (b1, .inl (tc 0, 60, .inl ((fun k => nI (k_up gf (47 + j) (gf ((47 + j) + 1)) k)))))] := hD
          refine lv_iinc (v := (nI (j + 1))) (lv' := [(2, .int (nI (j + 1))), (0, .ref b), (1, .int (nI x))]) hx hb dX7_asks_42 hl (k := 0) rfl (nI_add j 1) (by decide) rfl (fun ls hl => ?_)
          refine lv_goto (tgt := 14) hx hb dX7_asks_45 (by decide) ?_
          exact ih14 (k_up gf (47 + j) (gf ((47 + j) + 1))) (j + 1) (by omega) (by omega) (by exact m_qs_1 hgf) _ _ hP hD hS _ (lv_sub hl [0, 1, 2] rfl)
    exact lp14 _ g 0 (Nat.lt_succ_self _) (by omega) (by exact (m_qs_0 g).symm) _ _ hP hD hS _ (lv_sub hl [0, 1, 2] rfl)
set_option maxHeartbeats 4000000 in
set_option maxRecDepth 100000 in
theorem c7_builds (l : Launch) (D : va_G) (tc : Nat → ClassId) (zb : Nat) (b b1 : Nat) (o : Nat → Value) (g : Nat → Nat) (q : Nat) (hk : k_ok g) (hq : q < 6) : IP l yX7_builds wsX7_builds 1 21 D tc zb (w_ms tc b b1 o g) (w_ms tc b b1 o (m_bld g q)) [.ref b, .int (nI q)] (some (.int (nI (g 0 * k_lk (g 0))))) := by
  refine IP.of (cc := cX7_builds) (maxL := 3) (ret := (some .int)) (by decide) rfl (Nat.le_of_ble_eq_true rfl) ?_
  intro p e s m args below meth c A hx hb hr hml hlk hts hown hM hS hP hD ls hl
  have hl : lv_has ls 3 [(0, .ref b), (1, .int (nI q))] := hl
  have hinX7 : ∀ w ∈ u_ws RX7 TX7 9, w ∈ wsX7_builds := by decide +kernel
  obtain ⟨ok0, ok1, ok2, ok3, ok4, ok5, ok6⟩ := id hk
  refine lv_aload_n hx hb dX7_builds_0 rfl (lv_at hl 0 rfl) ?_
  refine va_get (D := D) (ci := 6) (v := .ref b1) (C := RX7) (T := TX7) (N := 9) hx hb hts hinX7 hown hM.1 hP 0 rfl rfl 1 (by decide) (hts (.fieldLink RX7 7 "TripleWaysModel" "s" "[I") (by decide +kernel)) (fun _ h9 => h9) rfl dX7_builds_1 ?_
  refine lv_iconst (v := (nI 0)) hx hb dX7_builds_4 (by decide) ?_
  refine ln_iald hx hb hM.1 hP 1 0 rfl rfl dX7_builds_5 (by decide) (by omega) (rfl) ?_
  refine lv_aload_n hx hb dX7_builds_6 rfl (lv_at hl 0 rfl) ?_
  refine va_get (D := D) (ci := 6) (v := .ref b1) (C := RX7) (T := TX7) (N := 9) hx hb hts hinX7 hown hM.1 hP 0 rfl rfl 1 (by decide) (hts (.fieldLink RX7 7 "TripleWaysModel" "s" "[I") (by decide +kernel)) (fun _ h9 => h9) rfl dX7_builds_7 ?_
  refine lv_iconst (v := (nI 0)) hx hb dX7_builds_10 (by decide) ?_
  refine ln_iald hx hb hM.1 hP 1 0 rfl rfl dX7_builds_11 (by decide) (by omega) (rfl) ?_
  refine ro_S (n := 1) ⟨hx, hb, hml, hown, hts⟩ hM hS hP (c7_look l D tc zb (g 0) (by omega)) gX7_builds_X7_look rfl (by decide +kernel) ⟨Nat.le_of_ble_eq_true rfl, Nat.le_of_ble_eq_true rfl⟩ [] rfl rfl hl.1 rfl (Nat.le_of_ble_eq_true rfl) dX7_builds_12 ⟨Nat.le_refl _, Nat.le_refl _⟩ ?_
  have hf1 := k_lk_le ((g 0))
  refine ln_imul hx hb dX7_builds_15 ?_
  refine lv_istore_n (lv' := [(2, .int (nI ((g 0) * (k_lk (g 0))))), (0, .ref b), (1, .int (nI q))]) hx hb dX7_builds_16 rfl hl (by decide) rfl (fun ls hl => ?_)
  refine lv_aload_n hx hb dX7_builds_17 rfl (lv_at hl 1 rfl) ?_
  refine va_get (D := D) (ci := 6) (v := .ref b1) (C := RX7) (T := TX7) (N := 9) hx hb hts hinX7 hown hM.1 hP 0 rfl rfl 1 (by decide) (hts (.fieldLink RX7 7 "TripleWaysModel" "s" "[I") (by decide +kernel)) (fun _ h9 => h9) rfl dX7_builds_18 ?_
  refine lv_bipush (v := (nI 43)) hx hb dX7_builds_21 (by decide) ?_
  refine lv_dup2_11 hx hb dX7_builds_23 rfl rfl ?_
  refine ln_iald hx hb hM.1 hP 1 0 rfl rfl dX7_builds_24 (by decide) (by omega) (rfl) ?_
  refine lv_iload_n hx hb dX7_builds_25 rfl (lv_at hl 0 rfl) ?_
  refine ln_iadd hx hb dX7_builds_26 ?_
  refine ln_iastN hx hb hM.1 hP hD hS 1 0 rfl rfl dX7_builds_27 (by decide) (by omega) (fun H locs hP hD hS => ?_)
  have hP : va_P D vwCl [(b, .inr (6, [o 0, .ref b1, o 2, o 3, o 4, o 5, o 6, o 7, o 8])), (b1, .inl (tc 0, 60, .inl ((fun k => nI (k_up g 43 ((g 43) + ((g 0) * (k_lk (g 0)))) k)))))] H := hP
  have hD : va_D A [(b, .inr (6, [o 0, .ref b1, o 2, o 3, o 4, o 5, o 6, o 7, o 8])), (b1, .inl (tc 0, 60, .inl ((fun k => nI (k_up g 43 ((g 43) + ((g 0) * (k_lk (g 0)))) k)))))] := hD
  refine lv_aload_n hx hb dX7_builds_28 rfl (lv_at hl 1 rfl) ?_
  refine va_get (D := D) (ci := 6) (v := .ref b1) (C := RX7) (T := TX7) (N := 9) hx hb hts hinX7 hown hM.1 hP 0 rfl rfl 1 (by decide) (hts (.fieldLink RX7 7 "TripleWaysModel" "s" "[I") (by decide +kernel)) (fun _ h9 => h9) rfl dX7_builds_29 ?_
  refine lv_bipush (v := (nI 41)) hx hb dX7_builds_32 (by decide) ?_
  refine lv_dup2_11 hx hb dX7_builds_34 rfl rfl ?_
  refine ln_iald hx hb hM.1 hP 1 0 rfl rfl dX7_builds_35 (by decide) (by omega) (congrArg nI (show k_up g 43 ((g 43) + ((g 0) * (k_lk (g 0)))) 41 = g 41 by rw [k_up_ne (by omega)])) ?_
  refine lv_iconst (v := (nI 1)) hx hb dX7_builds_36 (by decide) ?_
  refine lv_iload_n hx hb dX7_builds_37 rfl (lv_at hl 2 rfl) ?_
  refine ln_ishl1 hx hb dX7_builds_38 (by omega) ?_
  refine ln_ior hx hb dX7_builds_39 ?_
  refine ln_iastN hx hb hM.1 hP hD hS 1 0 rfl rfl dX7_builds_40 (by decide) (by omega) (fun H locs hP hD hS => ?_)
  have hP : va_P D vwCl [(b, .inr (6, [o 0, .ref b1, o 2, o 3, o 4, o 5, o 6, o 7, o 8])), (b1, .inl (tc 0, 60, .inl ((fun k => nI (k_up (k_up g 43 ((g 43) + ((g 0) * (k_lk (g 0))))) 41 ((g 41) ||| (2 ^ q)) k)))))] H := hP
  have hD : va_D A [(b, .inr (6, [o 0, .ref b1, o 2, o 3, o 4, o 5, o 6, o 7, o 8])), (b1, .inl (tc 0, 60, .inl ((fun k => nI (k_up (k_up g 43 ((g 43) + ((g 0) * (k_lk (g 0))))) 41 ((g 41) ||| (2 ^ q)) k)))))] := hD
  refine lv_iload_n hx hb dX7_builds_41 rfl (lv_at hl 0 rfl) ?_
  exact ip_iret hx hb hr hlk dX7_builds_42 hS (congrArg nI (by omega)) hP
set_option maxHeartbeats 4000000 in
set_option maxRecDepth 100000 in
theorem c7_drops (l : Launch) (D : va_G) (tc : Nat → ClassId) (zb : Nat) (b b1 : Nat) (o : Nat → Value) (g : Nat → Nat) (q : Nat) (hk : k_ok g) (hq : q < 6) : IP l yX7_drops wsX7_drops 1 22 D tc zb (w_ms tc b b1 o g) (w_ms tc b b1 o (m_drp g q)) [.ref b, .int (nI q)] (some (.int (nI (k_pc (g 41 &&& (63 ^^^ 2 ^ q)))))) := by
  refine IP.of (cc := cX7_drops) (maxL := 2) (ret := (some .int)) (by decide) rfl (Nat.le_of_ble_eq_true rfl) ?_
  intro p e s m args below meth c A hx hb hr hml hlk hts hown hM hS hP hD ls hl
  have hl : lv_has ls 2 [(0, .ref b), (1, .int (nI q))] := hl
  have hinX7 : ∀ w ∈ u_ws RX7 TX7 9, w ∈ wsX7_drops := by decide +kernel
  obtain ⟨ok0, ok1, ok2, ok3, ok4, ok5, ok6⟩ := id hk
  refine lv_aload_n hx hb dX7_drops_0 rfl (lv_at hl 0 rfl) ?_
  refine va_get (D := D) (ci := 6) (v := .ref b1) (C := RX7) (T := TX7) (N := 9) hx hb hts hinX7 hown hM.1 hP 0 rfl rfl 1 (by decide) (hts (.fieldLink RX7 7 "TripleWaysModel" "s" "[I") (by decide +kernel)) (fun _ h9 => h9) rfl dX7_drops_1 ?_
  refine lv_bipush (v := (nI 41)) hx hb dX7_drops_4 (by decide) ?_
  refine lv_dup2_11 hx hb dX7_drops_6 rfl rfl ?_
  refine ln_iald hx hb hM.1 hP 1 0 rfl rfl dX7_drops_7 (by decide) (by omega) (rfl) ?_
  refine lv_iconst (v := (nI 1)) hx hb dX7_drops_8 (by decide) ?_
  refine lv_iload_n hx hb dX7_drops_9 rfl (lv_at hl 1 rfl) ?_
  refine ln_ishl1 hx hb dX7_drops_10 (by omega) ?_
  refine lv_iconst (v := (-1)) hx hb dX7_drops_11 (by decide) ?_
  refine lv_ixor hx hb dX7_drops_12 ?_
  refine ln_iandn hx hb dX7_drops_13 (by omega) (k_pow64 (by omega)) ?_
  refine ln_iastN hx hb hM.1 hP hD hS 1 0 rfl rfl dX7_drops_14 (by decide) (by omega) (fun H locs hP hD hS => ?_)
  have hP : va_P D vwCl [(b, .inr (6, [o 0, .ref b1, o 2, o 3, o 4, o 5, o 6, o 7, o 8])), (b1, .inl (tc 0, 60, .inl ((fun k => nI (k_up g 41 ((g 41) &&& (63 ^^^ (2 ^ q))) k)))))] H := hP
  have hD : va_D A [(b, .inr (6, [o 0, .ref b1, o 2, o 3, o 4, o 5, o 6, o 7, o 8])), (b1, .inl (tc 0, 60, .inl ((fun k => nI (k_up g 41 ((g 41) &&& (63 ^^^ (2 ^ q))) k)))))] := hD
  have hd9 : g 41 &&& (63 ^^^ 2 ^ q) < 64 := k_and64 ok1
  refine lv_aload_n hx hb dX7_drops_15 rfl (lv_at hl 0 rfl) ?_
  refine va_get (D := D) (ci := 6) (v := .ref b1) (C := RX7) (T := TX7) (N := 9) hx hb hts hinX7 hown hM.1 hP 0 rfl rfl 1 (by decide) (hts (.fieldLink RX7 7 "TripleWaysModel" "s" "[I") (by decide +kernel)) (fun _ h9 => h9) rfl dX7_drops_16 ?_
  refine lv_bipush (v := (nI 41)) hx hb dX7_drops_19 (by decide) ?_
  refine ln_iald hx hb hM.1 hP 1 0 rfl rfl dX7_drops_21 (by decide) (by omega) (congrArg nI (show k_up g 41 ((g 41) &&& (63 ^^^ (2 ^ q))) 41 = (g 41) &&& (63 ^^^ (2 ^ q)) by rw [k_up_eq rfl])) ?_
  refine ro_S (n := 1) ⟨hx, hb, hml, hown, hts⟩ hM hS hP (c7_bitsOf l D tc zb ((g 41) &&& (63 ^^^ (2 ^ q))) (by omega)) gX7_drops_X7_bitsOf rfl (by decide +kernel) ⟨Nat.le_of_ble_eq_true rfl, Nat.le_of_ble_eq_true rfl⟩ [] rfl rfl hl.1 rfl (Nat.le_of_ble_eq_true rfl) dX7_drops_22 ⟨Nat.le_refl _, Nat.le_refl _⟩ ?_
  have hf1 := k_pc_le ((g 41) &&& (63 ^^^ (2 ^ q)))
  exact ip_iret hx hb hr hlk dX7_drops_25 hS (congrArg nI (by omega)) hP
set_option maxHeartbeats 4000000 in
set_option maxRecDepth 100000 in
theorem c7_sumBy (l : Launch) (D : va_G) (tc : Nat → ClassId) (zb : Nat) (b b1 : Nat) (o : Nat → Value) (g : Nat → Nat) (set : Nat) (hk : k_ok g) (hs : set < 64) : RO l yX7_sumBy wsX7_sumBy 7 160 D tc zb (w_ms tc b b1 o g) [.ref b, .int (nI set)] (.int (nI (k_sum g set))) := by
  refine RO.of (cc := cX7_sumBy) (maxL := 4) (ret := (some .int)) (by decide) rfl (Nat.le_of_ble_eq_true rfl) ?_
  intro p e s m args below meth c hx hb hr hml hlk hts hown hM hS hP ls hl
  have hl : lv_has ls 4 [(0, .ref b), (1, .int (nI set))] := hl
  have hinX7 : ∀ w ∈ u_ws RX7 TX7 9, w ∈ wsX7_sumBy := by decide +kernel
  obtain ⟨ok0, ok1, ok2, ok3, ok4, ok5, ok6⟩ := id hk
  refine lv_iconst (v := (nI 0)) hx hb dX7_sumBy_0 (by decide) ?_
  refine lv_istore_n (lv' := [(2, .int (nI 0)), (0, .ref b), (1, .int (nI set))]) hx hb dX7_sumBy_1 rfl hl (by decide) rfl (fun ls hl => ?_)
  refine lv_iconst (v := (nI 0)) hx hb dX7_sumBy_2 (by decide) ?_
  refine lv_istore_n (lv' := [(3, .int (nI 0)), (2, .int (nI 0)), (0, .ref b), (1, .int (nI set))]) hx hb dX7_sumBy_3 rfl hl (by decide) rfl (fun ls hl => ?_)
  have lp4 : ∀ (n9 : Nat) (acc : Nat) (i : Nat), (g 46 - i) < n9 → (i ≤ g 46) → (acc = k_sm g set i) → ∀ ls : Array Slot, lv_has ls 4 [(3, .int (nI i)), (2, .int (nI acc)), (0, .ref b), (1, .int (nI set))] → W p l e ({ frames := 7, cells := 0, slots := 0, locals := 160 } : Room) s m args below meth c s.heap [] 0 0 (MQ below (roQ (.int (nI (k_sum g set)))) args s 0 0 (fun _ => False)) (F0 m 4 ls []) := by
    intro n9
    induction n9 with
    | zero => intro acc i hmu; exact absurd hmu (Nat.not_lt_zero _)
    | succ n9 ih4 =>
      intro acc i hmu hi hv ls hl
      refine lv_iload_n hx hb dX7_sumBy_4 rfl (lv_at hl 0 rfl) ?_
      refine lv_aload_n hx hb dX7_sumBy_5 rfl (lv_at hl 2 rfl) ?_
      refine va_get (D := D) (ci := 6) (v := .ref b1) (C := RX7) (T := TX7) (N := 9) hx hb hts hinX7 hown hM.1 hP 0 rfl rfl 1 (by decide) (hts (.fieldLink RX7 7 "TripleWaysModel" "s" "[I") (by decide +kernel)) (fun _ h9 => h9) rfl dX7_sumBy_6 ?_
      refine lv_bipush (v := (nI 46)) hx hb dX7_sumBy_9 (by decide) ?_
      refine ln_iald hx hb hM.1 hP 1 0 rfl rfl dX7_sumBy_11 (by decide) (by omega) (rfl) ?_
      refine ln_icmp_ge (tgt := 38) hx hb dX7_sumBy_12 (by decide) (by omega) (by omega) (fun h1 => ?_) (fun h1 => ?_)
      · refine lv_iload_n hx hb dX7_sumBy_38 rfl (lv_at hl 1 rfl) ?_
        exact ro_iret hx hb hr hlk dX7_sumBy_39 (congrArg nI (by have e9 : i = g 46 := (by omega); subst e9; exact hv))
      · refine lv_iload_n hx hb dX7_sumBy_15 rfl (lv_at hl 1 rfl) ?_
        refine lv_aload_n hx hb dX7_sumBy_16 rfl (lv_at hl 2 rfl) ?_
        refine lv_aload_n hx hb dX7_sumBy_17 rfl (lv_at hl 2 rfl) ?_
        refine va_get (D := D) (ci := 6) (v := .ref b1) (C := RX7) (T := TX7) (N := 9) hx hb hts hinX7 hown hM.1 hP 0 rfl rfl 1 (by decide) (hts (.fieldLink RX7 7 "TripleWaysModel" "s" "[I") (by decide +kernel)) (fun _ h9 => h9) rfl dX7_sumBy_18 ?_
        refine lv_bipush (v := (nI 47)) hx hb dX7_sumBy_21 (by decide) ?_
        refine lv_iload_n hx hb dX7_sumBy_23 rfl (lv_at hl 0 rfl) ?_
        refine ln_iadd hx hb dX7_sumBy_24 ?_
        refine ln_iald hx hb hM.1 hP 1 0 rfl rfl dX7_sumBy_25 (by decide) (by omega) (rfl) ?_
        refine lv_iload_n hx hb dX7_sumBy_26 rfl (lv_at hl 3 rfl) ?_
        refine ro_V (C := RX7) (n := 2) ⟨hx, hb, hml, hown, hts⟩ hM hS hP (c7_costOf l D tc zb b b1 o g (g (47 + i)) set hk (by first | omega | exact ok5 _ (by omega)) (by omega)) gX7_sumBy_X7_costOf rfl (by decide +kernel) ⟨Nat.le_of_ble_eq_true rfl, Nat.le_of_ble_eq_true rfl⟩ [0, 1] rfl (va_recv hM.1 hP (ci := 6) (q0 := 0) rfl rfl) rfl hl.1 rfl (Nat.le_of_ble_eq_true rfl) dX7_sumBy_27 ⟨Nat.le_refl _, Nat.le_refl _⟩ ?_
        have hf2 := k_mn_le g (g (47 + i)) set 6
        refine ln_iadd hx hb dX7_sumBy_30 ?_
        refine lv_istore_n (lv' := [(2, .int (nI (acc + (k_mn g (g (47 + i)) set 6)))), (3, .int (nI i)), (0, .ref b), (1, .int (nI set))]) hx hb dX7_sumBy_31 rfl hl (by decide) rfl (fun ls hl => ?_)
        refine lv_iinc (v := (nI (i + 1))) (lv' := [(3, .int (nI (i + 1))), (2, .int (nI (acc + (k_mn g (g (47 + i)) set 6)))), (0, .ref b), (1, .int (nI set))]) hx hb dX7_sumBy_32 hl (k := 1) rfl (nI_add i 1) (by decide) rfl (fun ls hl => ?_)
        refine lv_goto (tgt := 4) hx hb dX7_sumBy_35 (by decide) ?_
        exact ih4 (acc + (k_mn g (g (47 + i)) set 6)) (i + 1) (by omega) (by omega) (by rw [k_sm, hv]) _ (lv_sub hl [0, 1, 2, 3] rfl)
  exact lp4 _ 0 0 (Nat.lt_succ_self _) (by omega) (by rfl) _ (lv_sub hl [0, 1, 2, 3] rfl)
set_option maxHeartbeats 4000000 in
set_option maxRecDepth 100000 in
theorem c7_dues (l : Launch) (D : va_G) (tc : Nat → ClassId) (zb : Nat) (b b1 : Nat) (o : Nat → Value) (g : Nat → Nat) (hk : k_ok g) : RO l yX7_dues wsX7_dues 1 21 D tc zb (w_ms tc b b1 o g) [.ref b] (.int (nI (k_due g))) := by
  refine RO.of (cc := cX7_dues) (maxL := 1) (ret := (some .int)) (by decide) rfl (Nat.le_of_ble_eq_true rfl) ?_
  intro p e s m args below meth c hx hb hr hml hlk hts hown hM hS hP ls hl
  have hl : lv_has ls 1 [(0, .ref b)] := hl
  have hinX7 : ∀ w ∈ u_ws RX7 TX7 9, w ∈ wsX7_dues := by decide +kernel
  obtain ⟨ok0, ok1, ok2, ok3, ok4, ok5, ok6⟩ := id hk
  refine lv_aload_n hx hb dX7_dues_0 rfl (lv_at hl 0 rfl) ?_
  refine va_get (D := D) (ci := 6) (v := .ref b1) (C := RX7) (T := TX7) (N := 9) hx hb hts hinX7 hown hM.1 hP 0 rfl rfl 1 (by decide) (hts (.fieldLink RX7 7 "TripleWaysModel" "s" "[I") (by decide +kernel)) (fun _ h9 => h9) rfl dX7_dues_1 ?_
  refine lv_bipush (v := (nI 59)) hx hb dX7_dues_4 (by decide) ?_
  refine ln_iald hx hb hM.1 hP 1 0 rfl rfl dX7_dues_6 (by decide) (by omega) (rfl) ?_
  refine lv_aload_n hx hb dX7_dues_7 rfl (lv_at hl 0 rfl) ?_
  refine va_get (D := D) (ci := 6) (v := .ref b1) (C := RX7) (T := TX7) (N := 9) hx hb hts hinX7 hown hM.1 hP 0 rfl rfl 1 (by decide) (hts (.fieldLink RX7 7 "TripleWaysModel" "s" "[I") (by decide +kernel)) (fun _ h9 => h9) rfl dX7_dues_8 ?_
  refine lv_iconst (v := (nI 0)) hx hb dX7_dues_11 (by decide) ?_
  refine ln_iald hx hb hM.1 hP 1 0 rfl rfl dX7_dues_12 (by decide) (by omega) (rfl) ?_
  refine ro_S (n := 1) ⟨hx, hb, hml, hown, hts⟩ hM hS hP (c7_look l D tc zb (g 0) (by omega)) gX7_dues_X7_look rfl (by decide +kernel) ⟨Nat.le_of_ble_eq_true rfl, Nat.le_of_ble_eq_true rfl⟩ [] rfl rfl hl.1 rfl (Nat.le_of_ble_eq_true rfl) dX7_dues_13 ⟨Nat.le_refl _, Nat.le_refl _⟩ ?_
  have hf1 := k_lk_le ((g 0))
  refine lv_iconst (v := (nI 1)) hx hb dX7_dues_16 (by decide) ?_
  refine ln_iadd hx hb dX7_dues_17 ?_
  refine ln_imul hx hb dX7_dues_18 ?_
  exact ro_iret hx hb hr hlk dX7_dues_19 (congrArg nI (by rfl))
set_option maxHeartbeats 4000000 in
set_option maxRecDepth 100000 in
theorem c7_valueOf (l : Launch) (D : va_G) (tc : Nat → ClassId) (zb : Nat) (b b1 : Nat) (o : Nat → Value) (g : Nat → Nat) (q : Nat) (hk : k_ok g) (hq : q < 6) : RO l yX7_valueOf wsX7_valueOf 8 183 D tc zb (w_ms tc b b1 o g) [.ref b, .int (nI q)] (.int (zI (k_val g q))) := by
  refine RO.of (cc := cX7_valueOf) (maxL := 3) (ret := (some .int)) (by decide) rfl (Nat.le_of_ble_eq_true rfl) ?_
  intro p e s m args below meth c hx hb hr hml hlk hts hown hM hS hP ls hl
  have hl : lv_has ls 3 [(0, .ref b), (1, .int (nI q))] := hl
  have hinX7 : ∀ w ∈ u_ws RX7 TX7 9, w ∈ wsX7_valueOf := by decide +kernel
  obtain ⟨ok0, ok1, ok2, ok3, ok4, ok5, ok6⟩ := id hk
  refine lv_iconst (v := (nI 1)) hx hb dX7_valueOf_0 (by decide) ?_
  refine lv_iload_n hx hb dX7_valueOf_1 rfl (lv_at hl 1 rfl) ?_
  refine ln_ishl1 hx hb dX7_valueOf_2 (by omega) ?_
  refine lv_istore_n (lv' := [(2, .int (nI (2 ^ q))), (0, .ref b), (1, .int (nI q))]) hx hb dX7_valueOf_3 rfl hl (by decide) rfl (fun ls hl => ?_)
  have hc9 : g 41 &&& (63 ^^^ 2 ^ q) < 64 := k_and64 ok1
  have ho9 : g 41 ||| 2 ^ q < 64 := k_or64 _ ok1 _ hq
  refine lv_aload_n hx hb dX7_valueOf_4 rfl (lv_at hl 1 rfl) ?_
  refine lv_aload_n hx hb dX7_valueOf_5 rfl (lv_at hl 1 rfl) ?_
  refine va_get (D := D) (ci := 6) (v := .ref b1) (C := RX7) (T := TX7) (N := 9) hx hb hts hinX7 hown hM.1 hP 0 rfl rfl 1 (by decide) (hts (.fieldLink RX7 7 "TripleWaysModel" "s" "[I") (by decide +kernel)) (fun _ h9 => h9) rfl dX7_valueOf_6 ?_
  refine lv_bipush (v := (nI 41)) hx hb dX7_valueOf_9 (by decide) ?_
  refine ln_iald hx hb hM.1 hP 1 0 rfl rfl dX7_valueOf_11 (by decide) (by omega) (rfl) ?_
  refine lv_iload_n hx hb dX7_valueOf_12 rfl (lv_at hl 0 rfl) ?_
  refine lv_iconst (v := (-1)) hx hb dX7_valueOf_13 (by decide) ?_
  refine lv_ixor hx hb dX7_valueOf_14 ?_
  refine ln_iandn hx hb dX7_valueOf_15 (by omega) (k_pow64 (by omega)) ?_
  refine ro_V (C := RX7) (n := 1) ⟨hx, hb, hml, hown, hts⟩ hM hS hP (c7_sumBy l D tc zb b b1 o g ((g 41) &&& (63 ^^^ (2 ^ q))) hk (by omega)) gX7_valueOf_X7_sumBy rfl (by decide +kernel) ⟨Nat.le_of_ble_eq_true rfl, Nat.le_of_ble_eq_true rfl⟩ [0, 1] rfl (va_recv hM.1 hP (ci := 6) (q0 := 0) rfl rfl) rfl hl.1 rfl (Nat.le_of_ble_eq_true rfl) dX7_valueOf_16 ⟨Nat.le_refl _, Nat.le_refl _⟩ ?_
  have hf1 := show k_sum g ((g 41) &&& (63 ^^^ (2 ^ q))) ≤ 480 from k_sum_le hk
  refine lv_aload_n hx hb dX7_valueOf_19 rfl (lv_at hl 1 rfl) ?_
  refine lv_aload_n hx hb dX7_valueOf_20 rfl (lv_at hl 1 rfl) ?_
  refine va_get (D := D) (ci := 6) (v := .ref b1) (C := RX7) (T := TX7) (N := 9) hx hb hts hinX7 hown hM.1 hP 0 rfl rfl 1 (by decide) (hts (.fieldLink RX7 7 "TripleWaysModel" "s" "[I") (by decide +kernel)) (fun _ h9 => h9) rfl dX7_valueOf_21 ?_
  refine lv_bipush (v := (nI 41)) hx hb dX7_valueOf_24 (by decide) ?_
  refine ln_iald hx hb hM.1 hP 1 0 rfl rfl dX7_valueOf_26 (by decide) (by omega) (rfl) ?_
  refine lv_iload_n hx hb dX7_valueOf_27 rfl (lv_at hl 0 rfl) ?_
  refine ln_ior hx hb dX7_valueOf_28 ?_
  refine ro_V (C := RX7) (n := 1) ⟨hx, hb, hml, hown, hts⟩ hM hS hP (c7_sumBy l D tc zb b b1 o g ((g 41) ||| (2 ^ q)) hk (by omega)) gX7_valueOf_X7_sumBy rfl (by decide +kernel) ⟨Nat.le_of_ble_eq_true rfl, Nat.le_of_ble_eq_true rfl⟩ [0, 1] rfl (va_recv hM.1 hP (ci := 6) (q0 := 0) rfl rfl) rfl hl.1 rfl (Nat.le_of_ble_eq_true rfl) dX7_valueOf_29 ⟨Nat.le_refl _, Nat.le_refl _⟩ ?_
  have hf2 := show k_sum g ((g 41) ||| (2 ^ q)) ≤ 480 from k_sum_le hk
  refine ln_isubZ hx hb dX7_valueOf_32 ?_
  refine lv_aload_n hx hb dX7_valueOf_33 rfl (lv_at hl 1 rfl) ?_
  refine ro_V (C := RX7) (n := 0) ⟨hx, hb, hml, hown, hts⟩ hM hS hP (c7_dues l D tc zb b b1 o g hk) gX7_valueOf_X7_dues rfl (by decide +kernel) ⟨Nat.le_of_ble_eq_true rfl, Nat.le_of_ble_eq_true rfl⟩ [0, 1] rfl (va_recv hM.1 hP (ci := 6) (q0 := 0) rfl rfl) rfl hl.1 rfl (Nat.le_of_ble_eq_true rfl) dX7_valueOf_34 ⟨Nat.le_refl _, Nat.le_refl _⟩ ?_
  have hf3 := k_due_le hk
  refine ln_isubZN hx hb dX7_valueOf_37 ?_
  exact ro_iret hx hb hr hlk dX7_valueOf_38 (by rfl)
set_option maxHeartbeats 4000000 in
set_option maxRecDepth 100000 in
theorem c7_adviceU (l : Launch) (D : va_G) (tc : Nat → ClassId) (zb : Nat) (b b1 : Nat) (o : Nat → Value) (g : Nat → Nat) (hk : k_ok g) : RO l yX7_advice wsX7_advice 9 205 D tc zb (w_ms tc b b1 o g) [.ref b, .int (nI 1)] (.int (oI (k_go g 6))) := by
  refine RO.of (cc := cX7_advice) (maxL := 7) (ret := (some .int)) (by decide) rfl (Nat.le_of_ble_eq_true rfl) ?_
  intro p e s m args below meth c hx hb hr hml hlk hts hown hM hS hP ls hl
  have hl : lv_has ls 7 [(0, .ref b), (1, .int (nI 1))] := hl
  have hinX7 : ∀ w ∈ u_ws RX7 TX7 9, w ∈ wsX7_advice := by decide +kernel
  obtain ⟨ok0, ok1, ok2, ok3, ok4, ok5, ok6⟩ := id hk
  refine lv_iconst (v := (-1)) hx hb dX7_advice_0 (by decide) ?_
  refine lv_istore_n (lv' := [(2, .int (-1)), (0, .ref b), (1, .int (nI 1))]) hx hb dX7_advice_1 rfl hl (by decide) rfl (fun ls hl => ?_)
  refine lv_iconst (v := (nI 0)) hx hb dX7_advice_2 (by decide) ?_
  refine lv_istore_n (lv' := [(3, .int (nI 0)), (2, .int (-1)), (0, .ref b), (1, .int (nI 1))]) hx hb dX7_advice_3 rfl hl (by decide) rfl (fun ls hl => ?_)
  refine lv_iconst (v := (nI 0)) hx hb dX7_advice_4 (by decide) ?_
  refine lv_istore (lv' := [(4, .int (nI 0)), (3, .int (nI 0)), (2, .int (-1)), (0, .ref b), (1, .int (nI 1))]) hx hb dX7_advice_5 hl (by decide) rfl (fun ls hl => ?_)
  have lp7 : ∀ (n9 : Nat) (bo : Option Nat) (z : Int) (i : Nat), (6 - i) < n9 → (i ≤ 6) → (z = k_gt g i) → (-2000 < z ∧ z < 2000) → (bo = k_go g i) → ∀ ls : Array Slot, lv_has ls 7 [(4, .int (nI i)), (3, .int (zI (z))), (2, .int (oI (bo))), (0, .ref b), (1, .int (nI 1))] → W p l e ({ frames := 9, cells := 0, slots := 0, locals := 205 } : Room) s m args below meth c s.heap [] 0 0 (MQ below (roQ (.int (oI (k_go g 6)))) args s 0 0 (fun _ => False)) (F0 m 7 ls []) := by
    intro n9
    induction n9 with
    | zero => intro bo z i hmu; exact absurd hmu (Nat.not_lt_zero _)
    | succ n9 ih7 =>
      intro bo z i hmu hi hz hzb hb9 ls hl
      refine lv_iload hx hb dX7_advice_7 (lv_at hl 0 rfl) ?_
      refine lv_bipush (v := (nI 6)) hx hb dX7_advice_9 (by decide) ?_
      refine ln_icmp_ge (tgt := 99) hx hb dX7_advice_11 (by decide) (by omega) (by decide) (fun h1 => ?_) (fun h1 => ?_)
      · refine lv_iload_n hx hb dX7_advice_99 rfl (lv_at hl 2 rfl) ?_
        exact ro_iret hx hb hr hlk dX7_advice_100 (congrArg oI (by have e9 : i = 6 := (by omega); subst e9; exact hb9))
      · refine lv_aload_n hx hb dX7_advice_14 rfl (lv_at hl 3 rfl) ?_
        refine va_get (D := D) (ci := 6) (v := .ref b1) (C := RX7) (T := TX7) (N := 9) hx hb hts hinX7 hown hM.1 hP 0 rfl rfl 1 (by decide) (hts (.fieldLink RX7 7 "TripleWaysModel" "s" "[I") (by decide +kernel)) (fun _ h9 => h9) rfl dX7_advice_15 ?_
        refine lv_bipush (v := (nI 41)) hx hb dX7_advice_18 (by decide) ?_
        refine ln_iald hx hb hM.1 hP 1 0 rfl rfl dX7_advice_20 (by decide) (by omega) (rfl) ?_
        refine lv_iload hx hb dX7_advice_21 (lv_at hl 0 rfl) ?_
        refine ro_S (n := 2) ⟨hx, hb, hml, hown, hts⟩ hM hS hP (c7_isIn l D tc zb (g 41) i (by omega) (by omega)) gX7_advice_X7_isIn rfl (by decide +kernel) ⟨Nat.le_of_ble_eq_true rfl, Nat.le_of_ble_eq_true rfl⟩ [] rfl rfl hl.1 rfl (Nat.le_of_ble_eq_true rfl) dX7_advice_23 ⟨Nat.le_refl _, Nat.le_refl _⟩ ?_
        refine lv_iload_n hx hb dX7_advice_26 rfl (lv_at hl 4 rfl) ?_
        refine ln_icmp_eqB1 (tgt := 93) hx hb dX7_advice_27 (by decide) (fun h2 => ?_) (fun h2 => ?_)
        · refine lv_iinc (v := (nI (i + 1))) (lv' := [(4, .int (nI (i + 1))), (3, .int (zI (z))), (2, .int (oI (bo))), (0, .ref b), (1, .int (nI 1))]) hx hb dX7_advice_93 hl (k := 0) rfl (nI_add i 1) (by decide) rfl (fun ls hl => ?_)
          refine lv_goto (tgt := 7) hx hb dX7_advice_96 (by decide) ?_
          exact ih7 bo z (i + 1) (by omega) (by omega) (by first | (exfalso; omega) | (rw [k_gt, if_pos ⟨by assumption, by omega⟩]) | (rw [k_gt, if_neg (fun h9 => by have h8 := h9.2; omega)]; exact hz) | (rw [k_gt, if_neg (fun h9 => by have h8 := h9.1; simp_all)]; exact hz)) (by omega) (by first | (exfalso; omega) | (rw [k_go, if_pos ⟨by assumption, by omega⟩]) | (rw [k_go, if_neg (fun h9 => by have h8 := h9.2; omega)]; exact hb9) | (rw [k_go, if_neg (fun h9 => by have h8 := h9.1; simp_all)]; exact hb9)) _ (lv_sub hl [0, 1, 2, 3, 4] rfl)
        · refine lv_aload_n hx hb dX7_advice_30 rfl (lv_at hl 3 rfl) ?_
          refine lv_iload hx hb dX7_advice_31 (lv_at hl 0 rfl) ?_
          refine ro_V (C := RX7) (n := 1) ⟨hx, hb, hml, hown, hts⟩ hM hS hP (c7_valueOf l D tc zb b b1 o g i hk (by omega)) gX7_advice_X7_valueOf rfl (by decide +kernel) ⟨Nat.le_of_ble_eq_true rfl, Nat.le_of_ble_eq_true rfl⟩ [0, 1] rfl (va_recv hM.1 hP (ci := 6) (q0 := 0) rfl rfl) rfl hl.1 rfl (Nat.le_of_ble_eq_true rfl) dX7_advice_33 ⟨Nat.le_refl _, Nat.le_refl _⟩ ?_
          have hf3 := k_val_bd hk i
          refine lv_istore (lv' := [(5, .int (zI (k_val g i))), (4, .int (nI i)), (3, .int (zI (z))), (2, .int (oI (bo))), (0, .ref b), (1, .int (nI 1))]) hx hb dX7_advice_36 hl (by decide) rfl (fun ls hl => ?_)
          refine lv_iload_n hx hb dX7_advice_38 rfl (lv_at hl 5 rfl) ?_
          refine lv_if_eq (tgt := 56) hx hb dX7_advice_39 (by decide) (fun h9 => False.elim (by revert h9; decide)) (fun _ => ?_)
          refine lv_iload hx hb dX7_advice_42 (lv_at hl 0 rfl) ?_
          refine lv_iload_n hx hb dX7_advice_44 rfl (lv_at hl 2 rfl) ?_
          refine ln_icmp_leZ (x := (k_val g i)) (y := z) (tgt := 52) hx hb dX7_advice_45 (by decide) rfl rfl (by omega) (by omega) (by omega) (by omega) (fun h4 => ?_) (fun h4 => ?_)
          · refine lv_iconst (v := (nI 0)) hx hb dX7_advice_52 (by decide) ?_
            refine lv_goto (tgt := 67) hx hb dX7_advice_53 (by decide) ?_
            refine lv_istore (lv' := [(6, .int (nI 0)), (5, .int (zI (k_val g i))), (4, .int (nI i)), (3, .int (zI (z))), (2, .int (oI (bo))), (0, .ref b), (1, .int (nI 1))]) hx hb dX7_advice_67 hl (by decide) rfl (fun ls hl => ?_)
            refine lv_iload hx hb dX7_advice_69 (lv_at hl 0 rfl) ?_
            refine lv_if_eq (tgt := 79) hx hb dX7_advice_71 (by decide) (fun _ => ?_) (fun h9 => False.elim (by revert h9; decide))
            refine lv_iload_n hx hb dX7_advice_79 rfl (lv_at hl 4 rfl) ?_
            refine lv_istore_n (lv' := [(2, .int (oI (bo))), (6, .int (nI 0)), (5, .int (zI (k_val g i))), (4, .int (nI i)), (3, .int (zI (z))), (0, .ref b), (1, .int (nI 1))]) hx hb dX7_advice_80 rfl hl (by decide) rfl (fun ls hl => ?_)
            refine lv_iload hx hb dX7_advice_81 (lv_at hl 1 rfl) ?_
            refine lv_if_eq (tgt := 91) hx hb dX7_advice_83 (by decide) (fun _ => ?_) (fun h9 => False.elim (by revert h9; decide))
            refine lv_iload_n hx hb dX7_advice_91 rfl (lv_at hl 4 rfl) ?_
            refine lv_istore_n (lv' := [(3, .int (zI (z))), (2, .int (oI (bo))), (6, .int (nI 0)), (5, .int (zI (k_val g i))), (4, .int (nI i)), (0, .ref b), (1, .int (nI 1))]) hx hb dX7_advice_92 rfl hl (by decide) rfl (fun ls hl => ?_)
            refine lv_iinc (v := (nI (i + 1))) (lv' := [(4, .int (nI (i + 1))), (3, .int (zI (z))), (2, .int (oI (bo))), (6, .int (nI 0)), (5, .int (zI (k_val g i))), (0, .ref b), (1, .int (nI 1))]) hx hb dX7_advice_93 hl (k := 4) rfl (nI_add i 1) (by decide) rfl (fun ls hl => ?_)
            refine lv_goto (tgt := 7) hx hb dX7_advice_96 (by decide) ?_
            exact ih7 bo z (i + 1) (by omega) (by omega) (by first | (exfalso; omega) | (rw [k_gt, if_pos ⟨by assumption, by omega⟩]) | (rw [k_gt, if_neg (fun h9 => by have h8 := h9.2; omega)]; exact hz) | (rw [k_gt, if_neg (fun h9 => by have h8 := h9.1; simp_all)]; exact hz)) (by omega) (by first | (exfalso; omega) | (rw [k_go, if_pos ⟨by assumption, by omega⟩]) | (rw [k_go, if_neg (fun h9 => by have h8 := h9.2; omega)]; exact hb9) | (rw [k_go, if_neg (fun h9 => by have h8 := h9.1; simp_all)]; exact hb9)) _ (lv_sub hl [0, 1, 2, 5, 6] rfl)
          · refine lv_iconst (v := (nI 1)) hx hb dX7_advice_48 (by decide) ?_
            refine lv_goto (tgt := 67) hx hb dX7_advice_49 (by decide) ?_
            refine lv_istore (lv' := [(6, .int (nI 1)), (5, .int (zI (k_val g i))), (4, .int (nI i)), (3, .int (zI (z))), (2, .int (oI (bo))), (0, .ref b), (1, .int (nI 1))]) hx hb dX7_advice_67 hl (by decide) rfl (fun ls hl => ?_)
            refine lv_iload hx hb dX7_advice_69 (lv_at hl 0 rfl) ?_
            refine lv_if_eq (tgt := 79) hx hb dX7_advice_71 (by decide) (fun h9 => False.elim (by revert h9; decide)) (fun _ => ?_)
            refine lv_iload hx hb dX7_advice_74 (lv_at hl 2 rfl) ?_
            refine lv_goto (tgt := 80) hx hb dX7_advice_76 (by decide) ?_
            refine lv_istore_n (lv' := [(2, .int (nI i)), (6, .int (nI 1)), (5, .int (zI (k_val g i))), (4, .int (nI i)), (3, .int (zI (z))), (0, .ref b), (1, .int (nI 1))]) hx hb dX7_advice_80 rfl hl (by decide) rfl (fun ls hl => ?_)
            refine lv_iload hx hb dX7_advice_81 (lv_at hl 1 rfl) ?_
            refine lv_if_eq (tgt := 91) hx hb dX7_advice_83 (by decide) (fun h9 => False.elim (by revert h9; decide)) (fun _ => ?_)
            refine lv_iload hx hb dX7_advice_86 (lv_at hl 2 rfl) ?_
            refine lv_goto (tgt := 92) hx hb dX7_advice_88 (by decide) ?_
            refine lv_istore_n (lv' := [(3, .int (zI (k_val g i))), (2, .int (nI i)), (6, .int (nI 1)), (5, .int (zI (k_val g i))), (4, .int (nI i)), (0, .ref b), (1, .int (nI 1))]) hx hb dX7_advice_92 rfl hl (by decide) rfl (fun ls hl => ?_)
            refine lv_iinc (v := (nI (i + 1))) (lv' := [(4, .int (nI (i + 1))), (3, .int (zI (k_val g i))), (2, .int (nI i)), (6, .int (nI 1)), (5, .int (zI (k_val g i))), (0, .ref b), (1, .int (nI 1))]) hx hb dX7_advice_93 hl (k := 4) rfl (nI_add i 1) (by decide) rfl (fun ls hl => ?_)
            refine lv_goto (tgt := 7) hx hb dX7_advice_96 (by decide) ?_
            exact ih7 (some i) (k_val g i) (i + 1) (by omega) (by omega) (by first | (exfalso; omega) | (rw [k_gt, if_pos ⟨by assumption, by omega⟩]) | (rw [k_gt, if_neg (fun h9 => by have h8 := h9.2; omega)]; exact hz) | (rw [k_gt, if_neg (fun h9 => by have h8 := h9.1; simp_all)]; exact hz)) (by omega) (by first | (exfalso; omega) | (rw [k_go, if_pos ⟨by assumption, by omega⟩]) | (rw [k_go, if_neg (fun h9 => by have h8 := h9.2; omega)]; exact hb9) | (rw [k_go, if_neg (fun h9 => by have h8 := h9.1; simp_all)]; exact hb9)) _ (lv_sub hl [0, 1, 2, 5, 6] rfl)
  exact lp7 _ none 0 0 (Nat.lt_succ_self _) (by omega) (by rfl) (by omega) (by rfl) _ (lv_sub hl [0, 1, 2, 3, 4] rfl)
set_option maxHeartbeats 4000000 in
set_option maxRecDepth 100000 in
theorem c7_adviceD (l : Launch) (D : va_G) (tc : Nat → ClassId) (zb : Nat) (b b1 : Nat) (o : Nat → Value) (g : Nat → Nat) (hk : k_ok g) : RO l yX7_advice wsX7_advice 9 205 D tc zb (w_ms tc b b1 o g) [.ref b, .int (nI 0)] (.int (oI (k_lo g 6))) := by
  refine RO.of (cc := cX7_advice) (maxL := 7) (ret := (some .int)) (by decide) rfl (Nat.le_of_ble_eq_true rfl) ?_
  intro p e s m args below meth c hx hb hr hml hlk hts hown hM hS hP ls hl
  have hl : lv_has ls 7 [(0, .ref b), (1, .int (nI 0))] := hl
  have hinX7 : ∀ w ∈ u_ws RX7 TX7 9, w ∈ wsX7_advice := by decide +kernel
  obtain ⟨ok0, ok1, ok2, ok3, ok4, ok5, ok6⟩ := id hk
  refine lv_iconst (v := (-1)) hx hb dX7_advice_0 (by decide) ?_
  refine lv_istore_n (lv' := [(2, .int (-1)), (0, .ref b), (1, .int (nI 0))]) hx hb dX7_advice_1 rfl hl (by decide) rfl (fun ls hl => ?_)
  refine lv_iconst (v := (nI 0)) hx hb dX7_advice_2 (by decide) ?_
  refine lv_istore_n (lv' := [(3, .int (nI 0)), (2, .int (-1)), (0, .ref b), (1, .int (nI 0))]) hx hb dX7_advice_3 rfl hl (by decide) rfl (fun ls hl => ?_)
  refine lv_iconst (v := (nI 0)) hx hb dX7_advice_4 (by decide) ?_
  refine lv_istore (lv' := [(4, .int (nI 0)), (3, .int (nI 0)), (2, .int (-1)), (0, .ref b), (1, .int (nI 0))]) hx hb dX7_advice_5 hl (by decide) rfl (fun ls hl => ?_)
  have lp7 : ∀ (n9 : Nat) (bo : Option Nat) (z : Int) (i : Nat), (6 - i) < n9 → (i ≤ 6) → (z = k_ls g i) → (-2000 < z ∧ z < 2000) → (bo = k_lo g i) → ∀ ls : Array Slot, lv_has ls 7 [(4, .int (nI i)), (3, .int (zI (z))), (2, .int (oI (bo))), (0, .ref b), (1, .int (nI 0))] → W p l e ({ frames := 9, cells := 0, slots := 0, locals := 205 } : Room) s m args below meth c s.heap [] 0 0 (MQ below (roQ (.int (oI (k_lo g 6)))) args s 0 0 (fun _ => False)) (F0 m 7 ls []) := by
    intro n9
    induction n9 with
    | zero => intro bo z i hmu; exact absurd hmu (Nat.not_lt_zero _)
    | succ n9 ih7 =>
      intro bo z i hmu hi hz hzb hb9 ls hl
      refine lv_iload hx hb dX7_advice_7 (lv_at hl 0 rfl) ?_
      refine lv_bipush (v := (nI 6)) hx hb dX7_advice_9 (by decide) ?_
      refine ln_icmp_ge (tgt := 99) hx hb dX7_advice_11 (by decide) (by omega) (by decide) (fun h1 => ?_) (fun h1 => ?_)
      · refine lv_iload_n hx hb dX7_advice_99 rfl (lv_at hl 2 rfl) ?_
        exact ro_iret hx hb hr hlk dX7_advice_100 (congrArg oI (by have e9 : i = 6 := (by omega); subst e9; exact hb9))
      · refine lv_aload_n hx hb dX7_advice_14 rfl (lv_at hl 3 rfl) ?_
        refine va_get (D := D) (ci := 6) (v := .ref b1) (C := RX7) (T := TX7) (N := 9) hx hb hts hinX7 hown hM.1 hP 0 rfl rfl 1 (by decide) (hts (.fieldLink RX7 7 "TripleWaysModel" "s" "[I") (by decide +kernel)) (fun _ h9 => h9) rfl dX7_advice_15 ?_
        refine lv_bipush (v := (nI 41)) hx hb dX7_advice_18 (by decide) ?_
        refine ln_iald hx hb hM.1 hP 1 0 rfl rfl dX7_advice_20 (by decide) (by omega) (rfl) ?_
        refine lv_iload hx hb dX7_advice_21 (lv_at hl 0 rfl) ?_
        refine ro_S (n := 2) ⟨hx, hb, hml, hown, hts⟩ hM hS hP (c7_isIn l D tc zb (g 41) i (by omega) (by omega)) gX7_advice_X7_isIn rfl (by decide +kernel) ⟨Nat.le_of_ble_eq_true rfl, Nat.le_of_ble_eq_true rfl⟩ [] rfl rfl hl.1 rfl (Nat.le_of_ble_eq_true rfl) dX7_advice_23 ⟨Nat.le_refl _, Nat.le_refl _⟩ ?_
        refine lv_iload_n hx hb dX7_advice_26 rfl (lv_at hl 4 rfl) ?_
        refine ln_icmp_eqB0 (tgt := 93) hx hb dX7_advice_27 (by decide) (fun h2 => ?_) (fun h2 => ?_)
        · refine lv_iinc (v := (nI (i + 1))) (lv' := [(4, .int (nI (i + 1))), (3, .int (zI (z))), (2, .int (oI (bo))), (0, .ref b), (1, .int (nI 0))]) hx hb dX7_advice_93 hl (k := 0) rfl (nI_add i 1) (by decide) rfl (fun ls hl => ?_)
          refine lv_goto (tgt := 7) hx hb dX7_advice_96 (by decide) ?_
          exact ih7 bo z (i + 1) (by omega) (by omega) (by first | (exfalso; omega) | (rw [k_ls, if_pos ⟨by assumption, by omega⟩]) | (rw [k_ls, if_neg (fun h9 => by have h8 := h9.2; omega)]; exact hz) | (rw [k_ls, if_neg (fun h9 => by have h8 := h9.1; simp_all)]; exact hz)) (by omega) (by first | (exfalso; omega) | (rw [k_lo, if_pos ⟨by assumption, by omega⟩]) | (rw [k_lo, if_neg (fun h9 => by have h8 := h9.2; omega)]; exact hb9) | (rw [k_lo, if_neg (fun h9 => by have h8 := h9.1; simp_all)]; exact hb9)) _ (lv_sub hl [0, 1, 2, 3, 4] rfl)
        · refine lv_aload_n hx hb dX7_advice_30 rfl (lv_at hl 3 rfl) ?_
          refine lv_iload hx hb dX7_advice_31 (lv_at hl 0 rfl) ?_
          refine ro_V (C := RX7) (n := 1) ⟨hx, hb, hml, hown, hts⟩ hM hS hP (c7_valueOf l D tc zb b b1 o g i hk (by omega)) gX7_advice_X7_valueOf rfl (by decide +kernel) ⟨Nat.le_of_ble_eq_true rfl, Nat.le_of_ble_eq_true rfl⟩ [0, 1] rfl (va_recv hM.1 hP (ci := 6) (q0 := 0) rfl rfl) rfl hl.1 rfl (Nat.le_of_ble_eq_true rfl) dX7_advice_33 ⟨Nat.le_refl _, Nat.le_refl _⟩ ?_
          have hf3 := k_val_bd hk i
          refine lv_istore (lv' := [(5, .int (zI (k_val g i))), (4, .int (nI i)), (3, .int (zI (z))), (2, .int (oI (bo))), (0, .ref b), (1, .int (nI 0))]) hx hb dX7_advice_36 hl (by decide) rfl (fun ls hl => ?_)
          refine lv_iload_n hx hb dX7_advice_38 rfl (lv_at hl 5 rfl) ?_
          refine lv_if_eq (tgt := 56) hx hb dX7_advice_39 (by decide) (fun _ => ?_) (fun h9 => False.elim (by revert h9; decide))
          refine lv_iload hx hb dX7_advice_56 (lv_at hl 0 rfl) ?_
          refine lv_iload_n hx hb dX7_advice_58 rfl (lv_at hl 2 rfl) ?_
          refine ln_icmp_geZ (x := (k_val g i)) (y := z) (tgt := 66) hx hb dX7_advice_59 (by decide) rfl rfl (by omega) (by omega) (by omega) (by omega) (fun h4 => ?_) (fun h4 => ?_)
          · refine lv_iconst (v := (nI 0)) hx hb dX7_advice_66 (by decide) ?_
            refine lv_istore (lv' := [(6, .int (nI 0)), (5, .int (zI (k_val g i))), (4, .int (nI i)), (3, .int (zI (z))), (2, .int (oI (bo))), (0, .ref b), (1, .int (nI 0))]) hx hb dX7_advice_67 hl (by decide) rfl (fun ls hl => ?_)
            refine lv_iload hx hb dX7_advice_69 (lv_at hl 0 rfl) ?_
            refine lv_if_eq (tgt := 79) hx hb dX7_advice_71 (by decide) (fun _ => ?_) (fun h9 => False.elim (by revert h9; decide))
            refine lv_iload_n hx hb dX7_advice_79 rfl (lv_at hl 4 rfl) ?_
            refine lv_istore_n (lv' := [(2, .int (oI (bo))), (6, .int (nI 0)), (5, .int (zI (k_val g i))), (4, .int (nI i)), (3, .int (zI (z))), (0, .ref b), (1, .int (nI 0))]) hx hb dX7_advice_80 rfl hl (by decide) rfl (fun ls hl => ?_)
            refine lv_iload hx hb dX7_advice_81 (lv_at hl 1 rfl) ?_
            refine lv_if_eq (tgt := 91) hx hb dX7_advice_83 (by decide) (fun _ => ?_) (fun h9 => False.elim (by revert h9; decide))
            refine lv_iload_n hx hb dX7_advice_91 rfl (lv_at hl 4 rfl) ?_
            refine lv_istore_n (lv' := [(3, .int (zI (z))), (2, .int (oI (bo))), (6, .int (nI 0)), (5, .int (zI (k_val g i))), (4, .int (nI i)), (0, .ref b), (1, .int (nI 0))]) hx hb dX7_advice_92 rfl hl (by decide) rfl (fun ls hl => ?_)
            refine lv_iinc (v := (nI (i + 1))) (lv' := [(4, .int (nI (i + 1))), (3, .int (zI (z))), (2, .int (oI (bo))), (6, .int (nI 0)), (5, .int (zI (k_val g i))), (0, .ref b), (1, .int (nI 0))]) hx hb dX7_advice_93 hl (k := 4) rfl (nI_add i 1) (by decide) rfl (fun ls hl => ?_)
            refine lv_goto (tgt := 7) hx hb dX7_advice_96 (by decide) ?_
            exact ih7 bo z (i + 1) (by omega) (by omega) (by first | (exfalso; omega) | (rw [k_ls, if_pos ⟨by assumption, by omega⟩]) | (rw [k_ls, if_neg (fun h9 => by have h8 := h9.2; omega)]; exact hz) | (rw [k_ls, if_neg (fun h9 => by have h8 := h9.1; simp_all)]; exact hz)) (by omega) (by first | (exfalso; omega) | (rw [k_lo, if_pos ⟨by assumption, by omega⟩]) | (rw [k_lo, if_neg (fun h9 => by have h8 := h9.2; omega)]; exact hb9) | (rw [k_lo, if_neg (fun h9 => by have h8 := h9.1; simp_all)]; exact hb9)) _ (lv_sub hl [0, 1, 2, 5, 6] rfl)
          · refine lv_iconst (v := (nI 1)) hx hb dX7_advice_62 (by decide) ?_
            refine lv_goto (tgt := 67) hx hb dX7_advice_63 (by decide) ?_
            refine lv_istore (lv' := [(6, .int (nI 1)), (5, .int (zI (k_val g i))), (4, .int (nI i)), (3, .int (zI (z))), (2, .int (oI (bo))), (0, .ref b), (1, .int (nI 0))]) hx hb dX7_advice_67 hl (by decide) rfl (fun ls hl => ?_)
            refine lv_iload hx hb dX7_advice_69 (lv_at hl 0 rfl) ?_
            refine lv_if_eq (tgt := 79) hx hb dX7_advice_71 (by decide) (fun h9 => False.elim (by revert h9; decide)) (fun _ => ?_)
            refine lv_iload hx hb dX7_advice_74 (lv_at hl 2 rfl) ?_
            refine lv_goto (tgt := 80) hx hb dX7_advice_76 (by decide) ?_
            refine lv_istore_n (lv' := [(2, .int (nI i)), (6, .int (nI 1)), (5, .int (zI (k_val g i))), (4, .int (nI i)), (3, .int (zI (z))), (0, .ref b), (1, .int (nI 0))]) hx hb dX7_advice_80 rfl hl (by decide) rfl (fun ls hl => ?_)
            refine lv_iload hx hb dX7_advice_81 (lv_at hl 1 rfl) ?_
            refine lv_if_eq (tgt := 91) hx hb dX7_advice_83 (by decide) (fun h9 => False.elim (by revert h9; decide)) (fun _ => ?_)
            refine lv_iload hx hb dX7_advice_86 (lv_at hl 2 rfl) ?_
            refine lv_goto (tgt := 92) hx hb dX7_advice_88 (by decide) ?_
            refine lv_istore_n (lv' := [(3, .int (zI (k_val g i))), (2, .int (nI i)), (6, .int (nI 1)), (5, .int (zI (k_val g i))), (4, .int (nI i)), (0, .ref b), (1, .int (nI 0))]) hx hb dX7_advice_92 rfl hl (by decide) rfl (fun ls hl => ?_)
            refine lv_iinc (v := (nI (i + 1))) (lv' := [(4, .int (nI (i + 1))), (3, .int (zI (k_val g i))), (2, .int (nI i)), (6, .int (nI 1)), (5, .int (zI (k_val g i))), (0, .ref b), (1, .int (nI 0))]) hx hb dX7_advice_93 hl (k := 4) rfl (nI_add i 1) (by decide) rfl (fun ls hl => ?_)
            refine lv_goto (tgt := 7) hx hb dX7_advice_96 (by decide) ?_
            exact ih7 (some i) (k_val g i) (i + 1) (by omega) (by omega) (by first | (exfalso; omega) | (rw [k_ls, if_pos ⟨by assumption, by omega⟩]) | (rw [k_ls, if_neg (fun h9 => by have h8 := h9.2; omega)]; exact hz) | (rw [k_ls, if_neg (fun h9 => by have h8 := h9.1; simp_all)]; exact hz)) (by omega) (by first | (exfalso; omega) | (rw [k_lo, if_pos ⟨by assumption, by omega⟩]) | (rw [k_lo, if_neg (fun h9 => by have h8 := h9.2; omega)]; exact hb9) | (rw [k_lo, if_neg (fun h9 => by have h8 := h9.1; simp_all)]; exact hb9)) _ (lv_sub hl [0, 1, 2, 5, 6] rfl)
  exact lp7 _ none 0 0 (Nat.lt_succ_self _) (by omega) (by rfl) (by omega) (by rfl) _ (lv_sub hl [0, 1, 2, 3, 4] rfl)
set_option maxHeartbeats 4000000 in
set_option maxRecDepth 100000 in
theorem c7_tidies (l : Launch) (D : va_G) (tc : Nat → ClassId) (zb : Nat) (b b1 : Nat) (o : Nat → Value) (g : Nat → Nat) (hk : k_ok g) : IP l yX7_tidies wsX7_tidies 10 231 D tc zb (w_ms tc b b1 o g) (w_ms tc b b1 o (m_tdy g)) [.ref b] (some (.int (oI (k_tv g)))) := by
  refine IP.of (cc := cX7_tidies) (maxL := 4) (ret := (some .int)) (by decide) rfl (Nat.le_of_ble_eq_true rfl) ?_
  intro p e s m args below meth c A hx hb hr hml hlk hts hown hM hS hP hD ls hl
  have hl : lv_has ls 4 [(0, .ref b)] := hl
  obtain ⟨ok0, ok1, ok2, ok3, ok4, ok5, ok6⟩ := id hk
  refine lv_aload_n hx hb dX7_tidies_0 rfl (lv_at hl 0 rfl) ?_
  refine lv_iconst (v := (nI 1)) hx hb dX7_tidies_1 (by decide) ?_
  refine ro_V (C := RX7) (n := 1) ⟨hx, hb, hml, hown, hts⟩ hM hS hP (c7_adviceU l D tc zb b b1 o g hk) gX7_tidies_X7_advice rfl (by decide +kernel) ⟨Nat.le_of_ble_eq_true rfl, Nat.le_of_ble_eq_true rfl⟩ [0, 1] rfl (va_recv hM.1 hP (ci := 6) (q0 := 0) rfl rfl) rfl hl.1 rfl (Nat.le_of_ble_eq_true rfl) dX7_tidies_2 ⟨Nat.le_refl _, Nat.le_refl _⟩ ?_
  cases ho2 : k_go g 6 with
  | none =>
    refine ln_eq (x' := -1) rfl ?_
    refine lv_istore_n (lv' := [(1, .int (-1)), (0, .ref b)]) hx hb dX7_tidies_5 rfl hl (by decide) rfl (fun ls hl => ?_)
    refine lv_iload_n hx hb dX7_tidies_6 rfl (lv_at hl 0 rfl) ?_
    refine lv_iconst (v := (-1)) hx hb dX7_tidies_7 (by decide) ?_
    refine lv_icmp_eq (tgt := 22) hx hb dX7_tidies_8 (by decide) (fun _ => ?_) (fun h9 => False.elim (by revert h9; decide))
    refine lv_aload_n hx hb dX7_tidies_22 rfl (lv_at hl 1 rfl) ?_
    refine lv_iconst (v := (nI 0)) hx hb dX7_tidies_23 (by decide) ?_
    refine ro_V (C := RX7) (n := 1) ⟨hx, hb, hml, hown, hts⟩ hM hS hP (c7_adviceD l D tc zb b b1 o g hk) gX7_tidies_X7_advice rfl (by decide +kernel) ⟨Nat.le_of_ble_eq_true rfl, Nat.le_of_ble_eq_true rfl⟩ [0, 1] rfl (va_recv hM.1 hP (ci := 6) (q0 := 0) rfl rfl) rfl hl.1 rfl (Nat.le_of_ble_eq_true rfl) dX7_tidies_24 ⟨Nat.le_refl _, Nat.le_refl _⟩ ?_
    cases ho24 : k_lo g 6 with
    | none =>
      refine ln_eq (x' := -1) rfl ?_
      refine lv_istore_n (lv' := [(2, .int (-1)), (1, .int (-1)), (0, .ref b)]) hx hb dX7_tidies_27 rfl hl (by decide) rfl (fun ls hl => ?_)
      refine lv_iload_n hx hb dX7_tidies_28 rfl (lv_at hl 0 rfl) ?_
      refine lv_iconst (v := (-1)) hx hb dX7_tidies_29 (by decide) ?_
      refine lv_icmp_eq (tgt := 39) hx hb dX7_tidies_30 (by decide) (fun _ => ?_) (fun h9 => False.elim (by revert h9; decide))
      refine lv_iload_n hx hb dX7_tidies_39 rfl (lv_at hl 0 rfl) ?_
      exact ip_iret hx hb hr hlk dX7_tidies_40 hS (show oI none = _ from congrArg oI (by simp only [k_tv, ho2, ho24])) (by rw [show m_tdy g = g by simp only [m_tdy, ho2, ho24]]; exact hP)
    | some r24 =>
      refine ln_eq (x' := nI r24) rfl ?_
      have hr8 := k_lo_lt ho24
      refine lv_istore_n (lv' := [(2, .int (nI r24)), (1, .int (-1)), (0, .ref b)]) hx hb dX7_tidies_27 rfl hl (by decide) rfl (fun ls hl => ?_)
      refine lv_iload_n hx hb dX7_tidies_28 rfl (lv_at hl 0 rfl) ?_
      refine lv_iconst (v := (-1)) hx hb dX7_tidies_29 (by decide) ?_
      refine ln_eq_m1 (tgt := 39) hx hb dX7_tidies_30 (by decide) (by omega) ?_
      refine lv_aload_n hx hb dX7_tidies_33 rfl (lv_at hl 2 rfl) ?_
      refine lv_iload_n hx hb dX7_tidies_34 rfl (lv_at hl 0 rfl) ?_
      refine ip_V (C := RX7) (n := 1) (wl' := [(b, .inr (6, [o 0, .ref b1, o 2, o 3, o 4, o 5, o 6, o 7, o 8])), (b1, .inl (tc 0, 60, .inl ((fun k => nI ((m_drp g r24) k)))))]) ⟨hx, hb, hml, hown, hts⟩ hM hS hP hD (c7_drops l D tc zb b b1 o g r24 hk (by omega)) gX7_tidies_X7_drops rfl (by decide +kernel) ⟨Nat.le_of_ble_eq_true rfl, Nat.le_of_ble_eq_true rfl⟩ [0, 1] rfl rfl [(true, 0), (true, 1)] rfl rfl rfl (va_recv hM.1 hP (ci := 6) (q0 := 0) rfl rfl) rfl hl.1 rfl (Nat.le_of_ble_eq_true rfl) dX7_tidies_35 ⟨Nat.le_refl _, Nat.le_refl _⟩ (fun H locs hP hD hS => ?_)
      refine W.eq (g2 := F0 m 38 ls [.int (nI (k_pc (g 41 &&& (63 ^^^ 2 ^ r24))))]) rfl ?_
      refine lv_istore_n (lv' := [(3, .int (nI (k_pc (g 41 &&& (63 ^^^ 2 ^ r24))))), (2, .int (nI r24)), (1, .int (-1)), (0, .ref b)]) hx hb dX7_tidies_38 rfl hl (by decide) rfl (fun ls hl => ?_)
      refine lv_iload_n hx hb dX7_tidies_39 rfl (lv_at hl 1 rfl) ?_
      exact ip_iret hx hb hr hlk dX7_tidies_40 hS (show oI (some r24) = _ from congrArg oI (by simp only [k_tv, ho2, ho24])) (by rw [show m_tdy g = m_drp g r24 by simp only [m_tdy, ho2, ho24]]; exact hP)
  | some r2 =>
    refine ln_eq (x' := nI r2) rfl ?_
    have hr9 := k_go_lt ho2
    refine lv_istore_n (lv' := [(1, .int (nI r2)), (0, .ref b)]) hx hb dX7_tidies_5 rfl hl (by decide) rfl (fun ls hl => ?_)
    refine lv_iload_n hx hb dX7_tidies_6 rfl (lv_at hl 0 rfl) ?_
    refine lv_iconst (v := (-1)) hx hb dX7_tidies_7 (by decide) ?_
    refine ln_eq_m1 (tgt := 22) hx hb dX7_tidies_8 (by decide) (by omega) ?_
    refine lv_aload_n hx hb dX7_tidies_11 rfl (lv_at hl 1 rfl) ?_
    refine lv_iload_n hx hb dX7_tidies_12 rfl (lv_at hl 0 rfl) ?_
    refine ip_V (C := RX7) (n := 1) (wl' := [(b, .inr (6, [o 0, .ref b1, o 2, o 3, o 4, o 5, o 6, o 7, o 8])), (b1, .inl (tc 0, 60, .inl ((fun k => nI ((m_bld g r2) k)))))]) ⟨hx, hb, hml, hown, hts⟩ hM hS hP hD (c7_builds l D tc zb b b1 o g r2 hk (by omega)) gX7_tidies_X7_builds rfl (by decide +kernel) ⟨Nat.le_of_ble_eq_true rfl, Nat.le_of_ble_eq_true rfl⟩ [0, 1] rfl rfl [(true, 0), (true, 1)] rfl rfl rfl (va_recv hM.1 hP (ci := 6) (q0 := 0) rfl rfl) rfl hl.1 rfl (Nat.le_of_ble_eq_true rfl) dX7_tidies_13 ⟨Nat.le_refl _, Nat.le_refl _⟩ (fun H locs hP hD hS => ?_)
    refine W.eq (g2 := F0 m 16 ls [.int (nI (g 0 * k_lk (g 0)))]) rfl ?_
    refine lv_istore_n (lv' := [(2, .int (nI (g 0 * k_lk (g 0)))), (1, .int (nI r2)), (0, .ref b)]) hx hb dX7_tidies_16 rfl hl (by decide) rfl (fun ls hl => ?_)
    refine lv_bipush (v := (nI 10)) hx hb dX7_tidies_17 (by decide) ?_
    refine lv_iload_n hx hb dX7_tidies_19 rfl (lv_at hl 1 rfl) ?_
    refine ln_iadd hx hb dX7_tidies_20 ?_
    exact ip_iret hx hb hr hlk dX7_tidies_21 hS (show oI (some (10 + r2)) = _ from congrArg oI (by simp only [k_tv, ho2])) (by rw [show m_tdy g = m_bld g r2 by simp only [m_tdy, ho2]]; exact hP)
set_option maxHeartbeats 4000000 in
set_option maxRecDepth 100000 in
theorem c7_isEnough (l : Launch) (D : va_G) (tc : Nat → ClassId) (zb : Nat) (b b1 : Nat) (o : Nat → Value) (g : Nat → Nat) (set : Nat) (hk : k_ok g) (hs : set < 64) : RO l yX7_isEnough wsX7_isEnough 3 64 D tc zb (w_ms tc b b1 o g) [.ref b, .int (nI set)] (.int (bI (k_en g set))) := by
  refine RO.of (cc := cX7_isEnough) (maxL := 6) (ret := (some .boolean)) (by decide) rfl (Nat.le_of_ble_eq_true rfl) ?_
  intro p e s m args below meth c hx hb hr hml hlk hts hown hM hS hP ls hl
  have hl : lv_has ls 6 [(0, .ref b), (1, .int (nI set))] := hl
  have hinX7 : ∀ w ∈ u_ws RX7 TX7 9, w ∈ wsX7_isEnough := by decide +kernel
  obtain ⟨ok0, ok1, ok2, ok3, ok4, ok5, ok6⟩ := id hk
  refine lv_iconst (v := (nI 1)) hx hb dX7_isEnough_0 (by decide) ?_
  refine lv_istore_n (lv' := [(2, .int (nI 1)), (0, .ref b), (1, .int (nI set))]) hx hb dX7_isEnough_1 rfl hl (by decide) rfl (fun ls hl => ?_)
  refine lv_iconst (v := (nI 0)) hx hb dX7_isEnough_2 (by decide) ?_
  refine lv_istore_n (lv' := [(3, .int (nI 0)), (2, .int (nI 1)), (0, .ref b), (1, .int (nI set))]) hx hb dX7_isEnough_3 rfl hl (by decide) rfl (fun ls hl => ?_)
  have lp4 : ∀ (n9 : Nat) (ib : Bool) (i : Nat), (g 46 - i) < n9 → (i ≤ g 46) → (ib = k_en0 g set i) → ∀ ls : Array Slot, lv_has ls 6 [(3, .int (nI i)), (2, .int (bI (ib))), (0, .ref b), (1, .int (nI set))] → W p l e ({ frames := 3, cells := 0, slots := 0, locals := 64 } : Room) s m args below meth c s.heap [] 0 0 (MQ below (roQ (.int (bI (k_en g set)))) args s 0 0 (fun _ => False)) (F0 m 4 ls []) := by
    intro n9
    induction n9 with
    | zero => intro ib i hmu; exact absurd hmu (Nat.not_lt_zero _)
    | succ n9 ih4 =>
      intro ib i hmu hi hv ls hl
      refine lv_iload_n hx hb dX7_isEnough_4 rfl (lv_at hl 0 rfl) ?_
      refine lv_aload_n hx hb dX7_isEnough_5 rfl (lv_at hl 2 rfl) ?_
      refine va_get (D := D) (ci := 6) (v := .ref b1) (C := RX7) (T := TX7) (N := 9) hx hb hts hinX7 hown hM.1 hP 0 rfl rfl 1 (by decide) (hts (.fieldLink RX7 7 "TripleWaysModel" "s" "[I") (by decide +kernel)) (fun _ h9 => h9) rfl dX7_isEnough_6 ?_
      refine lv_bipush (v := (nI 46)) hx hb dX7_isEnough_9 (by decide) ?_
      refine ln_iald hx hb hM.1 hP 1 0 rfl rfl dX7_isEnough_11 (by decide) (by omega) (rfl) ?_
      refine ln_icmp_ge (tgt := 105) hx hb dX7_isEnough_12 (by decide) (by omega) (by omega) (fun h1 => ?_) (fun h1 => ?_)
      · refine lv_iload_n hx hb dX7_isEnough_105 rfl (lv_at hl 1 rfl) ?_
        exact ro_zret hx hb hr hlk dX7_isEnough_106 (congrArg bI (by have e9 : i = g 46 := (by omega); subst e9; exact hv))
      · refine lv_iconst (v := (nI 0)) hx hb dX7_isEnough_15 (by decide) ?_
        refine lv_istore (lv' := [(4, .int (nI 0)), (3, .int (nI i)), (2, .int (bI (ib))), (0, .ref b), (1, .int (nI set))]) hx hb dX7_isEnough_16 hl (by decide) rfl (fun ls hl => ?_)
        refine lv_iconst (v := (nI 0)) hx hb dX7_isEnough_18 (by decide) ?_
        refine lv_istore (lv' := [(5, .int (nI 0)), (4, .int (nI 0)), (3, .int (nI i)), (2, .int (bI (ib))), (0, .ref b), (1, .int (nI set))]) hx hb dX7_isEnough_19 hl (by decide) rfl (fun ls hl => ?_)
        have lp21 : ∀ (n9 : Nat) (jb : Bool) (q : Nat), (6 - q) < n9 → (q ≤ 6) → (jb = k_hs set (g (47 + i)) q) → ∀ ls : Array Slot, lv_has ls 6 [(5, .int (nI q)), (4, .int (bI (jb))), (3, .int (nI i)), (2, .int (bI (ib))), (0, .ref b), (1, .int (nI set))] → W p l e ({ frames := 3, cells := 0, slots := 0, locals := 64 } : Room) s m args below meth c s.heap [] 0 0 (MQ below (roQ (.int (bI (k_en g set)))) args s 0 0 (fun _ => False)) (F0 m 21 ls []) := by
          intro n9
          induction n9 with
          | zero => intro jb q hmu; exact absurd hmu (Nat.not_lt_zero _)
          | succ n9 ih21 =>
            intro jb q hmu hq9 hv2 ls hl
            refine lv_iload hx hb dX7_isEnough_21 (lv_at hl 0 rfl) ?_
            refine lv_bipush (v := (nI 6)) hx hb dX7_isEnough_23 (by decide) ?_
            refine ln_icmp_ge (tgt := 84) hx hb dX7_isEnough_25 (by decide) (by omega) (by decide) (fun h2 => ?_) (fun h2 => ?_)
            · have e8 : q = 6 := by omega
              have hv3 := hv2
              rw [e8] at hv3
              refine lv_iload_n hx hb dX7_isEnough_84 rfl (lv_at hl 3 rfl) ?_
              refine ln_if_eqB (tgt := 97) hx hb dX7_isEnough_85 (by decide) (fun h3 => ?_) (fun h3 => ?_)
              · refine lv_iconst (v := (nI 0)) hx hb dX7_isEnough_97 (by decide) ?_
                refine lv_istore_n (lv' := [(2, .int (nI 0)), (5, .int (nI q)), (4, .int (bI (jb))), (3, .int (nI i)), (0, .ref b), (1, .int (nI set))]) hx hb dX7_isEnough_98 rfl hl (by decide) rfl (fun ls hl => ?_)
                refine lv_iinc (v := (nI (i + 1))) (lv' := [(3, .int (nI (i + 1))), (2, .int (nI 0)), (5, .int (nI q)), (4, .int (bI (jb))), (0, .ref b), (1, .int (nI set))]) hx hb dX7_isEnough_99 hl (k := 3) rfl (nI_add i 1) (by decide) rfl (fun ls hl => ?_)
                refine lv_goto (tgt := 4) hx hb dX7_isEnough_102 (by decide) ?_
                exact ih4 false (i + 1) (by omega) (by omega) (by subst hv; simp only [k_en0, ← hv3]; simp_all) _ (lv_sub hl [0, 1, 4, 5] rfl)
              · refine lv_iload hx hb dX7_isEnough_88 (lv_at hl 1 rfl) ?_
                refine ln_if_eqB (tgt := 97) hx hb dX7_isEnough_90 (by decide) (fun h4 => ?_) (fun h4 => ?_)
                · refine lv_iconst (v := (nI 0)) hx hb dX7_isEnough_97 (by decide) ?_
                  refine lv_istore_n (lv' := [(2, .int (nI 0)), (5, .int (nI q)), (4, .int (bI (jb))), (3, .int (nI i)), (0, .ref b), (1, .int (nI set))]) hx hb dX7_isEnough_98 rfl hl (by decide) rfl (fun ls hl => ?_)
                  refine lv_iinc (v := (nI (i + 1))) (lv' := [(3, .int (nI (i + 1))), (2, .int (nI 0)), (5, .int (nI q)), (4, .int (bI (jb))), (0, .ref b), (1, .int (nI set))]) hx hb dX7_isEnough_99 hl (k := 3) rfl (nI_add i 1) (by decide) rfl (fun ls hl => ?_)
                  refine lv_goto (tgt := 4) hx hb dX7_isEnough_102 (by decide) ?_
                  exact ih4 false (i + 1) (by omega) (by omega) (by subst hv; simp only [k_en0, ← hv3]; simp_all) _ (lv_sub hl [0, 1, 4, 5] rfl)
                · refine lv_iconst (v := (nI 1)) hx hb dX7_isEnough_93 (by decide) ?_
                  refine lv_goto (tgt := 98) hx hb dX7_isEnough_94 (by decide) ?_
                  refine lv_istore_n (lv' := [(2, .int (nI 1)), (5, .int (nI q)), (4, .int (bI (jb))), (3, .int (nI i)), (0, .ref b), (1, .int (nI set))]) hx hb dX7_isEnough_98 rfl hl (by decide) rfl (fun ls hl => ?_)
                  refine lv_iinc (v := (nI (i + 1))) (lv' := [(3, .int (nI (i + 1))), (2, .int (nI 1)), (5, .int (nI q)), (4, .int (bI (jb))), (0, .ref b), (1, .int (nI set))]) hx hb dX7_isEnough_99 hl (k := 3) rfl (nI_add i 1) (by decide) rfl (fun ls hl => ?_)
                  refine lv_goto (tgt := 4) hx hb dX7_isEnough_102 (by decide) ?_
                  exact ih4 true (i + 1) (by omega) (by omega) (by subst hv; simp only [k_en0, ← hv3]; simp_all) _ (lv_sub hl [0, 1, 4, 5] rfl)
            · refine lv_iload hx hb dX7_isEnough_28 (lv_at hl 1 rfl) ?_
              refine ln_if_neB (tgt := 71) hx hb dX7_isEnough_30 (by decide) (fun h5 => ?_) (fun h5 => ?_)
              · refine lv_iconst (v := (nI 1)) hx hb dX7_isEnough_71 (by decide) ?_
                refine lv_goto (tgt := 76) hx hb dX7_isEnough_72 (by decide) ?_
                refine lv_istore (lv' := [(4, .int (nI 1)), (5, .int (nI q)), (3, .int (nI i)), (2, .int (bI (ib))), (0, .ref b), (1, .int (nI set))]) hx hb dX7_isEnough_76 hl (by decide) rfl (fun ls hl => ?_)
                refine lv_iinc (v := (nI (q + 1))) (lv' := [(5, .int (nI (q + 1))), (4, .int (nI 1)), (3, .int (nI i)), (2, .int (bI (ib))), (0, .ref b), (1, .int (nI set))]) hx hb dX7_isEnough_78 hl (k := 1) rfl (nI_add q 1) (by decide) rfl (fun ls hl => ?_)
                refine lv_goto (tgt := 21) hx hb dX7_isEnough_81 (by decide) ?_
                exact ih21 true (q + 1) (by omega) (by omega) (by subst hv2; simp [k_hs, *]) _ (lv_sub hl [0, 1, 2, 3, 4, 5] rfl)
              · refine lv_iload_n hx hb dX7_isEnough_33 rfl (lv_at hl 5 rfl) ?_
                refine lv_iload hx hb dX7_isEnough_34 (lv_at hl 0 rfl) ?_
                refine ro_S (n := 2) ⟨hx, hb, hml, hown, hts⟩ hM hS hP (c7_isIn l D tc zb set q (by omega) (by omega)) gX7_isEnough_X7_isIn rfl (by decide +kernel) ⟨Nat.le_of_ble_eq_true rfl, Nat.le_of_ble_eq_true rfl⟩ [] rfl rfl hl.1 rfl (Nat.le_of_ble_eq_true rfl) dX7_isEnough_36 ⟨Nat.le_refl _, Nat.le_refl _⟩ ?_
                refine ln_if_eqB (tgt := 75) hx hb dX7_isEnough_39 (by decide) (fun h6 => ?_) (fun h6 => ?_)
                · refine lv_iconst (v := (nI 0)) hx hb dX7_isEnough_75 (by decide) ?_
                  refine lv_istore (lv' := [(4, .int (nI 0)), (5, .int (nI q)), (3, .int (nI i)), (2, .int (bI (ib))), (0, .ref b), (1, .int (nI set))]) hx hb dX7_isEnough_76 hl (by decide) rfl (fun ls hl => ?_)
                  refine lv_iinc (v := (nI (q + 1))) (lv' := [(5, .int (nI (q + 1))), (4, .int (nI 0)), (3, .int (nI i)), (2, .int (bI (ib))), (0, .ref b), (1, .int (nI set))]) hx hb dX7_isEnough_78 hl (k := 1) rfl (nI_add q 1) (by decide) rfl (fun ls hl => ?_)
                  refine lv_goto (tgt := 21) hx hb dX7_isEnough_81 (by decide) ?_
                  exact ih21 false (q + 1) (by omega) (by omega) (by subst hv2; simp [k_hs, *]) _ (lv_sub hl [0, 1, 2, 3, 4, 5] rfl)
                · refine lv_aload_n hx hb dX7_isEnough_42 rfl (lv_at hl 4 rfl) ?_
                  refine va_get (D := D) (ci := 6) (v := .ref b1) (C := RX7) (T := TX7) (N := 9) hx hb hts hinX7 hown hM.1 hP 0 rfl rfl 1 (by decide) (hts (.fieldLink RX7 7 "TripleWaysModel" "s" "[I") (by decide +kernel)) (fun _ h9 => h9) rfl dX7_isEnough_43 ?_
                  refine lv_bipush (v := (nI 47)) hx hb dX7_isEnough_46 (by decide) ?_
                  refine lv_iload_n hx hb dX7_isEnough_48 rfl (lv_at hl 2 rfl) ?_
                  refine ln_iadd hx hb dX7_isEnough_49 ?_
                  refine ln_iald hx hb hM.1 hP 1 0 rfl rfl dX7_isEnough_50 (by decide) (by omega) (rfl) ?_
                  refine lv_iload hx hb dX7_isEnough_51 (lv_at hl 0 rfl) ?_
                  refine ro_S (n := 2) ⟨hx, hb, hml, hown, hts⟩ hM hS hP (c7_reachOf l D tc zb (g (47 + i)) q (by first | omega | exact ok5 _ (by omega)) (by omega)) gX7_isEnough_X7_reachOf rfl (by decide +kernel) ⟨Nat.le_of_ble_eq_true rfl, Nat.le_of_ble_eq_true rfl⟩ [] rfl rfl hl.1 rfl (Nat.le_of_ble_eq_true rfl) dX7_isEnough_53 ⟨Nat.le_refl _, Nat.le_refl _⟩ ?_
                  have hf7 := k_rch_le (g (47 + i)) q
                  refine lv_aload_n hx hb dX7_isEnough_56 rfl (lv_at hl 4 rfl) ?_
                  refine va_get (D := D) (ci := 6) (v := .ref b1) (C := RX7) (T := TX7) (N := 9) hx hb hts hinX7 hown hM.1 hP 0 rfl rfl 1 (by decide) (hts (.fieldLink RX7 7 "TripleWaysModel" "s" "[I") (by decide +kernel)) (fun _ h9 => h9) rfl dX7_isEnough_57 ?_
                  refine lv_bipush (v := (nI 47)) hx hb dX7_isEnough_60 (by decide) ?_
                  refine lv_iload_n hx hb dX7_isEnough_62 rfl (lv_at hl 2 rfl) ?_
                  refine ln_iadd hx hb dX7_isEnough_63 ?_
                  refine ln_iald hx hb hM.1 hP 1 0 rfl rfl dX7_isEnough_64 (by decide) (by omega) (rfl) ?_
                  refine ro_S (n := 1) ⟨hx, hb, hml, hown, hts⟩ hM hS hP (c7_boundOf l D tc zb (g (47 + i)) (by first | omega | exact ok5 _ (by omega))) gX7_isEnough_X7_boundOf rfl (by decide +kernel) ⟨Nat.le_of_ble_eq_true rfl, Nat.le_of_ble_eq_true rfl⟩ [] rfl rfl hl.1 rfl (Nat.le_of_ble_eq_true rfl) dX7_isEnough_65 ⟨Nat.le_refl _, Nat.le_refl _⟩ ?_
                  have hf8 := k_bnd_le (g (47 + i))
                  refine ln_icmp_ne (tgt := 75) hx hb dX7_isEnough_68 (by decide) (by omega) (by omega) (fun h9 => ?_) (fun h9 => ?_)
                  · refine lv_iconst (v := (nI 0)) hx hb dX7_isEnough_75 (by decide) ?_
                    refine lv_istore (lv' := [(4, .int (nI 0)), (5, .int (nI q)), (3, .int (nI i)), (2, .int (bI (ib))), (0, .ref b), (1, .int (nI set))]) hx hb dX7_isEnough_76 hl (by decide) rfl (fun ls hl => ?_)
                    refine lv_iinc (v := (nI (q + 1))) (lv' := [(5, .int (nI (q + 1))), (4, .int (nI 0)), (3, .int (nI i)), (2, .int (bI (ib))), (0, .ref b), (1, .int (nI set))]) hx hb dX7_isEnough_78 hl (k := 1) rfl (nI_add q 1) (by decide) rfl (fun ls hl => ?_)
                    refine lv_goto (tgt := 21) hx hb dX7_isEnough_81 (by decide) ?_
                    exact ih21 false (q + 1) (by omega) (by omega) (by subst hv2; simp [k_hs, *]) _ (lv_sub hl [0, 1, 2, 3, 4, 5] rfl)
                  · refine lv_iconst (v := (nI 1)) hx hb dX7_isEnough_71 (by decide) ?_
                    refine lv_goto (tgt := 76) hx hb dX7_isEnough_72 (by decide) ?_
                    refine lv_istore (lv' := [(4, .int (nI 1)), (5, .int (nI q)), (3, .int (nI i)), (2, .int (bI (ib))), (0, .ref b), (1, .int (nI set))]) hx hb dX7_isEnough_76 hl (by decide) rfl (fun ls hl => ?_)
                    refine lv_iinc (v := (nI (q + 1))) (lv' := [(5, .int (nI (q + 1))), (4, .int (nI 1)), (3, .int (nI i)), (2, .int (bI (ib))), (0, .ref b), (1, .int (nI set))]) hx hb dX7_isEnough_78 hl (k := 1) rfl (nI_add q 1) (by decide) rfl (fun ls hl => ?_)
                    refine lv_goto (tgt := 21) hx hb dX7_isEnough_81 (by decide) ?_
                    exact ih21 true (q + 1) (by omega) (by omega) (by subst hv2; simp [k_hs, *]) _ (lv_sub hl [0, 1, 2, 3, 4, 5] rfl)
        exact lp21 _ false 0 (Nat.lt_succ_self _) (by omega) (by rfl) _ (lv_sub hl [0, 1, 2, 3, 4, 5] rfl)
  exact lp4 _ true 0 (Nat.lt_succ_self _) (by omega) (by rfl) _ (lv_sub hl [0, 1, 2, 3] rfl)
