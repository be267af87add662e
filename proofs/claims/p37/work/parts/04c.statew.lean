set_option maxHeartbeats 4000000 in
set_option maxRecDepth 100000 in
theorem c_bitCount (l : Launch) (D : va_G) (tc : Nat → ClassId) (zb : Nat) (k : Nat) (hk9 : k < 64) : RO l yJ6_bitCount_0f7a4 wsJ6_bitCount_0f7a4 0 0 D tc zb [] [.int (nI k)] (.int (nI (k_pc k))) := by
  refine RO.of (cc := cJ6_bitCount_0f7a4) (maxL := 1) (ret := (some .int)) (by decide) rfl (Nat.le_of_ble_eq_true rfl) ?_
  intro p e s m args below meth c hx hb hr hml hlk hts hown hM hS hP ls hl
  have hl : lv_has ls 1 [(0, .int (nI k))] := hl
  refine lv_iload_n hx hb dJ6_bitCount_0f7a4_0 rfl (lv_at hl 0 rfl) ?_
  refine lv_iload_n hx hb dJ6_bitCount_0f7a4_1 rfl (lv_at hl 0 rfl) ?_
  refine lv_iconst (v := (nI 1)) hx hb dJ6_bitCount_0f7a4_2 (by decide) ?_
  refine lv_iushr (v := bcU ((nI k)) ((nI 1))) hx hb dJ6_bitCount_0f7a4_3 rfl ?_
  refine lv_ldcw (v := (1431655765 : Int32)) hx hb hown (hts (.constant RJ6 265 (1431655765)) (by decide +kernel)) dJ6_bitCount_0f7a4_4 ?_
  refine lv_iand hx hb dJ6_bitCount_0f7a4_7 ?_
  refine lv_isub hx hb dJ6_bitCount_0f7a4_8 ?_
  refine ln_eq (x' := bc1 (nI k)) rfl ?_
  refine lv_istore_n (lv' := [(0, .int (bc1 (nI k)))]) hx hb dJ6_bitCount_0f7a4_9 rfl hl (by decide) rfl (fun ls hl => ?_)
  refine lv_iload_n hx hb dJ6_bitCount_0f7a4_10 rfl (lv_at hl 0 rfl) ?_
  refine lv_ldcw (v := (858993459 : Int32)) hx hb hown (hts (.constant RJ6 266 (858993459)) (by decide +kernel)) dJ6_bitCount_0f7a4_11 ?_
  refine lv_iand hx hb dJ6_bitCount_0f7a4_14 ?_
  refine lv_iload_n hx hb dJ6_bitCount_0f7a4_15 rfl (lv_at hl 0 rfl) ?_
  refine lv_iconst (v := (nI 2)) hx hb dJ6_bitCount_0f7a4_16 (by decide) ?_
  refine lv_iushr (v := bcU ((bc1 (nI k))) ((nI 2))) hx hb dJ6_bitCount_0f7a4_17 rfl ?_
  refine lv_ldcw (v := (858993459 : Int32)) hx hb hown (hts (.constant RJ6 266 (858993459)) (by decide +kernel)) dJ6_bitCount_0f7a4_18 ?_
  refine lv_iand hx hb dJ6_bitCount_0f7a4_21 ?_
  refine lv_iadd hx hb dJ6_bitCount_0f7a4_22 ?_
  refine ln_eq (x' := bc2 (bc1 (nI k))) rfl ?_
  refine lv_istore_n (lv' := [(0, .int (bc2 (bc1 (nI k))))]) hx hb dJ6_bitCount_0f7a4_23 rfl hl (by decide) rfl (fun ls hl => ?_)
  refine lv_iload_n hx hb dJ6_bitCount_0f7a4_24 rfl (lv_at hl 0 rfl) ?_
  refine lv_iload_n hx hb dJ6_bitCount_0f7a4_25 rfl (lv_at hl 0 rfl) ?_
  refine lv_iconst (v := (nI 4)) hx hb dJ6_bitCount_0f7a4_26 (by decide) ?_
  refine lv_iushr (v := bcU ((bc2 (bc1 (nI k)))) ((nI 4))) hx hb dJ6_bitCount_0f7a4_27 rfl ?_
  refine lv_iadd hx hb dJ6_bitCount_0f7a4_28 ?_
  refine lv_ldcw (v := (252645135 : Int32)) hx hb hown (hts (.constant RJ6 267 (252645135)) (by decide +kernel)) dJ6_bitCount_0f7a4_29 ?_
  refine lv_iand hx hb dJ6_bitCount_0f7a4_32 ?_
  refine ln_eq (x' := bc3 (bc2 (bc1 (nI k)))) rfl ?_
  refine lv_istore_n (lv' := [(0, .int (bc3 (bc2 (bc1 (nI k)))))]) hx hb dJ6_bitCount_0f7a4_33 rfl hl (by decide) rfl (fun ls hl => ?_)
  refine lv_iload_n hx hb dJ6_bitCount_0f7a4_34 rfl (lv_at hl 0 rfl) ?_
  refine lv_iload_n hx hb dJ6_bitCount_0f7a4_35 rfl (lv_at hl 0 rfl) ?_
  refine lv_bipush (v := (nI 8)) hx hb dJ6_bitCount_0f7a4_36 (by decide) ?_
  refine lv_iushr (v := bcU ((bc3 (bc2 (bc1 (nI k))))) ((nI 8))) hx hb dJ6_bitCount_0f7a4_38 rfl ?_
  refine lv_iadd hx hb dJ6_bitCount_0f7a4_39 ?_
  refine ln_eq (x' := bc4 (bc3 (bc2 (bc1 (nI k))))) rfl ?_
  refine lv_istore_n (lv' := [(0, .int (bc4 (bc3 (bc2 (bc1 (nI k))))))]) hx hb dJ6_bitCount_0f7a4_40 rfl hl (by decide) rfl (fun ls hl => ?_)
  refine lv_iload_n hx hb dJ6_bitCount_0f7a4_41 rfl (lv_at hl 0 rfl) ?_
  refine lv_iload_n hx hb dJ6_bitCount_0f7a4_42 rfl (lv_at hl 0 rfl) ?_
  refine lv_bipush (v := (nI 16)) hx hb dJ6_bitCount_0f7a4_43 (by decide) ?_
  refine lv_iushr (v := bcU ((bc4 (bc3 (bc2 (bc1 (nI k)))))) ((nI 16))) hx hb dJ6_bitCount_0f7a4_45 rfl ?_
  refine lv_iadd hx hb dJ6_bitCount_0f7a4_46 ?_
  refine ln_eq (x' := bc5 (bc4 (bc3 (bc2 (bc1 (nI k)))))) rfl ?_
  refine lv_istore_n (lv' := [(0, .int (bc5 (bc4 (bc3 (bc2 (bc1 (nI k)))))))]) hx hb dJ6_bitCount_0f7a4_47 rfl hl (by decide) rfl (fun ls hl => ?_)
  refine lv_iload_n hx hb dJ6_bitCount_0f7a4_48 rfl (lv_at hl 0 rfl) ?_
  refine lv_bipush (v := (nI 63)) hx hb dJ6_bitCount_0f7a4_49 (by decide) ?_
  refine lv_iand hx hb dJ6_bitCount_0f7a4_51 ?_
  exact ro_iret hx hb hr hlk dJ6_bitCount_0f7a4_52 (by exact bc_ok k hk9)
set_option maxHeartbeats 4000000 in
set_option maxRecDepth 100000 in
theorem c_payUpkeep (l : Launch) (D : va_G) (tc : Nat → ClassId) (zb : Nat) (a a1 a2 : Nat) (tr qs : Nat → Int32) (g : Nat → Nat) (hk : k_ok g) (hR : k_R tr qs g) : IP l yX4_payUpkeep wsX4_payUpkeep 1 21 D tc zb (w_st tc a a1 a2 tr qs g) [(a, .inr (3, [.ref a1, .int (nI (g 0)), .int (nI (g 41)), .int (nI (g 42 + k_pc (g 41) * (k_lk (g 0) + 1))), .int (nI (g 43)), .int (nI (g 44)), .int (nI (g 45)), .ref a2, .int (nI (g 46)), .int (nI (g 59))])), (a1, .inl (tc 0, 40, .inl tr)), (a2, .inl (tc 0, 12, .inl qs))] [.ref a] none := by
  refine IP.of (cc := cX4_payUpkeep) (maxL := 1) (ret := none) (by decide) rfl (Nat.le_of_ble_eq_true rfl) ?_
  intro p e s m args below meth c A hx hb hr hml hlk hts hown hM hS hP hD ls hl
  have hl : lv_has ls 1 [(0, .ref a)] := hl
  have hinX4 : ∀ w ∈ u_ws RX4 TX4 10, w ∈ wsX4_payUpkeep := by decide +kernel
  obtain ⟨ok0, ok1, ok2, ok3, ok4, ok5, ok6⟩ := id hk
  refine lv_aload_n hx hb dX4_payUpkeep_0 rfl (lv_at hl 0 rfl) ?_
  refine lv_dup hx hb dX4_payUpkeep_1 rfl ?_
  refine va_get (D := D) (ci := 3) (v := .int (nI (g 42))) (C := RX4) (T := TX4) (N := 10) hx hb hts hinX4 hown hM.1 hP 0 rfl rfl 3 (by decide) (hts (.fieldLink RX4 32 "TripleWays$State" "upkeepCosts" "I") (by decide +kernel)) (fun _ h9 => h9) rfl dX4_payUpkeep_2 ?_
  refine lv_aload_n hx hb dX4_payUpkeep_5 rfl (lv_at hl 0 rfl) ?_
  refine va_get (D := D) (ci := 3) (v := .int (nI (g 41))) (C := RX4) (T := TX4) (N := 10) hx hb hts hinX4 hown hM.1 hP 0 rfl rfl 2 (by decide) (hts (.fieldLink RX4 15 "TripleWays$State" "kept" "I") (by decide +kernel)) (fun _ h9 => h9) rfl dX4_payUpkeep_6 ?_
  refine ro_S (n := 1) ⟨hx, hb, hml, hown, hts⟩ hM hS hP (c_bitCount l D tc zb (g 41) (by omega)) gX4_payUpkeep_J6_bitCount_0f7a4 rfl (by decide +kernel) ⟨Nat.le_of_ble_eq_true rfl, Nat.le_of_ble_eq_true rfl⟩ [] rfl rfl hl.1 rfl (Nat.le_of_ble_eq_true rfl) dX4_payUpkeep_9 ⟨Nat.le_refl _, Nat.le_refl _⟩ ?_
  have hf1 := k_pc_le (g 41)
  refine lv_aload_n hx hb dX4_payUpkeep_12 rfl (lv_at hl 0 rfl) ?_
  refine ro_V (C := RX4) (n := 0) ⟨hx, hb, hml, hown, hts⟩ hM hS hP (c_look l D tc zb a a1 a2 tr qs g hk hR) gX4_payUpkeep_X4_look rfl (by decide +kernel) ⟨Nat.le_of_ble_eq_true rfl, Nat.le_of_ble_eq_true rfl⟩ [0, 1, 2] rfl (va_recv hM.1 hP (ci := 3) (q0 := 0) rfl rfl) rfl hl.1 rfl (Nat.le_of_ble_eq_true rfl) dX4_payUpkeep_13 ⟨Nat.le_refl _, Nat.le_refl _⟩ ?_
  have hf2 := k_lk_le (g 0)
  refine lv_iconst (v := (nI 1)) hx hb dX4_payUpkeep_16 (by decide) ?_
  refine ln_iadd hx hb dX4_payUpkeep_17 ?_
  refine ln_imul hx hb dX4_payUpkeep_18 ?_
  refine ln_iadd hx hb dX4_payUpkeep_19 ?_
  refine va_put (D := D) (ci := 3) (v := .int (nI ((g 42) + ((k_pc (g 41)) * ((k_lk (g 0)) + 1))))) (ty := .int) (C := RX4) (T := TX4) (N := 10) hx hb hts hinX4 tyX4 tyX4_ok nmX4 hown hM.1 hP hD hS 0 rfl rfl 3 (by decide) (hts (.fieldLink RX4 32 "TripleWays$State" "upkeepCosts" "I") (by decide +kernel)) (fun _ h9 => h9) rfl (by decide +kernel) rfl rfl (Nat.le_of_ble_eq_true rfl) dX4_payUpkeep_20 (fun H locs hP hD hS => ?_)
  have hP : va_P D vwCl [(a, .inr (3, [.ref a1, .int (nI (g 0)), .int (nI (g 41)), .int (nI ((g 42) + ((k_pc (g 41)) * ((k_lk (g 0)) + 1)))), .int (nI (g 43)), .int (nI (g 44)), .int (nI (g 45)), .ref a2, .int (nI (g 46)), .int (nI (g 59))])), (a1, .inl (tc 0, 40, .inl tr)), (a2, .inl (tc 0, 12, .inl qs))] H := hP
  have hD : va_D A [(a, .inr (3, [.ref a1, .int (nI (g 0)), .int (nI (g 41)), .int (nI ((g 42) + ((k_pc (g 41)) * ((k_lk (g 0)) + 1)))), .int (nI (g 43)), .int (nI (g 44)), .int (nI (g 45)), .ref a2, .int (nI (g 46)), .int (nI (g 59))])), (a1, .inl (tc 0, 40, .inl tr)), (a2, .inl (tc 0, 12, .inl qs))] := hD
  exact ip_vret hx hb hr hlk dX4_payUpkeep_23 hS hP
set_option maxHeartbeats 4000000 in
set_option maxRecDepth 100000 in
theorem c_put (l : Launch) (D : va_G) (tc : Nat → ClassId) (zb : Nat) (a a1 a2 : Nat) (tr qs : Nat → Int32) (g : Nat → Nat) (t : Nat) (hk : k_ok g) (hR : k_R tr qs g) (ht : t < 1000) : IP l yX4_put wsX4_put 2 43 D tc zb (w_st tc a a1 a2 tr qs g) (w_st tc a a1 a2 (k_ptr tr g t) qs (m_put g t)) [.ref a, .int (nI t)] (some (.int (nI (k_pv g t)))) := by
  refine IP.of (cc := cX4_put) (maxL := 2) (ret := (some .int)) (by decide) rfl (Nat.le_of_ble_eq_true rfl) ?_
  intro p e s m args below meth c A hx hb hr hml hlk hts hown hM hS hP hD ls hl
  have hl : lv_has ls 2 [(0, .ref a), (1, .int (nI t))] := hl
  have hinX4 : ∀ w ∈ u_ws RX4 TX4 10, w ∈ wsX4_put := by decide +kernel
  obtain ⟨ok0, ok1, ok2, ok3, ok4, ok5, ok6⟩ := id hk
  refine lv_aload_n hx hb dX4_put_0 rfl (lv_at hl 0 rfl) ?_
  refine va_get (D := D) (ci := 3) (v := .int (nI (g 0))) (C := RX4) (T := TX4) (N := 10) hx hb hts hinX4 hown hM.1 hP 0 rfl rfl 1 (by decide) (hts (.fieldLink RX4 25 "TripleWays$State" "size" "I") (by decide +kernel)) (fun _ h9 => h9) rfl dX4_put_1 ?_
  refine ln_if_lt (tgt := 28) hx hb dX4_put_4 (by decide) (by omega) ?_
  refine lv_aload_n hx hb dX4_put_7 rfl (lv_at hl 0 rfl) ?_
  refine va_get (D := D) (ci := 3) (v := .int (nI (g 0))) (C := RX4) (T := TX4) (N := 10) hx hb hts hinX4 hown hM.1 hP 0 rfl rfl 1 (by decide) (hts (.fieldLink RX4 25 "TripleWays$State" "size" "I") (by decide +kernel)) (fun _ h9 => h9) rfl dX4_put_8 ?_
  refine lv_aload_n hx hb dX4_put_11 rfl (lv_at hl 0 rfl) ?_
  refine va_get (D := D) (ci := 3) (v := .ref a1) (C := RX4) (T := TX4) (N := 10) hx hb hts hinX4 hown hM.1 hP 0 rfl rfl 0 (by decide) (hts (.fieldLink RX4 9 "TripleWays$State" "triples" "[I") (by decide +kernel)) (fun _ h9 => h9) rfl dX4_put_12 ?_
  refine va_alen hx hb hM.1 hP 1 0 rfl rfl (v := nI 40) rfl dX4_put_15 ?_
  refine ln_icmp_ge (tgt := 28) hx hb dX4_put_16 (by decide) (by omega) (by decide) (fun h1 => ?_) (fun h1 => ?_)
  · refine lv_iconst (v := (nI 0)) hx hb dX4_put_28 (by decide) ?_
    exact ip_iret hx hb hr hlk dX4_put_29 hS (congrArg nI (by (have hn9 : k_new g t = false := by first | exact k_new_some (by assumption) | exact k_new_full (by omega)); simp [k_pv, hn9])) (by (have hn9 : k_new g t = false := by first | exact k_new_some (by assumption) | exact k_new_full (by omega)); rw [show m_put g t = g from if_neg (by rw [hn9]; decide), show k_ptr tr g t = tr from if_neg (by rw [hn9]; decide)]; exact hP)
  · refine lv_aload_n hx hb dX4_put_19 rfl (lv_at hl 0 rfl) ?_
    refine lv_iload_n hx hb dX4_put_20 rfl (lv_at hl 1 rfl) ?_
    refine ro_V (C := RX4) (n := 1) ⟨hx, hb, hml, hown, hts⟩ hM hS hP (c_indexOf l D tc zb a a1 a2 tr qs g t hk hR (by omega)) gX4_put_X4_indexOf rfl (by decide +kernel) ⟨Nat.le_of_ble_eq_true rfl, Nat.le_of_ble_eq_true rfl⟩ [0, 1, 2] rfl (va_recv hM.1 hP (ci := 3) (q0 := 0) rfl rfl) rfl hl.1 rfl (Nat.le_of_ble_eq_true rfl) dX4_put_21 ⟨Nat.le_refl _, Nat.le_refl _⟩ ?_
    cases ho21 : k_ix g t with
    | none =>
      refine ln_eq (x' := -1) rfl ?_
      refine lv_iconst (v := (-1)) hx hb dX4_put_24 (by decide) ?_
      refine lv_icmp_eq (tgt := 30) hx hb dX4_put_25 (by decide) (fun _ => ?_) (fun h9 => False.elim (by revert h9; decide))
      refine lv_aload_n hx hb dX4_put_30 rfl (lv_at hl 0 rfl) ?_
      refine ip_V (C := RX4) (n := 0) (wl' := [(a, .inr (3, [.ref a1, .int (nI (g 0)), .int (nI (g 41)), .int (nI (g 42 + k_pc (g 41) * (k_lk (g 0) + 1))), .int (nI (g 43)), .int (nI (g 44)), .int (nI (g 45)), .ref a2, .int (nI (g 46)), .int (nI (g 59))])), (a1, .inl (tc 0, 40, .inl tr)), (a2, .inl (tc 0, 12, .inl qs))]) ⟨hx, hb, hml, hown, hts⟩ hM hS hP hD (c_payUpkeep l D tc zb a a1 a2 tr qs g hk hR) gX4_put_X4_payUpkeep rfl (by decide +kernel) ⟨Nat.le_of_ble_eq_true rfl, Nat.le_of_ble_eq_true rfl⟩ [0, 1, 2] rfl rfl [(true, 0), (true, 1), (true, 2)] rfl rfl rfl (va_recv hM.1 hP (ci := 3) (q0 := 0) rfl rfl) rfl hl.1 rfl (Nat.le_of_ble_eq_true rfl) dX4_put_31 ⟨Nat.le_refl _, Nat.le_refl _⟩ (fun H locs hP hD hS => ?_)
      refine W.eq (g2 := F0 m 34 ls []) rfl ?_
      refine lv_aload_n hx hb dX4_put_34 rfl (lv_at hl 0 rfl) ?_
      refine va_get (D := D) (ci := 3) (v := .ref a1) (C := RX4) (T := TX4) (N := 10) hx hb hts hinX4 hown hM.1 hP 0 rfl rfl 0 (by decide) (hts (.fieldLink RX4 9 "TripleWays$State" "triples" "[I") (by decide +kernel)) (fun _ h9 => h9) rfl dX4_put_35 ?_
      refine lv_aload_n hx hb dX4_put_38 rfl (lv_at hl 0 rfl) ?_
      refine va_get (D := D) (ci := 3) (v := .int (nI (g 0))) (C := RX4) (T := TX4) (N := 10) hx hb hts hinX4 hown hM.1 hP 0 rfl rfl 1 (by decide) (hts (.fieldLink RX4 25 "TripleWays$State" "size" "I") (by decide +kernel)) (fun _ h9 => h9) rfl dX4_put_39 ?_
      refine lv_iload_n hx hb dX4_put_42 rfl (lv_at hl 1 rfl) ?_
      refine ln_iast hx hb hM.1 hP hD hS 1 0 rfl rfl dX4_put_43 (by decide) (by omega) (fun H locs hP hD hS => ?_)
      have hP : va_P D vwCl [(a, .inr (3, [.ref a1, .int (nI (g 0)), .int (nI (g 41)), .int (nI (g 42 + k_pc (g 41) * (k_lk (g 0) + 1))), .int (nI (g 43)), .int (nI (g 44)), .int (nI (g 45)), .ref a2, .int (nI (g 46)), .int (nI (g 59))])), (a1, .inl (tc 0, 40, .inl (upd tr (g 0) ((nI t))))), (a2, .inl (tc 0, 12, .inl qs))] H := hP
      have hD : va_D A [(a, .inr (3, [.ref a1, .int (nI (g 0)), .int (nI (g 41)), .int (nI (g 42 + k_pc (g 41) * (k_lk (g 0) + 1))), .int (nI (g 43)), .int (nI (g 44)), .int (nI (g 45)), .ref a2, .int (nI (g 46)), .int (nI (g 59))])), (a1, .inl (tc 0, 40, .inl (upd tr (g 0) ((nI t))))), (a2, .inl (tc 0, 12, .inl qs))] := hD
      refine lv_aload_n hx hb dX4_put_44 rfl (lv_at hl 0 rfl) ?_
      refine lv_dup hx hb dX4_put_45 rfl ?_
      refine va_get (D := D) (ci := 3) (v := .int (nI (g 0))) (C := RX4) (T := TX4) (N := 10) hx hb hts hinX4 hown hM.1 hP 0 rfl rfl 1 (by decide) (hts (.fieldLink RX4 25 "TripleWays$State" "size" "I") (by decide +kernel)) (fun _ h9 => h9) rfl dX4_put_46 ?_
      refine lv_iconst (v := (nI 1)) hx hb dX4_put_49 (by decide) ?_
      refine ln_iadd hx hb dX4_put_50 ?_
      refine va_put (D := D) (ci := 3) (v := .int (nI ((g 0) + 1))) (ty := .int) (C := RX4) (T := TX4) (N := 10) hx hb hts hinX4 tyX4 tyX4_ok nmX4 hown hM.1 hP hD hS 0 rfl rfl 1 (by decide) (hts (.fieldLink RX4 25 "TripleWays$State" "size" "I") (by decide +kernel)) (fun _ h9 => h9) rfl (by decide +kernel) rfl rfl (Nat.le_of_ble_eq_true rfl) dX4_put_51 (fun H locs hP hD hS => ?_)
      have hP : va_P D vwCl [(a, .inr (3, [.ref a1, .int (nI ((g 0) + 1)), .int (nI (g 41)), .int (nI (g 42 + k_pc (g 41) * (k_lk (g 0) + 1))), .int (nI (g 43)), .int (nI (g 44)), .int (nI (g 45)), .ref a2, .int (nI (g 46)), .int (nI (g 59))])), (a1, .inl (tc 0, 40, .inl (upd tr (g 0) ((nI t))))), (a2, .inl (tc 0, 12, .inl qs))] H := hP
      have hD : va_D A [(a, .inr (3, [.ref a1, .int (nI ((g 0) + 1)), .int (nI (g 41)), .int (nI (g 42 + k_pc (g 41) * (k_lk (g 0) + 1))), .int (nI (g 43)), .int (nI (g 44)), .int (nI (g 45)), .ref a2, .int (nI (g 46)), .int (nI (g 59))])), (a1, .inl (tc 0, 40, .inl (upd tr (g 0) ((nI t))))), (a2, .inl (tc 0, 12, .inl qs))] := hD
      refine lv_iconst (v := (nI 1)) hx hb dX4_put_54 (by decide) ?_
      exact ip_iret hx hb hr hlk dX4_put_55 hS (congrArg nI (by (have hn9 : k_new g t = true := k_new_of (by omega) (by assumption)); simp [k_pv, hn9])) (by (have hn9 : k_new g t = true := k_new_of (by omega) (by assumption)); rw [show m_put g t = m_add g t from if_pos hn9, show k_ptr tr g t = upd tr (g 0) (nI t) from if_pos hn9]; rw [w_st_eq (g' := m_add g t) (n0 := (g 0) + 1) (n41 := g 41) (n42 := g 42 + k_pc (g 41) * (k_lk (g 0) + 1)) (n43 := g 43) (n44 := g 44) (n45 := g 45) (n46 := g 46) (n59 := g 59) (by simp only [m_add, k_up, if_true] <;> (repeat' split) <;> omega) (by simp only [m_add, k_up, if_true] <;> (repeat' split) <;> omega) (by simp only [m_add, k_up, if_true] <;> (repeat' split) <;> omega) (by simp only [m_add, k_up, if_true] <;> (repeat' split) <;> omega) (by simp only [m_add, k_up, if_true] <;> (repeat' split) <;> omega) (by simp only [m_add, k_up, if_true] <;> (repeat' split) <;> omega) (by simp only [m_add, k_up, if_true] <;> (repeat' split) <;> omega) (by simp only [m_add, k_up, if_true] <;> (repeat' split) <;> omega)]; exact hP)
    | some r21 =>
      refine ln_eq (x' := nI r21) rfl ?_
      have hr9 := k_ix_lt ho21
      refine lv_iconst (v := (-1)) hx hb dX4_put_24 (by decide) ?_
      refine ln_eq_m1 (tgt := 30) hx hb dX4_put_25 (by decide) (by omega) ?_
      refine lv_iconst (v := (nI 0)) hx hb dX4_put_28 (by decide) ?_
      exact ip_iret hx hb hr hlk dX4_put_29 hS (congrArg nI (by (have hn9 : k_new g t = false := by first | exact k_new_some (by assumption) | exact k_new_full (by omega)); simp [k_pv, hn9])) (by (have hn9 : k_new g t = false := by first | exact k_new_some (by assumption) | exact k_new_full (by omega)); rw [show m_put g t = g from if_neg (by rw [hn9]; decide), show k_ptr tr g t = tr from if_neg (by rw [hn9]; decide)]; exact hP)
set_option maxHeartbeats 4000000 in
set_option maxRecDepth 100000 in
theorem c_take (l : Launch) (D : va_G) (tc : Nat → ClassId) (zb : Nat) (a a1 a2 : Nat) (tr qs : Nat → Int32) (g : Nat → Nat) (t : Nat) (hk : k_ok g) (hR : k_R tr qs g) (ht : t < 1000) : IP l yX4_take wsX4_take 2 43 D tc zb (w_st tc a a1 a2 tr qs g) (w_st tc a a1 a2 (k_rtr tr g t) qs (m_rem g t)) [.ref a, .int (nI t)] (some (.int (nI (k_rv g t)))) := by
  refine IP.of (cc := cX4_take) (maxL := 4) (ret := (some .int)) (by decide) rfl (Nat.le_of_ble_eq_true rfl) ?_
  intro p e s m args below meth c A hx hb hr hml hlk hts hown hM hS hP hD ls hl
  have hl : lv_has ls 4 [(0, .ref a), (1, .int (nI t))] := hl
  have hinX4 : ∀ w ∈ u_ws RX4 TX4 10, w ∈ wsX4_take := by decide +kernel
  obtain ⟨ok0, ok1, ok2, ok3, ok4, ok5, ok6⟩ := id hk
  refine lv_aload_n hx hb dX4_take_0 rfl (lv_at hl 0 rfl) ?_
  refine lv_iload_n hx hb dX4_take_1 rfl (lv_at hl 1 rfl) ?_
  refine ro_V (C := RX4) (n := 1) ⟨hx, hb, hml, hown, hts⟩ hM hS hP (c_indexOf l D tc zb a a1 a2 tr qs g t hk hR (by omega)) gX4_take_X4_indexOf rfl (by decide +kernel) ⟨Nat.le_of_ble_eq_true rfl, Nat.le_of_ble_eq_true rfl⟩ [0, 1, 2] rfl (va_recv hM.1 hP (ci := 3) (q0 := 0) rfl rfl) rfl hl.1 rfl (Nat.le_of_ble_eq_true rfl) dX4_take_2 ⟨Nat.le_refl _, Nat.le_refl _⟩ ?_
  cases ho2 : k_ix g t with
  | none =>
    refine ln_eq (x' := -1) rfl ?_
    refine lv_istore_n (lv' := [(2, .int (-1)), (0, .ref a), (1, .int (nI t))]) hx hb dX4_take_5 rfl hl (by decide) rfl (fun ls hl => ?_)
    refine lv_iload_n hx hb dX4_take_6 rfl (lv_at hl 0 rfl) ?_
    refine lv_if_ge (tgt := 12) hx hb dX4_take_7 (by decide) (fun h9 => False.elim (by revert h9; decide)) (fun _ => ?_)
    refine lv_iconst (v := (nI 0)) hx hb dX4_take_10 (by decide) ?_
    exact ip_iret hx hb hr hlk dX4_take_11 hS (congrArg nI (by simp only [k_rv, ho2])) (by rw [show m_rem g t = g by simp only [m_rem, ho2], show k_rtr tr g t = tr by simp only [k_rtr, ho2]]; exact hP)
  | some r2 =>
    refine ln_eq (x' := nI r2) rfl ?_
    have hr9 := k_ix_lt ho2
    refine lv_istore_n (lv' := [(2, .int (nI r2)), (0, .ref a), (1, .int (nI t))]) hx hb dX4_take_5 rfl hl (by decide) rfl (fun ls hl => ?_)
    refine lv_iload_n hx hb dX4_take_6 rfl (lv_at hl 0 rfl) ?_
    refine ln_if_ge (tgt := 12) hx hb dX4_take_7 (by decide) (by omega) ?_
    refine lv_aload_n hx hb dX4_take_12 rfl (lv_at hl 1 rfl) ?_
    refine ip_V (C := RX4) (n := 0) (wl' := [(a, .inr (3, [.ref a1, .int (nI (g 0)), .int (nI (g 41)), .int (nI (g 42 + k_pc (g 41) * (k_lk (g 0) + 1))), .int (nI (g 43)), .int (nI (g 44)), .int (nI (g 45)), .ref a2, .int (nI (g 46)), .int (nI (g 59))])), (a1, .inl (tc 0, 40, .inl tr)), (a2, .inl (tc 0, 12, .inl qs))]) ⟨hx, hb, hml, hown, hts⟩ hM hS hP hD (c_payUpkeep l D tc zb a a1 a2 tr qs g hk hR) gX4_take_X4_payUpkeep rfl (by decide +kernel) ⟨Nat.le_of_ble_eq_true rfl, Nat.le_of_ble_eq_true rfl⟩ [0, 1, 2] rfl rfl [(true, 0), (true, 1), (true, 2)] rfl rfl rfl (va_recv hM.1 hP (ci := 3) (q0 := 0) rfl rfl) rfl hl.1 rfl (Nat.le_of_ble_eq_true rfl) dX4_take_13 ⟨Nat.le_refl _, Nat.le_refl _⟩ (fun H locs hP hD hS => ?_)
    refine W.eq (g2 := F0 m 16 ls []) rfl ?_
    refine lv_iload_n hx hb dX4_take_16 rfl (lv_at hl 0 rfl) ?_
    refine lv_istore_n (lv' := [(3, .int (nI r2)), (2, .int (nI r2)), (0, .ref a), (1, .int (nI t))]) hx hb dX4_take_17 rfl hl (by decide) rfl (fun ls hl => ?_)
    have lp18 : ∀ (n9 : Nat) (ff : Nat → Int32) (j : Nat), (g 0 - j) < n9 → (r2 ≤ j ∧ j ≤ g 0 - 1) → (ff = k_sh tr r2 j) → ∀ (H : Heap) (locs : List Loc), va_P D vwCl [(a, .inr (3, [.ref a1, .int (nI (g 0)), .int (nI (g 41)), .int (nI (g 42 + k_pc (g 41) * (k_lk (g 0) + 1))), .int (nI (g 43)), .int (nI (g 44)), .int (nI (g 45)), .ref a2, .int (nI (g 46)), .int (nI (g 59))])), (a1, .inl (tc 0, 40, .inl ff)), (a2, .inl (tc 0, 12, .inl qs))] H → va_D A [(a, .inr (3, [.ref a1, .int (nI (g 0)), .int (nI (g 41)), .int (nI (g 42 + k_pc (g 41) * (k_lk (g 0) + 1))), .int (nI (g 43)), .int (nI (g 44)), .int (nI (g 45)), .ref a2, .int (nI (g 46)), .int (nI (g 59))])), (a1, .inl (tc 0, 40, .inl ff)), (a2, .inl (tc 0, 12, .inl qs))] → va_S A s.heap H locs → ∀ ls : Array Slot, lv_has ls 4 [(3, .int (nI j)), (2, .int (nI r2)), (0, .ref a), (1, .int (nI t))] → W p l e ({ frames := 2, cells := 0, slots := 0, locals := 43 } : Room) s m args below meth c H locs 0 0 (MQ below (ipQ D A (w_st tc a a1 a2 (k_rtr tr g t) qs (m_rem g t)) (some (.int (nI (k_rv g t))))) args s 0 0 A) (F0 m 18 ls []) := by
      intro n9
      induction n9 with
      | zero => intro ff j hmu; exact absurd hmu (Nat.not_lt_zero _)
      | succ n9 ih18 =>
        intro ff j hmu hj hff H locs hP hD hS ls hl
        refine lv_iload_n hx hb dX4_take_18 rfl (lv_at hl 0 rfl) ?_
        refine lv_iconst (v := (nI 1)) hx hb dX4_take_19 (by decide) ?_
        refine ln_iadd hx hb dX4_take_20 ?_
        refine lv_aload_n hx hb dX4_take_21 rfl (lv_at hl 2 rfl) ?_
        refine va_get (D := D) (ci := 3) (v := .int (nI (g 0))) (C := RX4) (T := TX4) (N := 10) hx hb hts hinX4 hown hM.1 hP 0 rfl rfl 1 (by decide) (hts (.fieldLink RX4 25 "TripleWays$State" "size" "I") (by decide +kernel)) (fun _ h9 => h9) rfl dX4_take_22 ?_
        refine ln_icmp_ge (tgt := 59) hx hb dX4_take_25 (by decide) (by omega) (by omega) (fun h1 => ?_) (fun h1 => ?_)
        · refine lv_aload_n hx hb dX4_take_59 rfl (lv_at hl 2 rfl) ?_
          refine lv_dup hx hb dX4_take_60 rfl ?_
          refine va_get (D := D) (ci := 3) (v := .int (nI (g 0))) (C := RX4) (T := TX4) (N := 10) hx hb hts hinX4 hown hM.1 hP 0 rfl rfl 1 (by decide) (hts (.fieldLink RX4 25 "TripleWays$State" "size" "I") (by decide +kernel)) (fun _ h9 => h9) rfl dX4_take_61 ?_
          refine lv_iconst (v := (nI 1)) hx hb dX4_take_64 (by decide) ?_
          refine ln_isub hx hb dX4_take_65 (by omega) ?_
          refine va_put (D := D) (ci := 3) (v := .int (nI ((g 0) - 1))) (ty := .int) (C := RX4) (T := TX4) (N := 10) hx hb hts hinX4 tyX4 tyX4_ok nmX4 hown hM.1 hP hD hS 0 rfl rfl 1 (by decide) (hts (.fieldLink RX4 25 "TripleWays$State" "size" "I") (by decide +kernel)) (fun _ h9 => h9) rfl (by decide +kernel) rfl rfl (Nat.le_of_ble_eq_true rfl) dX4_take_66 (fun H locs hP hD hS => ?_)
          have hP : va_P D vwCl [(a, .inr (3, [.ref a1, .int (nI ((g 0) - 1)), .int (nI (g 41)), .int (nI (g 42 + k_pc (g 41) * (k_lk (g 0) + 1))), .int (nI (g 43)), .int (nI (g 44)), .int (nI (g 45)), .ref a2, .int (nI (g 46)), .int (nI (g 59))])), (a1, .inl (tc 0, 40, .inl ff)), (a2, .inl (tc 0, 12, .inl qs))] H := hP
          have hD : va_D A [(a, .inr (3, [.ref a1, .int (nI ((g 0) - 1)), .int (nI (g 41)), .int (nI (g 42 + k_pc (g 41) * (k_lk (g 0) + 1))), .int (nI (g 43)), .int (nI (g 44)), .int (nI (g 45)), .ref a2, .int (nI (g 46)), .int (nI (g 59))])), (a1, .inl (tc 0, 40, .inl ff)), (a2, .inl (tc 0, 12, .inl qs))] := hD
          refine lv_iconst (v := (nI 1)) hx hb dX4_take_69 (by decide) ?_
          exact ip_iret hx hb hr hlk dX4_take_70 hS (congrArg nI (by simp only [k_rv, ho2])) (by (have ej : j = g 0 - 1 := by omega); (have ef : ff = k_sh tr r2 (g 0 - 1) := by rw [hff, ej]); rw [show m_rem g t = m_del g r2 by simp only [m_rem, ho2], show k_rtr tr g t = ff by simp only [k_rtr, ho2, ef]]; rw [w_st_eq (g' := m_del g r2) (n0 := (g 0) - 1) (n41 := g 41) (n42 := g 42 + k_pc (g 41) * (k_lk (g 0) + 1)) (n43 := g 43) (n44 := g 44) (n45 := g 45) (n46 := g 46) (n59 := g 59) (by simp only [m_del, m_sh, m_up, k_up, if_true] <;> (repeat' split) <;> omega) (by simp only [m_del, m_sh, m_up, k_up, if_true] <;> (repeat' split) <;> omega) (by simp only [m_del, m_sh, m_up, k_up, if_true] <;> (repeat' split) <;> omega) (by simp only [m_del, m_sh, m_up, k_up, if_true] <;> (repeat' split) <;> omega) (by simp only [m_del, m_sh, m_up, k_up, if_true] <;> (repeat' split) <;> omega) (by simp only [m_del, m_sh, m_up, k_up, if_true] <;> (repeat' split) <;> omega) (by simp only [m_del, m_sh, m_up, k_up, if_true] <;> (repeat' split) <;> omega) (by simp only [m_del, m_sh, m_up, k_up, if_true] <;> (repeat' split) <;> omega)]; exact hP)
        · refine lv_iload_n hx hb dX4_take_28 rfl (lv_at hl 0 rfl) ?_
          refine lv_iconst (v := (nI 1)) hx hb dX4_take_29 (by decide) ?_
          refine ln_iadd hx hb dX4_take_30 ?_
          refine lv_aload_n hx hb dX4_take_31 rfl (lv_at hl 2 rfl) ?_
          refine va_get (D := D) (ci := 3) (v := .ref a1) (C := RX4) (T := TX4) (N := 10) hx hb hts hinX4 hown hM.1 hP 0 rfl rfl 0 (by decide) (hts (.fieldLink RX4 9 "TripleWays$State" "triples" "[I") (by decide +kernel)) (fun _ h9 => h9) rfl dX4_take_32 ?_
          refine va_alen hx hb hM.1 hP 1 0 rfl rfl (v := nI 40) rfl dX4_take_35 ?_
          refine ln_icmp_ge (tgt := 59) hx hb dX4_take_36 (by decide) (by omega) (by decide) (fun h2 => ?_) (fun h2 => ?_)
          · refine lv_aload_n hx hb dX4_take_59 rfl (lv_at hl 2 rfl) ?_
            refine lv_dup hx hb dX4_take_60 rfl ?_
            refine va_get (D := D) (ci := 3) (v := .int (nI (g 0))) (C := RX4) (T := TX4) (N := 10) hx hb hts hinX4 hown hM.1 hP 0 rfl rfl 1 (by decide) (hts (.fieldLink RX4 25 "TripleWays$State" "size" "I") (by decide +kernel)) (fun _ h9 => h9) rfl dX4_take_61 ?_
            refine lv_iconst (v := (nI 1)) hx hb dX4_take_64 (by decide) ?_
            refine ln_isub hx hb dX4_take_65 (by omega) ?_
            refine va_put (D := D) (ci := 3) (v := .int (nI ((g 0) - 1))) (ty := .int) (C := RX4) (T := TX4) (N := 10) hx hb hts hinX4 tyX4 tyX4_ok nmX4 hown hM.1 hP hD hS 0 rfl rfl 1 (by decide) (hts (.fieldLink RX4 25 "TripleWays$State" "size" "I") (by decide +kernel)) (fun _ h9 => h9) rfl (by decide +kernel) rfl rfl (Nat.le_of_ble_eq_true rfl) dX4_take_66 (fun H locs hP hD hS => ?_)
            have hP : va_P D vwCl [(a, .inr (3, [.ref a1, .int (nI ((g 0) - 1)), .int (nI (g 41)), .int (nI (g 42 + k_pc (g 41) * (k_lk (g 0) + 1))), .int (nI (g 43)), .int (nI (g 44)), .int (nI (g 45)), .ref a2, .int (nI (g 46)), .int (nI (g 59))])), (a1, .inl (tc 0, 40, .inl ff)), (a2, .inl (tc 0, 12, .inl qs))] H := hP
            have hD : va_D A [(a, .inr (3, [.ref a1, .int (nI ((g 0) - 1)), .int (nI (g 41)), .int (nI (g 42 + k_pc (g 41) * (k_lk (g 0) + 1))), .int (nI (g 43)), .int (nI (g 44)), .int (nI (g 45)), .ref a2, .int (nI (g 46)), .int (nI (g 59))])), (a1, .inl (tc 0, 40, .inl ff)), (a2, .inl (tc 0, 12, .inl qs))] := hD
            refine lv_iconst (v := (nI 1)) hx hb dX4_take_69 (by decide) ?_
            exact ip_iret hx hb hr hlk dX4_take_70 hS (congrArg nI (by simp only [k_rv, ho2])) (by (have ej : j = g 0 - 1 := by omega); (have ef : ff = k_sh tr r2 (g 0 - 1) := by rw [hff, ej]); rw [show m_rem g t = m_del g r2 by simp only [m_rem, ho2], show k_rtr tr g t = ff by simp only [k_rtr, ho2, ef]]; rw [w_st_eq (g' := m_del g r2) (n0 := (g 0) - 1) (n41 := g 41) (n42 := g 42 + k_pc (g 41) * (k_lk (g 0) + 1)) (n43 := g 43) (n44 := g 44) (n45 := g 45) (n46 := g 46) (n59 := g 59) (by simp only [m_del, m_sh, m_up, k_up, if_true] <;> (repeat' split) <;> omega) (by simp only [m_del, m_sh, m_up, k_up, if_true] <;> (repeat' split) <;> omega) (by simp only [m_del, m_sh, m_up, k_up, if_true] <;> (repeat' split) <;> omega) (by simp only [m_del, m_sh, m_up, k_up, if_true] <;> (repeat' split) <;> omega) (by simp only [m_del, m_sh, m_up, k_up, if_true] <;> (repeat' split) <;> omega) (by simp only [m_del, m_sh, m_up, k_up, if_true] <;> (repeat' split) <;> omega) (by simp only [m_del, m_sh, m_up, k_up, if_true] <;> (repeat' split) <;> omega) (by simp only [m_del, m_sh, m_up, k_up, if_true] <;> (repeat' split) <;> omega)]; exact hP)
          · refine lv_aload_n hx hb dX4_take_39 rfl (lv_at hl 2 rfl) ?_
            refine va_get (D := D) (ci := 3) (v := .ref a1) (C := RX4) (T := TX4) (N := 10) hx hb hts hinX4 hown hM.1 hP 0 rfl rfl 0 (by decide) (hts (.fieldLink RX4 9 "TripleWays$State" "triples" "[I") (by decide +kernel)) (fun _ h9 => h9) rfl dX4_take_40 ?_
            refine lv_iload_n hx hb dX4_take_43 rfl (lv_at hl 0 rfl) ?_
            refine lv_aload_n hx hb dX4_take_44 rfl (lv_at hl 2 rfl) ?_
            refine va_get (D := D) (ci := 3) (v := .ref a1) (C := RX4) (T := TX4) (N := 10) hx hb hts hinX4 hown hM.1 hP 0 rfl rfl 0 (by decide) (hts (.fieldLink RX4 9 "TripleWays$State" "triples" "[I") (by decide +kernel)) (fun _ h9 => h9) rfl dX4_take_45 ?_
            refine lv_iload_n hx hb dX4_take_48 rfl (lv_at hl 0 rfl) ?_
            refine lv_iconst (v := (nI 1)) hx hb dX4_take_49 (by decide) ?_
            refine ln_iadd hx hb dX4_take_50 ?_
            refine ln_iald hx hb hM.1 hP 1 0 rfl rfl dX4_take_51 (by decide) (by omega) (rfl) ?_
            refine ln_iast hx hb hM.1 hP hD hS 1 0 rfl rfl dX4_take_52 (by decide) (by omega) (fun H locs hP hD hS => ?_)
            have hP : va_P D vwCl [(a, .inr (3, [.ref a1, .int (nI (g 0)), .int (nI (g 41)), .int (nI (g 42 + k_pc (g 41) * (k_lk (g 0) + 1))), .int (nI (g 43)), .int (nI (g 44)), .int (nI (g 45)), .ref a2, .int (nI (g 46)), .int (nI (g 59))])), (a1, .inl (tc 0, 40, .inl (upd ff j ((ff (j + 1)))))), (a2, .inl (tc 0, 12, .inl qs))] H := hP
            have hD : va_D A [(a, .inr (3, [.ref a1, .int (nI (g 0)), .int (nI (g 41)), .int (nI (g 42 + k_pc (g 41) * (k_lk (g 0) + 1))), .int (nI (g 43)), .int (nI (g 44)), .int (nI (g 45)), .ref a2, .int (nI (g 46)), .int (nI (g 59))])), (a1, .inl (tc 0, 40, .inl (upd ff j ((ff (j + 1)))))), (a2, .inl (tc 0, 12, .inl qs))] := hD
            refine lv_iinc (v := (nI (j + 1))) (lv' := [(3, .int (nI (j + 1))), (2, .int (nI r2)), (0, .ref a), (1, .int (nI t))]) hx hb dX4_take_53 hl (k := 0) rfl (nI_add j 1) (by decide) rfl (fun ls hl => ?_)
            refine lv_goto (tgt := 18) hx hb dX4_take_56 (by decide) ?_
            exact ih18 (upd ff j ((ff (j + 1)))) (j + 1) (by omega) (by omega) (by exact k_sh_1 hj.1 hff) _ _ hP hD hS _ (lv_sub hl [0, 1, 2, 3] rfl)
    exact lp18 _ tr r2 (Nat.lt_succ_self _) (by omega) (by exact (k_sh_0 tr r2).symm) _ _ hP hD hS _ (lv_sub hl [0, 1, 2, 3] rfl)
set_option maxHeartbeats 4000000 in
set_option maxRecDepth 100000 in
theorem c_keep (l : Launch) (D : va_G) (tc : Nat → ClassId) (zb : Nat) (a a1 a2 : Nat) (tr qs : Nat → Int32) (g : Nat → Nat) (q : Nat) (hk : k_ok g) (hR : k_R tr qs g) (hq : q < 6) : IP l yX4_keep wsX4_keep 1 21 D tc zb (w_st tc a a1 a2 tr qs g) (w_st tc a a1 a2 tr qs (m_bld g q)) [.ref a, .int (nI q)] (some (.int (nI (g 0 * k_lk (g 0))))) := by
  refine IP.of (cc := cX4_keep) (maxL := 3) (ret := (some .int)) (by decide) rfl (Nat.le_of_ble_eq_true rfl) ?_
  intro p e s m args below meth c A hx hb hr hml hlk hts hown hM hS hP hD ls hl
  have hl : lv_has ls 3 [(0, .ref a), (1, .int (nI q))] := hl
  have hinX4 : ∀ w ∈ u_ws RX4 TX4 10, w ∈ wsX4_keep := by decide +kernel
  obtain ⟨ok0, ok1, ok2, ok3, ok4, ok5, ok6⟩ := id hk
  refine lv_aload_n hx hb dX4_keep_0 rfl (lv_at hl 0 rfl) ?_
  refine va_get (D := D) (ci := 3) (v := .int (nI (g 0))) (C := RX4) (T := TX4) (N := 10) hx hb hts hinX4 hown hM.1 hP 0 rfl rfl 1 (by decide) (hts (.fieldLink RX4 25 "TripleWays$State" "size" "I") (by decide +kernel)) (fun _ h9 => h9) rfl dX4_keep_1 ?_
  refine lv_aload_n hx hb dX4_keep_4 rfl (lv_at hl 0 rfl) ?_
  refine ro_V (C := RX4) (n := 0) ⟨hx, hb, hml, hown, hts⟩ hM hS hP (c_look l D tc zb a a1 a2 tr qs g hk hR) gX4_keep_X4_look rfl (by decide +kernel) ⟨Nat.le_of_ble_eq_true rfl, Nat.le_of_ble_eq_true rfl⟩ [0, 1, 2] rfl (va_recv hM.1 hP (ci := 3) (q0 := 0) rfl rfl) rfl hl.1 rfl (Nat.le_of_ble_eq_true rfl) dX4_keep_5 ⟨Nat.le_refl _, Nat.le_refl _⟩ ?_
  have hf1 := k_lk_le (g 0)
  refine ln_imul hx hb dX4_keep_8 ?_
  refine lv_istore_n (lv' := [(2, .int (nI ((g 0) * (k_lk (g 0))))), (0, .ref a), (1, .int (nI q))]) hx hb dX4_keep_9 rfl hl (by decide) rfl (fun ls hl => ?_)
  refine lv_aload_n hx hb dX4_keep_10 rfl (lv_at hl 1 rfl) ?_
  refine lv_dup hx hb dX4_keep_11 rfl ?_
  refine va_get (D := D) (ci := 3) (v := .int (nI (g 43))) (C := RX4) (T := TX4) (N := 10) hx hb hts hinX4 hown hM.1 hP 0 rfl rfl 4 (by decide) (hts (.fieldLink RX4 35 "TripleWays$State" "buildingCosts" "I") (by decide +kernel)) (fun _ h9 => h9) rfl dX4_keep_12 ?_
  refine lv_iload_n hx hb dX4_keep_15 rfl (lv_at hl 0 rfl) ?_
  refine ln_iadd hx hb dX4_keep_16 ?_
  refine va_put (D := D) (ci := 3) (v := .int (nI ((g 43) + ((g 0) * (k_lk (g 0)))))) (ty := .int) (C := RX4) (T := TX4) (N := 10) hx hb hts hinX4 tyX4 tyX4_ok nmX4 hown hM.1 hP hD hS 0 rfl rfl 4 (by decide) (hts (.fieldLink RX4 35 "TripleWays$State" "buildingCosts" "I") (by decide +kernel)) (fun _ h9 => h9) rfl (by decide +kernel) rfl rfl (Nat.le_of_ble_eq_true rfl) dX4_keep_17 (fun H locs hP hD hS => ?_)
  have hP : va_P D vwCl [(a, .inr (3, [.ref a1, .int (nI (g 0)), .int (nI (g 41)), .int (nI (g 42)), .int (nI ((g 43) + ((g 0) * (k_lk (g 0))))), .int (nI (g 44)), .int (nI (g 45)), .ref a2, .int (nI (g 46)), .int (nI (g 59))])), (a1, .inl (tc 0, 40, .inl tr)), (a2, .inl (tc 0, 12, .inl qs))] H := hP
  have hD : va_D A [(a, .inr (3, [.ref a1, .int (nI (g 0)), .int (nI (g 41)), .int (nI (g 42)), .int (nI ((g 43) + ((g 0) * (k_lk (g 0))))), .int (nI (g 44)), .int (nI (g 45)), .ref a2, .int (nI (g 46)), .int (nI (g 59))])), (a1, .inl (tc 0, 40, .inl tr)), (a2, .inl (tc 0, 12, .inl qs))] := hD
  refine lv_aload_n hx hb dX4_keep_20 rfl (lv_at hl 1 rfl) ?_
  refine lv_dup hx hb dX4_keep_21 rfl ?_
  refine va_get (D := D) (ci := 3) (v := .int (nI (g 41))) (C := RX4) (T := TX4) (N := 10) hx hb hts hinX4 hown hM.1 hP 0 rfl rfl 2 (by decide) (hts (.fieldLink RX4 15 "TripleWays$State" "kept" "I") (by decide +kernel)) (fun _ h9 => h9) rfl dX4_keep_22 ?_
  refine lv_iconst (v := (nI 1)) hx hb dX4_keep_25 (by decide) ?_
  refine lv_iload_n hx hb dX4_keep_26 rfl (lv_at hl 2 rfl) ?_
  refine ln_ishl1 hx hb dX4_keep_27 (by omega) ?_
  refine ln_ior hx hb dX4_keep_28 ?_
  refine va_put (D := D) (ci := 3) (v := .int (nI ((g 41) ||| (2 ^ q)))) (ty := .int) (C := RX4) (T := TX4) (N := 10) hx hb hts hinX4 tyX4 tyX4_ok nmX4 hown hM.1 hP hD hS 0 rfl rfl 2 (by decide) (hts (.fieldLink RX4 15 "TripleWays$State" "kept" "I") (by decide +kernel)) (fun _ h9 => h9) rfl (by decide +kernel) rfl rfl (Nat.le_of_ble_eq_true rfl) dX4_keep_29 (fun H locs hP hD hS => ?_)
  have hP : va_P D vwCl [(a, .inr (3, [.ref a1, .int (nI (g 0)), .int (nI ((g 41) ||| (2 ^ q))), .int (nI (g 42)), .int (nI ((g 43) + ((g 0) * (k_lk (g 0))))), .int (nI (g 44)), .int (nI (g 45)), .ref a2, .int (nI (g 46)), .int (nI (g 59))])), (a1, .inl (tc 0, 40, .inl tr)), (a2, .inl (tc 0, 12, .inl qs))] H := hP
  have hD : va_D A [(a, .inr (3, [.ref a1, .int (nI (g 0)), .int (nI ((g 41) ||| (2 ^ q))), .int (nI (g 42)), .int (nI ((g 43) + ((g 0) * (k_lk (g 0))))), .int (nI (g 44)), .int (nI (g 45)), .ref a2, .int (nI (g 46)), .int (nI (g 59))])), (a1, .inl (tc 0, 40, .inl tr)), (a2, .inl (tc 0, 12, .inl qs))] := hD
  refine lv_iload_n hx hb dX4_keep_32 rfl (lv_at hl 0 rfl) ?_
  exact ip_iret hx hb hr hlk dX4_keep_33 hS (congrArg nI (by omega)) (by rw [w_st_eq (g' := m_bld g q) (n0 := g 0) (n41 := (g 41) ||| (2 ^ q)) (n42 := g 42) (n43 := (g 43) + ((g 0) * (k_lk (g 0)))) (n44 := g 44) (n45 := g 45) (n46 := g 46) (n59 := g 59) (by simp only [m_bld, k_up, if_true] <;> (repeat' split) <;> omega) (by simp only [m_bld, k_up, if_true] <;> (repeat' split) <;> omega) (by simp only [m_bld, k_up, if_true] <;> (repeat' split) <;> omega) (by simp only [m_bld, k_up, if_true] <;> (repeat' split) <;> omega) (by simp only [m_bld, k_up, if_true] <;> (repeat' split) <;> omega) (by simp only [m_bld, k_up, if_true] <;> (repeat' split) <;> omega) (by simp only [m_bld, k_up, if_true] <;> (repeat' split) <;> omega) (by simp only [m_bld, k_up, if_true] <;> (repeat' split) <;> omega)]; exact hP)
set_option maxHeartbeats 4000000 in
set_option maxRecDepth 100000 in
theorem c_discard (l : Launch) (D : va_G) (tc : Nat → ClassId) (zb : Nat) (a a1 a2 : Nat) (tr qs : Nat → Int32) (g : Nat → Nat) (q : Nat) (hk : k_ok g) (hR : k_R tr qs g) (hq : q < 6) : IP l yX4_discard wsX4_discard 1 20 D tc zb (w_st tc a a1 a2 tr qs g) (w_st tc a a1 a2 tr qs (m_drp g q)) [.ref a, .int (nI q)] (some (.int (nI (k_pc (g 41 &&& (63 ^^^ 2 ^ q)))))) := by
  refine IP.of (cc := cX4_discard) (maxL := 2) (ret := (some .int)) (by decide) rfl (Nat.le_of_ble_eq_true rfl) ?_
  intro p e s m args below meth c A hx hb hr hml hlk hts hown hM hS hP hD ls hl
  have hl : lv_has ls 2 [(0, .ref a), (1, .int (nI q))] := hl
  have hinX4 : ∀ w ∈ u_ws RX4 TX4 10, w ∈ wsX4_discard := by decide +kernel
  obtain ⟨ok0, ok1, ok2, ok3, ok4, ok5, ok6⟩ := id hk
  refine lv_aload_n hx hb dX4_discard_0 rfl (lv_at hl 0 rfl) ?_
  refine lv_dup hx hb dX4_discard_1 rfl ?_
  refine va_get (D := D) (ci := 3) (v := .int (nI (g 41))) (C := RX4) (T := TX4) (N := 10) hx hb hts hinX4 hown hM.1 hP 0 rfl rfl 2 (by decide) (hts (.fieldLink RX4 15 "TripleWays$State" "kept" "I") (by decide +kernel)) (fun _ h9 => h9) rfl dX4_discard_2 ?_
  refine lv_iconst (v := (nI 1)) hx hb dX4_discard_5 (by decide) ?_
  refine lv_iload_n hx hb dX4_discard_6 rfl (lv_at hl 1 rfl) ?_
  refine ln_ishl1 hx hb dX4_discard_7 (by omega) ?_
  refine lv_iconst (v := (-1)) hx hb dX4_discard_8 (by decide) ?_
  refine lv_ixor hx hb dX4_discard_9 ?_
  refine ln_iandn hx hb dX4_discard_10 (by omega) (k_pow64 (by omega)) ?_
  refine va_put (D := D) (ci := 3) (v := .int (nI ((g 41) &&& (63 ^^^ (2 ^ q))))) (ty := .int) (C := RX4) (T := TX4) (N := 10) hx hb hts hinX4 tyX4 tyX4_ok nmX4 hown hM.1 hP hD hS 0 rfl rfl 2 (by decide) (hts (.fieldLink RX4 15 "TripleWays$State" "kept" "I") (by decide +kernel)) (fun _ h9 => h9) rfl (by decide +kernel) rfl rfl (Nat.le_of_ble_eq_true rfl) dX4_discard_11 (fun H locs hP hD hS => ?_)
  have hP : va_P D vwCl [(a, .inr (3, [.ref a1, .int (nI (g 0)), .int (nI ((g 41) &&& (63 ^^^ (2 ^ q)))), .int (nI (g 42)), .int (nI (g 43)), .int (nI (g 44)), .int (nI (g 45)), .ref a2, .int (nI (g 46)), .int (nI (g 59))])), (a1, .inl (tc 0, 40, .inl tr)), (a2, .inl (tc 0, 12, .inl qs))] H := hP
  have hD : va_D A [(a, .inr (3, [.ref a1, .int (nI (g 0)), .int (nI ((g 41) &&& (63 ^^^ (2 ^ q)))), .int (nI (g 42)), .int (nI (g 43)), .int (nI (g 44)), .int (nI (g 45)), .ref a2, .int (nI (g 46)), .int (nI (g 59))])), (a1, .inl (tc 0, 40, .inl tr)), (a2, .inl (tc 0, 12, .inl qs))] := hD
  refine lv_aload_n hx hb dX4_discard_14 rfl (lv_at hl 0 rfl) ?_
  have hd9 : g 41 &&& (63 ^^^ 2 ^ q) < 64 := k_and64 ok1
  refine va_get (D := D) (ci := 3) (v := .int (nI ((g 41) &&& (63 ^^^ (2 ^ q))))) (C := RX4) (T := TX4) (N := 10) hx hb hts hinX4 hown hM.1 hP 0 rfl rfl 2 (by decide) (hts (.fieldLink RX4 15 "TripleWays$State" "kept" "I") (by decide +kernel)) (fun _ h9 => h9) rfl dX4_discard_15 ?_
  refine ro_S (n := 1) ⟨hx, hb, hml, hown, hts⟩ hM hS hP (c_bitCount l D tc zb ((g 41) &&& (63 ^^^ (2 ^ q))) (by omega)) gX4_discard_J6_bitCount_0f7a4 rfl (by decide +kernel) ⟨Nat.le_of_ble_eq_true rfl, Nat.le_of_ble_eq_true rfl⟩ [] rfl rfl hl.1 rfl (Nat.le_of_ble_eq_true rfl) dX4_discard_18 ⟨Nat.le_refl _, Nat.le_refl _⟩ ?_
  have hf1 := k_pc_le ((g 41) &&& (63 ^^^ (2 ^ q)))
  exact ip_iret hx hb hr hlk dX4_discard_21 hS (congrArg nI (by omega)) (by rw [w_st_eq (g' := m_drp g q) (n0 := g 0) (n41 := (g 41) &&& (63 ^^^ (2 ^ q))) (n42 := g 42) (n43 := g 43) (n44 := g 44) (n45 := g 45) (n46 := g 46) (n59 := g 59) (by simp only [m_drp, k_up, if_true] <;> (repeat' split) <;> omega) (by simp only [m_drp, k_up, if_true] <;> (repeat' split) <;> omega) (by simp only [m_drp, k_up, if_true] <;> (repeat' split) <;> omega) (by simp only [m_drp, k_up, if_true] <;> (repeat' split) <;> omega) (by simp only [m_drp, k_up, if_true] <;> (repeat' split) <;> omega) (by simp only [m_drp, k_up, if_true] <;> (repeat' split) <;> omega) (by simp only [m_drp, k_up, if_true] <;> (repeat' split) <;> omega) (by simp only [m_drp, k_up, if_true] <;> (repeat' split) <;> omega)]; exact hP)
set_option maxHeartbeats 4000000 in
set_option maxRecDepth 100000 in
theorem c_forgetOldest (l : Launch) (D : va_G) (tc : Nat → ClassId) (zb : Nat) (a a1 a2 : Nat) (tr qs : Nat → Int32) (n0 n41 n42 n43 n44 n45 n46 n59 : Nat) (h12 : n46 = 12) : IP l yX4_forgetOldest wsX4_forgetOldest 0 0 D tc zb [(a, .inr (3, [.ref a1, .int (nI n0), .int (nI n41), .int (nI n42), .int (nI n43), .int (nI n44), .int (nI n45), .ref a2, .int (nI n46), .int (nI n59)])), (a1, .inl (tc 0, 40, .inl tr)), (a2, .inl (tc 0, 12, .inl qs))] [(a, .inr (3, [.ref a1, .int (nI n0), .int (nI n41), .int (nI n42), .int (nI n43), .int (nI n44), .int (nI n45), .ref a2, .int (nI (n46 - 1)), .int (nI n59)])), (a1, .inl (tc 0, 40, .inl tr)), (a2, .inl (tc 0, 12, .inl ((k_sh qs 0 11))))] [.ref a] none := by
  refine IP.of (cc := cX4_forgetOldest) (maxL := 2) (ret := none) (by decide) rfl (Nat.le_of_ble_eq_true rfl) ?_
  intro p e s m args below meth c A hx hb hr hml hlk hts hown hM hS hP hD ls hl
  have hl : lv_has ls 2 [(0, .ref a)] := hl
  have hinX4 : ∀ w ∈ u_ws RX4 TX4 10, w ∈ wsX4_forgetOldest := by decide +kernel
  refine lv_iconst (v := (nI 0)) hx hb dX4_forgetOldest_0 (by decide) ?_
  refine lv_istore_n (lv' := [(1, .int (nI 0)), (0, .ref a)]) hx hb dX4_forgetOldest_1 rfl hl (by decide) rfl (fun ls hl => ?_)
  have lp2 : ∀ (n9 : Nat) (ff : Nat → Int32) (j : Nat), (12 - j) < n9 → (j ≤ 11) → (ff = k_sh qs 0 j) → ∀ (H : Heap) (locs : List Loc), va_P D vwCl [(a, .inr (3, [.ref a1, .int (nI n0), .int (nI n41), .int (nI n42), .int (nI n43), .int (nI n44), .int (nI n45), .ref a2, .int (nI n46), .int (nI n59)])), (a1, .inl (tc 0, 40, .inl tr)), (a2, .inl (tc 0, 12, .inl ff))] H → va_D A [(a, .inr (3, [.ref a1, .int (nI n0), .int (nI n41), .int (nI n42), .int (nI n43), .int (nI n44), .int (nI n45), .ref a2, .int (nI n46), .int (nI n59)])), (a1, .inl (tc 0, 40, .inl tr)), (a2, .inl (tc 0, 12, .inl ff))] → va_S A s.heap H locs → ∀ ls : Array Slot, lv_has ls 2 [(1, .int (nI j)), (0, .ref a)] → W p l e ({ frames := 0, cells := 0, slots := 0, locals := 0 } : Room) s m args below meth c H locs 0 0 (MQ below (ipQ D A [(a, .inr (3, [.ref a1, .int (nI n0), .int (nI n41), .int (nI n42), .int (nI n43), .int (nI n44), .int (nI n45), .ref a2, .int (nI (n46 - 1)), .int (nI n59)])), (a1, .inl (tc 0, 40, .inl tr)), (a2, .inl (tc 0, 12, .inl ((k_sh qs 0 11))))] none) args s 0 0 A) (F0 m 2 ls []) := by
    intro n9
    induction n9 with
    | zero => intro ff j hmu; exact absurd hmu (Nat.not_lt_zero _)
    | succ n9 ih2 =>
      intro ff j hmu hj hff H locs hP hD hS ls hl
      refine lv_iload_n hx hb dX4_forgetOldest_2 rfl (lv_at hl 0 rfl) ?_
      refine lv_iconst (v := (nI 1)) hx hb dX4_forgetOldest_3 (by decide) ?_
      refine ln_iadd hx hb dX4_forgetOldest_4 ?_
      refine lv_aload_n hx hb dX4_forgetOldest_5 rfl (lv_at hl 1 rfl) ?_
      refine va_get (D := D) (ci := 3) (v := .int (nI n46)) (C := RX4) (T := TX4) (N := 10) hx hb hts hinX4 hown hM.1 hP 0 rfl rfl 8 (by decide) (hts (.fieldLink RX4 44 "TripleWays$State" "questionCount" "I") (by decide +kernel)) (fun _ h9 => h9) rfl dX4_forgetOldest_6 ?_
      refine ln_icmp_ge (tgt := 43) hx hb dX4_forgetOldest_9 (by decide) (by omega) (by omega) (fun h1 => ?_) (fun h1 => ?_)
      · refine lv_aload_n hx hb dX4_forgetOldest_43 rfl (lv_at hl 1 rfl) ?_
        refine lv_dup hx hb dX4_forgetOldest_44 rfl ?_
        refine va_get (D := D) (ci := 3) (v := .int (nI n46)) (C := RX4) (T := TX4) (N := 10) hx hb hts hinX4 hown hM.1 hP 0 rfl rfl 8 (by decide) (hts (.fieldLink RX4 44 "TripleWays$State" "questionCount" "I") (by decide +kernel)) (fun _ h9 => h9) rfl dX4_forgetOldest_45 ?_
        refine lv_iconst (v := (nI 1)) hx hb dX4_forgetOldest_48 (by decide) ?_
        refine ln_isub hx hb dX4_forgetOldest_49 (by omega) ?_
        refine va_put (D := D) (ci := 3) (v := .int (nI (n46 - 1))) (ty := .int) (C := RX4) (T := TX4) (N := 10) hx hb hts hinX4 tyX4 tyX4_ok nmX4 hown hM.1 hP hD hS 0 rfl rfl 8 (by decide) (hts (.fieldLink RX4 44 "TripleWays$State" "questionCount" "I") (by decide +kernel)) (fun _ h9 => h9) rfl (by decide +kernel) rfl rfl (Nat.le_of_ble_eq_true rfl) dX4_forgetOldest_50 (fun H locs hP hD hS => ?_)
        have hP : va_P D vwCl [(a, .inr (3, [.ref a1, .int (nI n0), .int (nI n41), .int (nI n42), .int (nI n43), .int (nI n44), .int (nI n45), .ref a2, .int (nI (n46 - 1)), .int (nI n59)])), (a1, .inl (tc 0, 40, .inl tr)), (a2, .inl (tc 0, 12, .inl ff))] H := hP
        have hD : va_D A [(a, .inr (3, [.ref a1, .int (nI n0), .int (nI n41), .int (nI n42), .int (nI n43), .int (nI n44), .int (nI n45), .ref a2, .int (nI (n46 - 1)), .int (nI n59)])), (a1, .inl (tc 0, 40, .inl tr)), (a2, .inl (tc 0, 12, .inl ff))] := hD
        exact ip_vret hx hb hr hlk dX4_forgetOldest_53 hS (by (have ej : j = 11 := by omega); rw [ej] at hff; rw [← hff]; exact hP)
      · refine lv_iload_n hx hb dX4_forgetOldest_12 rfl (lv_at hl 0 rfl) ?_
        refine lv_iconst (v := (nI 1)) hx hb dX4_forgetOldest_13 (by decide) ?_
        refine ln_iadd hx hb dX4_forgetOldest_14 ?_
        refine lv_aload_n hx hb dX4_forgetOldest_15 rfl (lv_at hl 1 rfl) ?_
        refine va_get (D := D) (ci := 3) (v := .ref a2) (C := RX4) (T := TX4) (N := 10) hx hb hts hinX4 hown hM.1 hP 0 rfl rfl 7 (by decide) (hts (.fieldLink RX4 19 "TripleWays$State" "questions" "[I") (by decide +kernel)) (fun _ h9 => h9) rfl dX4_forgetOldest_16 ?_
        refine va_alen hx hb hM.1 hP 2 0 rfl rfl (v := nI 12) rfl dX4_forgetOldest_19 ?_
        refine ln_icmp_ge (tgt := 43) hx hb dX4_forgetOldest_20 (by decide) (by omega) (by decide) (fun h2 => ?_) (fun h2 => ?_)
        · refine lv_aload_n hx hb dX4_forgetOldest_43 rfl (lv_at hl 1 rfl) ?_
          refine lv_dup hx hb dX4_forgetOldest_44 rfl ?_
          refine va_get (D := D) (ci := 3) (v := .int (nI n46)) (C := RX4) (T := TX4) (N := 10) hx hb hts hinX4 hown hM.1 hP 0 rfl rfl 8 (by decide) (hts (.fieldLink RX4 44 "TripleWays$State" "questionCount" "I") (by decide +kernel)) (fun _ h9 => h9) rfl dX4_forgetOldest_45 ?_
          refine lv_iconst (v := (nI 1)) hx hb dX4_forgetOldest_48 (by decide) ?_
          refine ln_isub hx hb dX4_forgetOldest_49 (by omega) ?_
          refine va_put (D := D) (ci := 3) (v := .int (nI (n46 - 1))) (ty := .int) (C := RX4) (T := TX4) (N := 10) hx hb hts hinX4 tyX4 tyX4_ok nmX4 hown hM.1 hP hD hS 0 rfl rfl 8 (by decide) (hts (.fieldLink RX4 44 "TripleWays$State" "questionCount" "I") (by decide +kernel)) (fun _ h9 => h9) rfl (by decide +kernel) rfl rfl (Nat.le_of_ble_eq_true rfl) dX4_forgetOldest_50 (fun H locs hP hD hS => ?_)
          have hP : va_P D vwCl [(a, .inr (3, [.ref a1, .int (nI n0), .int (nI n41), .int (nI n42), .int (nI n43), .int (nI n44), .int (nI n45), .ref a2, .int (nI (n46 - 1)), .int (nI n59)])), (a1, .inl (tc 0, 40, .inl tr)), (a2, .inl (tc 0, 12, .inl ff))] H := hP
          have hD : va_D A [(a, .inr (3, [.ref a1, .int (nI n0), .int (nI n41), .int (nI n42), .int (nI n43), .int (nI n44), .int (nI n45), .ref a2, .int (nI (n46 - 1)), .int (nI n59)])), (a1, .inl (tc 0, 40, .inl tr)), (a2, .inl (tc 0, 12, .inl ff))] := hD
          exact ip_vret hx hb hr hlk dX4_forgetOldest_53 hS (by (have ej : j = 11 := by omega); rw [ej] at hff; rw [← hff]; exact hP)
        · refine lv_aload_n hx hb dX4_forgetOldest_23 rfl (lv_at hl 1 rfl) ?_
          refine va_get (D := D) (ci := 3) (v := .ref a2) (C := RX4) (T := TX4) (N := 10) hx hb hts hinX4 hown hM.1 hP 0 rfl rfl 7 (by decide) (hts (.fieldLink RX4 19 "TripleWays$State" "questions" "[I") (by decide +kernel)) (fun _ h9 => h9) rfl dX4_forgetOldest_24 ?_
          refine lv_iload_n hx hb dX4_forgetOldest_27 rfl (lv_at hl 0 rfl) ?_
          refine lv_aload_n hx hb dX4_forgetOldest_28 rfl (lv_at hl 1 rfl) ?_
          refine va_get (D := D) (ci := 3) (v := .ref a2) (C := RX4) (T := TX4) (N := 10) hx hb hts hinX4 hown hM.1 hP 0 rfl rfl 7 (by decide) (hts (.fieldLink RX4 19 "TripleWays$State" "questions" "[I") (by decide +kernel)) (fun _ h9 => h9) rfl dX4_forgetOldest_29 ?_
          refine lv_iload_n hx hb dX4_forgetOldest_32 rfl (lv_at hl 0 rfl) ?_
          refine lv_iconst (v := (nI 1)) hx hb dX4_forgetOldest_33 (by decide) ?_
          refine ln_iadd hx hb dX4_forgetOldest_34 ?_
          refine ln_iald hx hb hM.1 hP 2 0 rfl rfl dX4_forgetOldest_35 (by decide) (by omega) (rfl) ?_
          refine ln_iast hx hb hM.1 hP hD hS 2 0 rfl rfl dX4_forgetOldest_36 (by decide) (by omega) (fun H locs hP hD hS => ?_)
          have hP : va_P D vwCl [(a, .inr (3, [.ref a1, .int (nI n0), .int (nI n41), .int (nI n42), .int (nI n43), .int (nI n44), .int (nI n45), .ref a2, .int (nI n46), .int (nI n59)])), (a1, .inl (tc 0, 40, .inl tr)), (a2, .inl (tc 0, 12, .inl (upd ff j ((ff (j + 1))))))] H := hP
          have hD : va_D A [(a, .inr (3, [.ref a1, .int (nI n0), .int (nI n41), .int (nI n42), .int (nI n43), .int (nI n44), .int (nI n45), .ref a2, .int (nI n46), .int (nI n59)])), (a1, .inl (tc 0, 40, .inl tr)), (a2, .inl (tc 0, 12, .inl (upd ff j ((ff (j + 1))))))] := hD
          refine lv_iinc (v := (nI (j + 1))) (lv' := [(1, .int (nI (j + 1))), (0, .ref a)]) hx hb dX4_forgetOldest_37 hl (k := 0) rfl (nI_add j 1) (by decide) rfl (fun ls hl => ?_)
          refine lv_goto (tgt := 2) hx hb dX4_forgetOldest_40 (by decide) ?_
          exact ih2 (upd ff j ((ff (j + 1)))) (j + 1) (by omega) (by omega) (by exact k_sh_1 (Nat.zero_le _) hff) _ _ hP hD hS _ (lv_sub hl [0, 1] rfl)
  exact lp2 _ qs 0 (Nat.lt_succ_self _) (by omega) (by exact (k_sh_0 qs 0).symm) _ _ hP hD hS _ (lv_sub hl [0, 1] rfl)
set_option maxHeartbeats 4000000 in
set_option maxRecDepth 100000 in
theorem c_noteQuestion (l : Launch) (D : va_G) (tc : Nat → ClassId) (zb : Nat) (a a1 a2 : Nat) (tr qs : Nat → Int32) (g : Nat → Nat) (x : Nat) (hk : k_ok g) (hR : k_R tr qs g) (hx9 : x < 1331) : IP l yX4_noteQuestion wsX4_noteQuestion 4 93 D tc zb (w_st tc a a1 a2 tr qs g) (w_st tc a a1 a2 tr (k_aqs qs g x) (m_ask g x)) [.ref a, .int (nI x)] (some (.int (nI (k_cnt g x)))) := by
  refine IP.of (cc := cX4_noteQuestion) (maxL := 2) (ret := (some .int)) (by decide) rfl (Nat.le_of_ble_eq_true rfl) ?_
  intro p e s m args below meth c A hx hb hr hml hlk hts hown hM hS hP hD ls hl
  have hl : lv_has ls 2 [(0, .ref a), (1, .int (nI x))] := hl
  have hinX4 : ∀ w ∈ u_ws RX4 TX4 10, w ∈ wsX4_noteQuestion := by decide +kernel
  obtain ⟨ok0, ok1, ok2, ok3, ok4, ok5, ok6⟩ := id hk
  refine lv_aload_n hx hb dX4_noteQuestion_0 rfl (lv_at hl 0 rfl) ?_
  refine lv_dup hx hb dX4_noteQuestion_1 rfl ?_
  refine va_get (D := D) (ci := 3) (v := .int (nI (g 44))) (C := RX4) (T := TX4) (N := 10) hx hb hts hinX4 hown hM.1 hP 0 rfl rfl 5 (by decide) (hts (.fieldLink RX4 38 "TripleWays$State" "answerCosts" "I") (by decide +kernel)) (fun _ h9 => h9) rfl dX4_noteQuestion_2 ?_
  refine lv_aload_n hx hb dX4_noteQuestion_5 rfl (lv_at hl 0 rfl) ?_
  refine lv_iload_n hx hb dX4_noteQuestion_6 rfl (lv_at hl 1 rfl) ?_
  refine ro_V (C := RX4) (n := 1) ⟨hx, hb, hml, hown, hts⟩ hM hS hP (c_costNow l D tc zb a a1 a2 tr qs g x hk hR (by omega)) gX4_noteQuestion_X4_costNow rfl (by decide +kernel) ⟨Nat.le_of_ble_eq_true rfl, Nat.le_of_ble_eq_true rfl⟩ [0, 1, 2] rfl (va_recv hM.1 hP (ci := 3) (q0 := 0) rfl rfl) rfl hl.1 rfl (Nat.le_of_ble_eq_true rfl) dX4_noteQuestion_7 ⟨Nat.le_refl _, Nat.le_refl _⟩ ?_
  have hf1 := k_mn_le g x (g 41) 6
  refine ln_iadd hx hb dX4_noteQuestion_10 ?_
  refine va_put (D := D) (ci := 3) (v := .int (nI ((g 44) + (k_mn g x (g 41) 6)))) (ty := .int) (C := RX4) (T := TX4) (N := 10) hx hb hts hinX4 tyX4 tyX4_ok nmX4 hown hM.1 hP hD hS 0 rfl rfl 5 (by decide) (hts (.fieldLink RX4 38 "TripleWays$State" "answerCosts" "I") (by decide +kernel)) (fun _ h9 => h9) rfl (by decide +kernel) rfl rfl (Nat.le_of_ble_eq_true rfl) dX4_noteQuestion_11 (fun H locs hP hD hS => ?_)
  have hP : va_P D vwCl [(a, .inr (3, [.ref a1, .int (nI (g 0)), .int (nI (g 41)), .int (nI (g 42)), .int (nI (g 43)), .int (nI ((g 44) + (k_mn g x (g 41) 6))), .int (nI (g 45)), .ref a2, .int (nI (g 46)), .int (nI (g 59))])), (a1, .inl (tc 0, 40, .inl tr)), (a2, .inl (tc 0, 12, .inl qs))] H := hP
  have hD : va_D A [(a, .inr (3, [.ref a1, .int (nI (g 0)), .int (nI (g 41)), .int (nI (g 42)), .int (nI (g 43)), .int (nI ((g 44) + (k_mn g x (g 41) 6))), .int (nI (g 45)), .ref a2, .int (nI (g 46)), .int (nI (g 59))])), (a1, .inl (tc 0, 40, .inl tr)), (a2, .inl (tc 0, 12, .inl qs))] := hD
  refine lv_aload_n hx hb dX4_noteQuestion_14 rfl (lv_at hl 0 rfl) ?_
  refine lv_dup hx hb dX4_noteQuestion_15 rfl ?_
  refine va_get (D := D) (ci := 3) (v := .int (nI (g 45))) (C := RX4) (T := TX4) (N := 10) hx hb hts hinX4 hown hM.1 hP 0 rfl rfl 6 (by decide) (hts (.fieldLink RX4 41 "TripleWays$State" "asked" "I") (by decide +kernel)) (fun _ h9 => h9) rfl dX4_noteQuestion_16 ?_
  refine lv_iconst (v := (nI 1)) hx hb dX4_noteQuestion_19 (by decide) ?_
  refine ln_iadd hx hb dX4_noteQuestion_20 ?_
  refine va_put (D := D) (ci := 3) (v := .int (nI ((g 45) + 1))) (ty := .int) (C := RX4) (T := TX4) (N := 10) hx hb hts hinX4 tyX4 tyX4_ok nmX4 hown hM.1 hP hD hS 0 rfl rfl 6 (by decide) (hts (.fieldLink RX4 41 "TripleWays$State" "asked" "I") (by decide +kernel)) (fun _ h9 => h9) rfl (by decide +kernel) rfl rfl (Nat.le_of_ble_eq_true rfl) dX4_noteQuestion_21 (fun H locs hP hD hS => ?_)
  have hP : va_P D vwCl [(a, .inr (3, [.ref a1, .int (nI (g 0)), .int (nI (g 41)), .int (nI (g 42)), .int (nI (g 43)), .int (nI ((g 44) + (k_mn g x (g 41) 6))), .int (nI ((g 45) + 1)), .ref a2, .int (nI (g 46)), .int (nI (g 59))])), (a1, .inl (tc 0, 40, .inl tr)), (a2, .inl (tc 0, 12, .inl qs))] H := hP
  have hD : va_D A [(a, .inr (3, [.ref a1, .int (nI (g 0)), .int (nI (g 41)), .int (nI (g 42)), .int (nI (g 43)), .int (nI ((g 44) + (k_mn g x (g 41) 6))), .int (nI ((g 45) + 1)), .ref a2, .int (nI (g 46)), .int (nI (g 59))])), (a1, .inl (tc 0, 40, .inl tr)), (a2, .inl (tc 0, 12, .inl qs))] := hD
  refine lv_aload_n hx hb dX4_noteQuestion_24 rfl (lv_at hl 0 rfl) ?_
  refine va_get (D := D) (ci := 3) (v := .int (nI (g 46))) (C := RX4) (T := TX4) (N := 10) hx hb hts hinX4 hown hM.1 hP 0 rfl rfl 8 (by decide) (hts (.fieldLink RX4 44 "TripleWays$State" "questionCount" "I") (by decide +kernel)) (fun _ h9 => h9) rfl dX4_noteQuestion_25 ?_
  refine lv_aload_n hx hb dX4_noteQuestion_28 rfl (lv_at hl 0 rfl) ?_
  refine va_get (D := D) (ci := 3) (v := .ref a2) (C := RX4) (T := TX4) (N := 10) hx hb hts hinX4 hown hM.1 hP 0 rfl rfl 7 (by decide) (hts (.fieldLink RX4 19 "TripleWays$State" "questions" "[I") (by decide +kernel)) (fun _ h9 => h9) rfl dX4_noteQuestion_29 ?_
  refine va_alen hx hb hM.1 hP 2 0 rfl rfl (v := nI 12) rfl dX4_noteQuestion_32 ?_
  refine ln_icmp_lt (tgt := 40) hx hb dX4_noteQuestion_33 (by decide) (by omega) (by decide) (fun h2 => ?_) (fun h2 => ?_)
  · refine lv_aload_n hx hb dX4_noteQuestion_40 rfl (lv_at hl 0 rfl) ?_
    refine va_get (D := D) (ci := 3) (v := .int (nI (g 46))) (C := RX4) (T := TX4) (N := 10) hx hb hts hinX4 hown hM.1 hP 0 rfl rfl 8 (by decide) (hts (.fieldLink RX4 44 "TripleWays$State" "questionCount" "I") (by decide +kernel)) (fun _ h9 => h9) rfl dX4_noteQuestion_41 ?_
    refine ln_if_lt (tgt := 79) hx hb dX4_noteQuestion_44 (by decide) (by omega) ?_
    refine lv_aload_n hx hb dX4_noteQuestion_47 rfl (lv_at hl 0 rfl) ?_
    refine va_get (D := D) (ci := 3) (v := .int (nI (g 46))) (C := RX4) (T := TX4) (N := 10) hx hb hts hinX4 hown hM.1 hP 0 rfl rfl 8 (by decide) (hts (.fieldLink RX4 44 "TripleWays$State" "questionCount" "I") (by decide +kernel)) (fun _ h9 => h9) rfl dX4_noteQuestion_48 ?_
    refine lv_aload_n hx hb dX4_noteQuestion_51 rfl (lv_at hl 0 rfl) ?_
    refine va_get (D := D) (ci := 3) (v := .ref a2) (C := RX4) (T := TX4) (N := 10) hx hb hts hinX4 hown hM.1 hP 0 rfl rfl 7 (by decide) (hts (.fieldLink RX4 19 "TripleWays$State" "questions" "[I") (by decide +kernel)) (fun _ h9 => h9) rfl dX4_noteQuestion_52 ?_
    refine va_alen hx hb hM.1 hP 2 0 rfl rfl (v := nI 12) rfl dX4_noteQuestion_55 ?_
    refine ln_icmp_ge (tgt := 79) hx hb dX4_noteQuestion_56 (by decide) (by omega) (by decide) (fun h3 => ?_) (fun h3 => ?_)
    · exfalso; omega
    · refine lv_aload_n hx hb dX4_noteQuestion_59 rfl (lv_at hl 0 rfl) ?_
      refine va_get (D := D) (ci := 3) (v := .ref a2) (C := RX4) (T := TX4) (N := 10) hx hb hts hinX4 hown hM.1 hP 0 rfl rfl 7 (by decide) (hts (.fieldLink RX4 19 "TripleWays$State" "questions" "[I") (by decide +kernel)) (fun _ h9 => h9) rfl dX4_noteQuestion_60 ?_
      refine lv_aload_n hx hb dX4_noteQuestion_63 rfl (lv_at hl 0 rfl) ?_
      refine va_get (D := D) (ci := 3) (v := .int (nI (g 46))) (C := RX4) (T := TX4) (N := 10) hx hb hts hinX4 hown hM.1 hP 0 rfl rfl 8 (by decide) (hts (.fieldLink RX4 44 "TripleWays$State" "questionCount" "I") (by decide +kernel)) (fun _ h9 => h9) rfl dX4_noteQuestion_64 ?_
      refine lv_iload_n hx hb dX4_noteQuestion_67 rfl (lv_at hl 1 rfl) ?_
      refine ln_iast hx hb hM.1 hP hD hS 2 0 rfl rfl dX4_noteQuestion_68 (by decide) (by omega) (fun H locs hP hD hS => ?_)
      have hP : va_P D vwCl [(a, .inr (3, [.ref a1, .int (nI (g 0)), .int (nI (g 41)), .int (nI (g 42)), .int (nI (g 43)), .int (nI ((g 44) + (k_mn g x (g 41) 6))), .int (nI ((g 45) + 1)), .ref a2, .int (nI (g 46)), .int (nI (g 59))])), (a1, .inl (tc 0, 40, .inl tr)), (a2, .inl (tc 0, 12, .inl (upd qs (g 46) ((nI x)))))] H := hP
      have hD : va_D A [(a, .inr (3, [.ref a1, .int (nI (g 0)), .int (nI (g 41)), .int (nI (g 42)), .int (nI (g 43)), .int (nI ((g 44) + (k_mn g x (g 41) 6))), .int (nI ((g 45) + 1)), .ref a2, .int (nI (g 46)), .int (nI (g 59))])), (a1, .inl (tc 0, 40, .inl tr)), (a2, .inl (tc 0, 12, .inl (upd qs (g 46) ((nI x)))))] := hD
      refine lv_aload_n hx hb dX4_noteQuestion_69 rfl (lv_at hl 0 rfl) ?_
      refine lv_dup hx hb dX4_noteQuestion_70 rfl ?_
      refine va_get (D := D) (ci := 3) (v := .int (nI (g 46))) (C := RX4) (T := TX4) (N := 10) hx hb hts hinX4 hown hM.1 hP 0 rfl rfl 8 (by decide) (hts (.fieldLink RX4 44 "TripleWays$State" "questionCount" "I") (by decide +kernel)) (fun _ h9 => h9) rfl dX4_noteQuestion_71 ?_
      refine lv_iconst (v := (nI 1)) hx hb dX4_noteQuestion_74 (by decide) ?_
      refine ln_iadd hx hb dX4_noteQuestion_75 ?_
      refine va_put (D := D) (ci := 3) (v := .int (nI ((g 46) + 1))) (ty := .int) (C := RX4) (T := TX4) (N := 10) hx hb hts hinX4 tyX4 tyX4_ok nmX4 hown hM.1 hP hD hS 0 rfl rfl 8 (by decide) (hts (.fieldLink RX4 44 "TripleWays$State" "questionCount" "I") (by decide +kernel)) (fun _ h9 => h9) rfl (by decide +kernel) rfl rfl (Nat.le_of_ble_eq_true rfl) dX4_noteQuestion_76 (fun H locs hP hD hS => ?_)
      have hP : va_P D vwCl [(a, .inr (3, [.ref a1, .int (nI (g 0)), .int (nI (g 41)), .int (nI (g 42)), .int (nI (g 43)), .int (nI ((g 44) + (k_mn g x (g 41) 6))), .int (nI ((g 45) + 1)), .ref a2, .int (nI ((g 46) + 1)), .int (nI (g 59))])), (a1, .inl (tc 0, 40, .inl tr)), (a2, .inl (tc 0, 12, .inl (upd qs (g 46) ((nI x)))))] H := hP
      have hD : va_D A [(a, .inr (3, [.ref a1, .int (nI (g 0)), .int (nI (g 41)), .int (nI (g 42)), .int (nI (g 43)), .int (nI ((g 44) + (k_mn g x (g 41) 6))), .int (nI ((g 45) + 1)), .ref a2, .int (nI ((g 46) + 1)), .int (nI (g 59))])), (a1, .inl (tc 0, 40, .inl tr)), (a2, .inl (tc 0, 12, .inl (upd qs (g 46) ((nI x)))))] := hD
      have hP : va_P D vwCl (w_st tc a a1 a2 tr (k_aqs qs g x) (m_ask g x)) H := (by (have hf46 : m_fg g 46 = g 46 := (by rw [(m_fg_at ok2).2.2.2.2]; split <;> omega)); rw [show k_aqs qs g x = upd qs (g 46) ((nI x)) by simp only [k_aqs, k_fqs, hf46]; first | rw [if_pos (by omega)] | rw [if_neg (by omega)]]; rw [w_st_eq (g' := m_ask g x) (n0 := g 0) (n41 := g 41) (n42 := g 42) (n43 := g 43) (n44 := (g 44) + (k_mn g x (g 41) 6)) (n45 := (g 45) + 1) (n46 := (g 46) + 1) (n59 := g 59) ((m_ask_at (x := x) ok2).1 0 (by omega)) ((m_ask_at (x := x) ok2).1 41 (by omega)) ((m_ask_at (x := x) ok2).1 42 (by omega)) ((m_ask_at (x := x) ok2).1 43 (by omega)) m_ask_44 m_ask_45 ((m_ask_at (x := x) ok2).2.1.trans (by rw [hf46])) (m_ask_at (x := x) ok2).2.2.1]; exact hP)
      have hD : va_D A (w_st tc a a1 a2 tr (k_aqs qs g x) (m_ask g x)) := va_D_addr hD rfl
      refine lv_aload_n hx hb dX4_noteQuestion_79 rfl (lv_at hl 0 rfl) ?_
      refine lv_iload_n hx hb dX4_noteQuestion_80 rfl (lv_at hl 1 rfl) ?_
      refine ro_V (C := RX4) (n := 1) ⟨hx, hb, hml, hown, hts⟩ hM hS hP (c_countAnswers l D tc zb a a1 a2 tr ((k_aqs qs g x)) ((m_ask g x)) x ((ok_ask hk (by omega))) ((R_ask hk hR)) (by omega)) gX4_noteQuestion_X4_countAnswers rfl (by decide +kernel) ⟨Nat.le_of_ble_eq_true rfl, Nat.le_of_ble_eq_true rfl⟩ [0, 1, 2] rfl (va_recv hM.1 hP (ci := 3) (q0 := 0) rfl rfl) rfl hl.1 rfl (Nat.le_of_ble_eq_true rfl) dX4_noteQuestion_81 ⟨Nat.le_refl _, Nat.le_refl _⟩ ?_
      have hf4 := k_cnt_le ((m_ask g x)) x
      exact ip_iret hx hb hr hlk dX4_noteQuestion_84 hS (congrArg nI (by exact k_cnt_cong ((m_ask_at ok2).1 0 (by omega)) (fun i hi => (m_ask_at ok2).1 (1 + i) (by omega)))) hP
  · refine lv_aload_n hx hb dX4_noteQuestion_36 rfl (lv_at hl 0 rfl) ?_
    refine ip_V (C := RX4) (n := 0) (wl' := [(a, .inr (3, [.ref a1, .int (nI ((g 0))), .int (nI ((g 41))), .int (nI ((g 42))), .int (nI ((g 43))), .int (nI (((g 44) + (k_mn g x (g 41) 6)))), .int (nI (((g 45) + 1))), .ref a2, .int (nI ((g 46) - 1)), .int (nI ((g 59)))])), (a1, .inl (tc 0, 40, .inl tr)), (a2, .inl (tc 0, 12, .inl ((k_sh qs 0 11))))]) ⟨hx, hb, hml, hown, hts⟩ hM hS hP hD (c_forgetOldest l D tc zb a a1 a2 tr qs (g 0) (g 41) (g 42) (g 43) ((g 44) + (k_mn g x (g 41) 6)) ((g 45) + 1) (g 46) (g 59) (by omega)) gX4_noteQuestion_X4_forgetOldest rfl (by decide +kernel) ⟨Nat.le_of_ble_eq_true rfl, Nat.le_of_ble_eq_true rfl⟩ [0, 1, 2] rfl rfl [(true, 0), (true, 1), (true, 2)] rfl rfl rfl (va_recv hM.1 hP (ci := 3) (q0 := 0) rfl rfl) rfl hl.1 rfl (Nat.le_of_ble_eq_true rfl) dX4_noteQuestion_37 ⟨Nat.le_refl _, Nat.le_refl _⟩ (fun H locs hP hD hS => ?_)
    refine W.eq (g2 := F0 m 40 ls []) rfl ?_
    refine lv_aload_n hx hb dX4_noteQuestion_40 rfl (lv_at hl 0 rfl) ?_
    refine va_get (D := D) (ci := 3) (v := .int (nI ((g 46) - 1))) (C := RX4) (T := TX4) (N := 10) hx hb hts hinX4 hown hM.1 hP 0 rfl rfl 8 (by decide) (hts (.fieldLink RX4 44 "TripleWays$State" "questionCount" "I") (by decide +kernel)) (fun _ h9 => h9) rfl dX4_noteQuestion_41 ?_
    refine ln_if_lt (tgt := 79) hx hb dX4_noteQuestion_44 (by decide) (by omega) ?_
    refine lv_aload_n hx hb dX4_noteQuestion_47 rfl (lv_at hl 0 rfl) ?_
    refine va_get (D := D) (ci := 3) (v := .int (nI ((g 46) - 1))) (C := RX4) (T := TX4) (N := 10) hx hb hts hinX4 hown hM.1 hP 0 rfl rfl 8 (by decide) (hts (.fieldLink RX4 44 "TripleWays$State" "questionCount" "I") (by decide +kernel)) (fun _ h9 => h9) rfl dX4_noteQuestion_48 ?_
    refine lv_aload_n hx hb dX4_noteQuestion_51 rfl (lv_at hl 0 rfl) ?_
    refine va_get (D := D) (ci := 3) (v := .ref a2) (C := RX4) (T := TX4) (N := 10) hx hb hts hinX4 hown hM.1 hP 0 rfl rfl 7 (by decide) (hts (.fieldLink RX4 19 "TripleWays$State" "questions" "[I") (by decide +kernel)) (fun _ h9 => h9) rfl dX4_noteQuestion_52 ?_
    refine va_alen hx hb hM.1 hP 2 0 rfl rfl (v := nI 12) rfl dX4_noteQuestion_55 ?_
    refine ln_icmp_ge (tgt := 79) hx hb dX4_noteQuestion_56 (by decide) (by omega) (by decide) (fun h5 => ?_) (fun h5 => ?_)
    · exfalso; omega
    · refine lv_aload_n hx hb dX4_noteQuestion_59 rfl (lv_at hl 0 rfl) ?_
      refine va_get (D := D) (ci := 3) (v := .ref a2) (C := RX4) (T := TX4) (N := 10) hx hb hts hinX4 hown hM.1 hP 0 rfl rfl 7 (by decide) (hts (.fieldLink RX4 19 "TripleWays$State" "questions" "[I") (by decide +kernel)) (fun _ h9 => h9) rfl dX4_noteQuestion_60 ?_
      refine lv_aload_n hx hb dX4_noteQuestion_63 rfl (lv_at hl 0 rfl) ?_
      refine va_get (D := D) (ci := 3) (v := .int (nI ((g 46) - 1))) (C := RX4) (T := TX4) (N := 10) hx hb hts hinX4 hown hM.1 hP 0 rfl rfl 8 (by decide) (hts (.fieldLink RX4 44 "TripleWays$State" "questionCount" "I") (by decide +kernel)) (fun _ h9 => h9) rfl dX4_noteQuestion_64 ?_
      refine lv_iload_n hx hb dX4_noteQuestion_67 rfl (lv_at hl 1 rfl) ?_
      refine ln_iast hx hb hM.1 hP hD hS 2 0 rfl rfl dX4_noteQuestion_68 (by decide) (by omega) (fun H locs hP hD hS => ?_)
      have hP : va_P D vwCl [(a, .inr (3, [.ref a1, .int (nI ((g 0))), .int (nI ((g 41))), .int (nI ((g 42))), .int (nI ((g 43))), .int (nI (((g 44) + (k_mn g x (g 41) 6)))), .int (nI (((g 45) + 1))), .ref a2, .int (nI ((g 46) - 1)), .int (nI ((g 59)))])), (a1, .inl (tc 0, 40, .inl tr)), (a2, .inl (tc 0, 12, .inl (upd ((k_sh qs 0 11)) ((g 46) - 1) ((nI x)))))] H := hP
      have hD : va_D A [(a, .inr (3, [.ref a1, .int (nI ((g 0))), .int (nI ((g 41))), .int (nI ((g 42))), .int (nI ((g 43))), .int (nI (((g 44) + (k_mn g x (g 41) 6)))), .int (nI (((g 45) + 1))), .ref a2, .int (nI ((g 46) - 1)), .int (nI ((g 59)))])), (a1, .inl (tc 0, 40, .inl tr)), (a2, .inl (tc 0, 12, .inl (upd ((k_sh qs 0 11)) ((g 46) - 1) ((nI x)))))] := hD
      refine lv_aload_n hx hb dX4_noteQuestion_69 rfl (lv_at hl 0 rfl) ?_
      refine lv_dup hx hb dX4_noteQuestion_70 rfl ?_
      refine va_get (D := D) (ci := 3) (v := .int (nI ((g 46) - 1))) (C := RX4) (T := TX4) (N := 10) hx hb hts hinX4 hown hM.1 hP 0 rfl rfl 8 (by decide) (hts (.fieldLink RX4 44 "TripleWays$State" "questionCount" "I") (by decide +kernel)) (fun _ h9 => h9) rfl dX4_noteQuestion_71 ?_
      refine lv_iconst (v := (nI 1)) hx hb dX4_noteQuestion_74 (by decide) ?_
      refine ln_iadd hx hb dX4_noteQuestion_75 ?_
      refine va_put (D := D) (ci := 3) (v := .int (nI (((g 46) - 1) + 1))) (ty := .int) (C := RX4) (T := TX4) (N := 10) hx hb hts hinX4 tyX4 tyX4_ok nmX4 hown hM.1 hP hD hS 0 rfl rfl 8 (by decide) (hts (.fieldLink RX4 44 "TripleWays$State" "questionCount" "I") (by decide +kernel)) (fun _ h9 => h9) rfl (by decide +kernel) rfl rfl (Nat.le_of_ble_eq_true rfl) dX4_noteQuestion_76 (fun H locs hP hD hS => ?_)
      have hP : va_P D vwCl [(a, .inr (3, [.ref a1, .int (nI ((g 0))), .int (nI ((g 41))), .int (nI ((g 42))), .int (nI ((g 43))), .int (nI (((g 44) + (k_mn g x (g 41) 6)))), .int (nI (((g 45) + 1))), .ref a2, .int (nI (((g 46) - 1) + 1)), .int (nI ((g 59)))])), (a1, .inl (tc 0, 40, .inl tr)), (a2, .inl (tc 0, 12, .inl (upd ((k_sh qs 0 11)) ((g 46) - 1) ((nI x)))))] H := hP
      have hD : va_D A [(a, .inr (3, [.ref a1, .int (nI ((g 0))), .int (nI ((g 41))), .int (nI ((g 42))), .int (nI ((g 43))), .int (nI (((g 44) + (k_mn g x (g 41) 6)))), .int (nI (((g 45) + 1))), .ref a2, .int (nI (((g 46) - 1) + 1)), .int (nI ((g 59)))])), (a1, .inl (tc 0, 40, .inl tr)), (a2, .inl (tc 0, 12, .inl (upd ((k_sh qs 0 11)) ((g 46) - 1) ((nI x)))))] := hD
      have hP : va_P D vwCl (w_st tc a a1 a2 tr (k_aqs qs g x) (m_ask g x)) H := (by (have hf46 : m_fg g 46 = g 46 - 1 := (by rw [(m_fg_at ok2).2.2.2.2]; split <;> omega)); rw [show k_aqs qs g x = upd ((k_sh qs 0 11)) ((g 46) - 1) ((nI x)) by simp only [k_aqs, k_fqs, hf46]; first | rw [if_pos (by omega)] | rw [if_neg (by omega)]]; rw [w_st_eq (g' := m_ask g x) (n0 := (g 0)) (n41 := (g 41)) (n42 := (g 42)) (n43 := (g 43)) (n44 := ((g 44) + (k_mn g x (g 41) 6))) (n45 := ((g 45) + 1)) (n46 := ((g 46) - 1) + 1) (n59 := (g 59)) ((m_ask_at (x := x) ok2).1 0 (by omega)) ((m_ask_at (x := x) ok2).1 41 (by omega)) ((m_ask_at (x := x) ok2).1 42 (by omega)) ((m_ask_at (x := x) ok2).1 43 (by omega)) m_ask_44 m_ask_45 ((m_ask_at (x := x) ok2).2.1.trans (by rw [hf46])) (m_ask_at (x := x) ok2).2.2.1]; exact hP)
      have hD : va_D A (w_st tc a a1 a2 tr (k_aqs qs g x) (m_ask g x)) := va_D_addr hD rfl
      refine lv_aload_n hx hb dX4_noteQuestion_79 rfl (lv_at hl 0 rfl) ?_
      refine lv_iload_n hx hb dX4_noteQuestion_80 rfl (lv_at hl 1 rfl) ?_
      refine ro_V (C := RX4) (n := 1) ⟨hx, hb, hml, hown, hts⟩ hM hS hP (c_countAnswers l D tc zb a a1 a2 tr ((k_aqs qs g x)) ((m_ask g x)) x ((ok_ask hk (by omega))) ((R_ask hk hR)) (by omega)) gX4_noteQuestion_X4_countAnswers rfl (by decide +kernel) ⟨Nat.le_of_ble_eq_true rfl, Nat.le_of_ble_eq_true rfl⟩ [0, 1, 2] rfl (va_recv hM.1 hP (ci := 3) (q0 := 0) rfl rfl) rfl hl.1 rfl (Nat.le_of_ble_eq_true rfl) dX4_noteQuestion_81 ⟨Nat.le_refl _, Nat.le_refl _⟩ ?_
      have hf6 := k_cnt_le ((m_ask g x)) x
      exact ip_iret hx hb hr hlk dX4_noteQuestion_84 hS (congrArg nI (by exact k_cnt_cong ((m_ask_at ok2).1 0 (by omega)) (fun i hi => (m_ask_at ok2).1 (1 + i) (by omega)))) hP
set_option maxHeartbeats 4000000 in
set_option maxRecDepth 100000 in
theorem c_copyRow (l : Launch) (D : va_G) (tc : Nat → ClassId) (zb : Nat) (p1 p2 L9 : Nat) (f1 f2 : Nat → Int32) (n : Nat) (hL : L9 < 2 ^ 31) (hn : n ≤ L9) : IP l yX4_copyRow wsX4_copyRow 0 0 D tc zb [(p1, .inl (tc 0, L9, .inl f1)), (p2, .inl (tc 0, L9, .inl f2))] [(p1, .inl (tc 0, L9, .inl f1)), (p2, .inl (tc 0, L9, .inl ((k_cp f1 f2 n))))] [.ref p1, .ref p2, .int (nI n)] none := by
  refine IP.of (cc := cX4_copyRow) (maxL := 4) (ret := none) (by decide) rfl (Nat.le_of_ble_eq_true rfl) ?_
  intro p e s m args below meth c A hx hb hr hml hlk hts hown hM hS hP hD ls hl
  have hl : lv_has ls 4 [(0, .ref p1), (1, .ref p2), (2, .int (nI n))] := hl
  refine lv_iconst (v := (nI 0)) hx hb dX4_copyRow_0 (by decide) ?_
  refine lv_istore_n (lv' := [(3, .int (nI 0)), (0, .ref p1), (1, .ref p2), (2, .int (nI n))]) hx hb dX4_copyRow_1 rfl hl (by decide) rfl (fun ls hl => ?_)
  have lp2 : ∀ (n9 : Nat) (ff : Nat → Int32) (i : Nat), (n - i) < n9 → (i ≤ n) → (ff = k_cp f1 f2 i) → ∀ (H : Heap) (locs : List Loc), va_P D vwCl [(p1, .inl (tc 0, L9, .inl f1)), (p2, .inl (tc 0, L9, .inl ff))] H → va_D A [(p1, .inl (tc 0, L9, .inl f1)), (p2, .inl (tc 0, L9, .inl ff))] → va_S A s.heap H locs → ∀ ls : Array Slot, lv_has ls 4 [(3, .int (nI i)), (0, .ref p1), (1, .ref p2), (2, .int (nI n))] → W p l e ({ frames := 0, cells := 0, slots := 0, locals := 0 } : Room) s m args below meth c H locs 0 0 (MQ below (ipQ D A [(p1, .inl (tc 0, L9, .inl f1)), (p2, .inl (tc 0, L9, .inl ((k_cp f1 f2 n))))] none) args s 0 0 A) (F0 m 2 ls []) := by
    intro n9
    induction n9 with
    | zero => intro ff i hmu; exact absurd hmu (Nat.not_lt_zero _)
    | succ n9 ih2 =>
      intro ff i hmu hi hff H locs hP hD hS ls hl
      refine lv_iload_n hx hb dX4_copyRow_2 rfl (lv_at hl 0 rfl) ?_
      refine lv_iload_n hx hb dX4_copyRow_3 rfl (lv_at hl 3 rfl) ?_
      refine ln_icmp_ge (tgt := 31) hx hb dX4_copyRow_4 (by decide) (by omega) (by omega) (fun h1 => ?_) (fun h1 => ?_)
      · exact ip_vret hx hb hr hlk dX4_copyRow_31 hS (by (have ei : i = n := by omega); rw [← ei, ← hff]; exact hP)
      · refine lv_iload_n hx hb dX4_copyRow_7 rfl (lv_at hl 0 rfl) ?_
        refine lv_aload_n hx hb dX4_copyRow_8 rfl (lv_at hl 1 rfl) ?_
        refine va_alen hx hb hM.1 hP 0 0 rfl rfl (v := nI L9) rfl dX4_copyRow_9 ?_
        refine ln_icmp_ge (tgt := 31) hx hb dX4_copyRow_10 (by decide) (by omega) (by omega) (fun h2 => ?_) (fun h2 => ?_)
        · exact ip_vret hx hb hr hlk dX4_copyRow_31 hS (by (have ei : i = n := by omega); rw [← ei, ← hff]; exact hP)
        · refine lv_iload_n hx hb dX4_copyRow_13 rfl (lv_at hl 0 rfl) ?_
          refine lv_aload_n hx hb dX4_copyRow_14 rfl (lv_at hl 2 rfl) ?_
          refine va_alen hx hb hM.1 hP 1 0 rfl rfl (v := nI L9) rfl dX4_copyRow_15 ?_
          refine ln_icmp_ge (tgt := 31) hx hb dX4_copyRow_16 (by decide) (by omega) (by omega) (fun h3 => ?_) (fun h3 => ?_)
          · exact ip_vret hx hb hr hlk dX4_copyRow_31 hS (by (have ei : i = n := by omega); rw [← ei, ← hff]; exact hP)
          · refine lv_aload_n hx hb dX4_copyRow_19 rfl (lv_at hl 2 rfl) ?_
            refine lv_iload_n hx hb dX4_copyRow_20 rfl (lv_at hl 0 rfl) ?_
            refine lv_aload_n hx hb dX4_copyRow_21 rfl (lv_at hl 1 rfl) ?_
            refine lv_iload_n hx hb dX4_copyRow_22 rfl (lv_at hl 0 rfl) ?_
            refine ln_iald hx hb hM.1 hP 0 0 rfl rfl dX4_copyRow_23 (by omega) (by omega) (rfl) ?_
            refine ln_iast hx hb hM.1 hP hD hS 1 0 rfl rfl dX4_copyRow_24 (by omega) (by omega) (fun H locs hP hD hS => ?_)
            have hP : va_P D vwCl [(p1, .inl (tc 0, L9, .inl f1)), (p2, .inl (tc 0, L9, .inl (upd ff i ((f1 i)))))] H := hP
            have hD : va_D A [(p1, .inl (tc 0, L9, .inl f1)), (p2, .inl (tc 0, L9, .inl (upd ff i ((f1 i)))))] := hD
            refine lv_iinc (v := (nI (i + 1))) (lv' := [(3, .int (nI (i + 1))), (0, .ref p1), (1, .ref p2), (2, .int (nI n))]) hx hb dX4_copyRow_25 hl (k := 0) rfl (nI_add i 1) (by decide) rfl (fun ls hl => ?_)
            refine lv_goto (tgt := 2) hx hb dX4_copyRow_28 (by decide) ?_
            exact ih2 (upd ff i ((f1 i))) (i + 1) (by omega) (by omega) (by rw [hff]; exact k_cp_1) _ _ hP hD hS _ (lv_sub hl [0, 1, 2, 3] rfl)
  exact lp2 _ f2 0 (Nat.lt_succ_self _) (by omega) (by exact (k_cp_0 f1 f2).symm) _ _ hP hD hS _ (lv_sub hl [0, 1, 2, 3] rfl)
set_option maxHeartbeats 4000000 in
set_option maxRecDepth 100000 in
theorem c_become (l : Launch) (D : va_G) (tc : Nat → ClassId) (zb : Nat) (a a1 a2 : Nat) (tr qs : Nat → Int32) (g : Nat → Nat) (o9 o1 o2 : Nat) (tro qso : Nat → Int32) (go : Nat → Nat) (hko : k_ok go) : IP l yX4_become wsX4_become 1 23 D tc zb (w_st tc a a1 a2 tr qs g ++ w_st tc o9 o1 o2 tro qso go) (w_st tc a a1 a2 (k_cp tro tr (go 0)) (k_cp qso qs (go 46)) go ++ w_st tc o9 o1 o2 tro qso go) [.ref a, .ref o9] none := by
  refine IP.of (cc := cX4_become) (maxL := 2) (ret := none) (by decide) rfl (Nat.le_of_ble_eq_true rfl) ?_
  intro p e s m args below meth c A hx hb hr hml hlk hts hown hM hS hP hD ls hl
  have hl : lv_has ls 2 [(0, .ref a), (1, .ref o9)] := hl
  have hinX4 : ∀ w ∈ u_ws RX4 TX4 10, w ∈ wsX4_become := by decide +kernel
  obtain ⟨ok0, ok1, ok2, ok3, ok4, ok5, ok6⟩ := id hko
  refine lv_aload_n hx hb dX4_become_0 rfl (lv_at hl 1 rfl) ?_
  refine lv_ifnonnull (tgt := 5) hx hb dX4_become_1 (by decide) ?_
  refine lv_aload_n hx hb dX4_become_5 rfl (lv_at hl 0 rfl) ?_
  refine lv_aload_n hx hb dX4_become_6 rfl (lv_at hl 1 rfl) ?_
  refine va_get (D := D) (ci := 3) (v := .int (nI (go 0))) (C := RX4) (T := TX4) (N := 10) hx hb hts hinX4 hown hM.1 hP 3 rfl rfl 1 (by decide) (hts (.fieldLink RX4 25 "TripleWays$State" "size" "I") (by decide +kernel)) (fun _ h9 => h9) rfl dX4_become_7 ?_
  refine va_put (D := D) (ci := 3) (v := .int (nI (go 0))) (ty := .int) (C := RX4) (T := TX4) (N := 10) hx hb hts hinX4 tyX4 tyX4_ok nmX4 hown hM.1 hP hD hS 0 rfl rfl 1 (by decide) (hts (.fieldLink RX4 25 "TripleWays$State" "size" "I") (by decide +kernel)) (fun _ h9 => h9) rfl (by decide +kernel) rfl rfl (Nat.le_of_ble_eq_true rfl) dX4_become_10 (fun H locs hP hD hS => ?_)
  have hP : va_P D vwCl [(a, .inr (3, [.ref a1, .int (nI (go 0)), .int (nI (g 41)), .int (nI (g 42)), .int (nI (g 43)), .int (nI (g 44)), .int (nI (g 45)), .ref a2, .int (nI (g 46)), .int (nI (g 59))])), (a1, .inl (tc 0, 40, .inl tr)), (a2, .inl (tc 0, 12, .inl qs)), (o9, .inr (3, [.ref o1, .int (nI (go 0)), .int (nI (go 41)), .int (nI (go 42)), .int (nI (go 43)), .int (nI (go 44)), .int (nI (go 45)), .ref o2, .int (nI (go 46)), .int (nI (go 59))])), (o1, .inl (tc 0, 40, .inl tro)), (o2, .inl (tc 0, 12, .inl qso))] H := hP
  have hD : va_D A [(a, .inr (3, [.ref a1, .int (nI (go 0)), .int (nI (g 41)), .int (nI (g 42)), .int (nI (g 43)), .int (nI (g 44)), .int (nI (g 45)), .ref a2, .int (nI (g 46)), .int (nI (g 59))])), (a1, .inl (tc 0, 40, .inl tr)), (a2, .inl (tc 0, 12, .inl qs)), (o9, .inr (3, [.ref o1, .int (nI (go 0)), .int (nI (go 41)), .int (nI (go 42)), .int (nI (go 43)), .int (nI (go 44)), .int (nI (go 45)), .ref o2, .int (nI (go 46)), .int (nI (go 59))])), (o1, .inl (tc 0, 40, .inl tro)), (o2, .inl (tc 0, 12, .inl qso))] := hD
  refine lv_aload_n hx hb dX4_become_13 rfl (lv_at hl 1 rfl) ?_
  refine va_get (D := D) (ci := 3) (v := .ref o1) (C := RX4) (T := TX4) (N := 10) hx hb hts hinX4 hown hM.1 hP 3 rfl rfl 0 (by decide) (hts (.fieldLink RX4 9 "TripleWays$State" "triples" "[I") (by decide +kernel)) (fun _ h9 => h9) rfl dX4_become_14 ?_
  refine lv_aload_n hx hb dX4_become_17 rfl (lv_at hl 0 rfl) ?_
  refine va_get (D := D) (ci := 3) (v := .ref a1) (C := RX4) (T := TX4) (N := 10) hx hb hts hinX4 hown hM.1 hP 0 rfl rfl 0 (by decide) (hts (.fieldLink RX4 9 "TripleWays$State" "triples" "[I") (by decide +kernel)) (fun _ h9 => h9) rfl dX4_become_18 ?_
  refine lv_aload_n hx hb dX4_become_21 rfl (lv_at hl 0 rfl) ?_
  refine va_get (D := D) (ci := 3) (v := .int (nI (go 0))) (C := RX4) (T := TX4) (N := 10) hx hb hts hinX4 hown hM.1 hP 0 rfl rfl 1 (by decide) (hts (.fieldLink RX4 25 "TripleWays$State" "size" "I") (by decide +kernel)) (fun _ h9 => h9) rfl dX4_become_22 ?_
  refine ip_S (n := 3) (wl' := [(a, .inr (3, [.ref a1, .int (nI (go 0)), .int (nI (g 41)), .int (nI (g 42)), .int (nI (g 43)), .int (nI (g 44)), .int (nI (g 45)), .ref a2, .int (nI (g 46)), .int (nI (g 59))])), (a1, .inl (tc 0, 40, .inl ((k_cp tro tr (go 0))))), (a2, .inl (tc 0, 12, .inl qs)), (o9, .inr (3, [.ref o1, .int (nI (go 0)), .int (nI (go 41)), .int (nI (go 42)), .int (nI (go 43)), .int (nI (go 44)), .int (nI (go 45)), .ref o2, .int (nI (go 46)), .int (nI (go 59))])), (o1, .inl (tc 0, 40, .inl tro)), (o2, .inl (tc 0, 12, .inl qso))]) ⟨hx, hb, hml, hown, hts⟩ hM hS hP hD (c_copyRow l D tc zb o1 a1 40 tro tr (go 0) (by omega) (by omega)) gX4_become_X4_copyRow rfl (by decide +kernel) ⟨Nat.le_of_ble_eq_true rfl, Nat.le_of_ble_eq_true rfl⟩ [4, 1] rfl rfl [(false, 0), (true, 1), (false, 2), (false, 3), (true, 0), (false, 5)] rfl rfl rfl rfl hl.1 rfl (Nat.le_of_ble_eq_true rfl) dX4_become_25 ⟨Nat.le_refl _, Nat.le_refl _⟩ (fun H locs hP hD hS => ?_)
  refine W.eq (g2 := F0 m 28 ls []) rfl ?_
  refine lv_aload_n hx hb dX4_become_28 rfl (lv_at hl 0 rfl) ?_
  refine lv_aload_n hx hb dX4_become_29 rfl (lv_at hl 1 rfl) ?_
  refine va_get (D := D) (ci := 3) (v := .int (nI (go 41))) (C := RX4) (T := TX4) (N := 10) hx hb hts hinX4 hown hM.1 hP 3 rfl rfl 2 (by decide) (hts (.fieldLink RX4 15 "TripleWays$State" "kept" "I") (by decide +kernel)) (fun _ h9 => h9) rfl dX4_become_30 ?_
  refine va_put (D := D) (ci := 3) (v := .int (nI (go 41))) (ty := .int) (C := RX4) (T := TX4) (N := 10) hx hb hts hinX4 tyX4 tyX4_ok nmX4 hown hM.1 hP hD hS 0 rfl rfl 2 (by decide) (hts (.fieldLink RX4 15 "TripleWays$State" "kept" "I") (by decide +kernel)) (fun _ h9 => h9) rfl (by decide +kernel) rfl rfl (Nat.le_of_ble_eq_true rfl) dX4_become_33 (fun H locs hP hD hS => ?_)
  have hP : va_P D vwCl [(a, .inr (3, [.ref a1, .int (nI (go 0)), .int (nI (go 41)), .int (nI (g 42)), .int (nI (g 43)), .int (nI (g 44)), .int (nI (g 45)), .ref a2, .int (nI (g 46)), .int (nI (g 59))])), (a1, .inl (tc 0, 40, .inl ((k_cp tro tr (go 0))))), (a2, .inl (tc 0, 12, .inl qs)), (o9, .inr (3, [.ref o1, .int (nI (go 0)), .int (nI (go 41)), .int (nI (go 42)), .int (nI (go 43)), .int (nI (go 44)), .int (nI (go 45)), .ref o2, .int (nI (go 46)), .int (nI (go 59))])), (o1, .inl (tc 0, 40, .inl tro)), (o2, .inl (tc 0, 12, .inl qso))] H := hP
  have hD : va_D A [(a, .inr (3, [.ref a1, .int (nI (go 0)), .int (nI (go 41)), .int (nI (g 42)), .int (nI (g 43)), .int (nI (g 44)), .int (nI (g 45)), .ref a2, .int (nI (g 46)), .int (nI (g 59))])), (a1, .inl (tc 0, 40, .inl ((k_cp tro tr (go 0))))), (a2, .inl (tc 0, 12, .inl qs)), (o9, .inr (3, [.ref o1, .int (nI (go 0)), .int (nI (go 41)), .int (nI (go 42)), .int (nI (go 43)), .int (nI (go 44)), .int (nI (go 45)), .ref o2, .int (nI (go 46)), .int (nI (go 59))])), (o1, .inl (tc 0, 40, .inl tro)), (o2, .inl (tc 0, 12, .inl qso))] := hD
  refine lv_aload_n hx hb dX4_become_36 rfl (lv_at hl 0 rfl) ?_
  refine lv_aload_n hx hb dX4_become_37 rfl (lv_at hl 1 rfl) ?_
  refine va_get (D := D) (ci := 3) (v := .int (nI (go 42))) (C := RX4) (T := TX4) (N := 10) hx hb hts hinX4 hown hM.1 hP 3 rfl rfl 3 (by decide) (hts (.fieldLink RX4 32 "TripleWays$State" "upkeepCosts" "I") (by decide +kernel)) (fun _ h9 => h9) rfl dX4_become_38 ?_
  refine va_put (D := D) (ci := 3) (v := .int (nI (go 42))) (ty := .int) (C := RX4) (T := TX4) (N := 10) hx hb hts hinX4 tyX4 tyX4_ok nmX4 hown hM.1 hP hD hS 0 rfl rfl 3 (by decide) (hts (.fieldLink RX4 32 "TripleWays$State" "upkeepCosts" "I") (by decide +kernel)) (fun _ h9 => h9) rfl (by decide +kernel) rfl rfl (Nat.le_of_ble_eq_true rfl) dX4_become_41 (fun H locs hP hD hS => ?_)
  have hP : va_P D vwCl [(a, .inr (3, [.ref a1, .int (nI (go 0)), .int (nI (go 41)), .int (nI (go 42)), .int (nI (g 43)), .int (nI (g 44)), .int (nI (g 45)), .ref a2, .int (nI (g 46)), .int (nI (g 59))])), (a1, .inl (tc 0, 40, .inl ((k_cp tro tr (go 0))))), (a2, .inl (tc 0, 12, .inl qs)), (o9, .inr (3, [.ref o1, .int (nI (go 0)), .int (nI (go 41)), .int (nI (go 42)), .int (nI (go 43)), .int (nI (go 44)), .int (nI (go 45)), .ref o2, .int (nI (go 46)), .int (nI (go 59))])), (o1, .inl (tc 0, 40, .inl tro)), (o2, .inl (tc 0, 12, .inl qso))] H := hP
  have hD : va_D A [(a, .inr (3, [.ref a1, .int (nI (go 0)), .int (nI (go 41)), .int (nI (go 42)), .int (nI (g 43)), .int (nI (g 44)), .int (nI (g 45)), .ref a2, .int (nI (g 46)), .int (nI (g 59))])), (a1, .inl (tc 0, 40, .inl ((k_cp tro tr (go 0))))), (a2, .inl (tc 0, 12, .inl qs)), (o9, .inr (3, [.ref o1, .int (nI (go 0)), .int (nI (go 41)), .int (nI (go 42)), .int (nI (go 43)), .int (nI (go 44)), .int (nI (go 45)), .ref o2, .int (nI (go 46)), .int (nI (go 59))])), (o1, .inl (tc 0, 40, .inl tro)), (o2, .inl (tc 0, 12, .inl qso))] := hD
  refine lv_aload_n hx hb dX4_become_44 rfl (lv_at hl 0 rfl) ?_
  refine lv_aload_n hx hb dX4_become_45 rfl (lv_at hl 1 rfl) ?_
  refine va_get (D := D) (ci := 3) (v := .int (nI (go 43))) (C := RX4) (T := TX4) (N := 10) hx hb hts hinX4 hown hM.1 hP 3 rfl rfl 4 (by decide) (hts (.fieldLink RX4 35 "TripleWays$State" "buildingCosts" "I") (by decide +kernel)) (fun _ h9 => h9) rfl dX4_become_46 ?_
  refine va_put (D := D) (ci := 3) (v := .int (nI (go 43))) (ty := .int) (C := RX4) (T := TX4) (N := 10) hx hb hts hinX4 tyX4 tyX4_ok nmX4 hown hM.1 hP hD hS 0 rfl rfl 4 (by decide) (hts (.fieldLink RX4 35 "TripleWays$State" "buildingCosts" "I") (by decide +kernel)) (fun _ h9 => h9) rfl (by decide +kernel) rfl rfl (Nat.le_of_ble_eq_true rfl) dX4_become_49 (fun H locs hP hD hS => ?_)
  have hP : va_P D vwCl [(a, .inr (3, [.ref a1, .int (nI (go 0)), .int (nI (go 41)), .int (nI (go 42)), .int (nI (go 43)), .int (nI (g 44)), .int (nI (g 45)), .ref a2, .int (nI (g 46)), .int (nI (g 59))])), (a1, .inl (tc 0, 40, .inl ((k_cp tro tr (go 0))))), (a2, .inl (tc 0, 12, .inl qs)), (o9, .inr (3, [.ref o1, .int (nI (go 0)), .int (nI (go 41)), .int (nI (go 42)), .int (nI (go 43)), .int (nI (go 44)), .int (nI (go 45)), .ref o2, .int (nI (go 46)), .int (nI (go 59))])), (o1, .inl (tc 0, 40, .inl tro)), (o2, .inl (tc 0, 12, .inl qso))] H := hP
  have hD : va_D A [(a, .inr (3, [.ref a1, .int (nI (go 0)), .int (nI (go 41)), .int (nI (go 42)), .int (nI (go 43)), .int (nI (g 44)), .int (nI (g 45)), .ref a2, .int (nI (g 46)), .int (nI (g 59))])), (a1, .inl (tc 0, 40, .inl ((k_cp tro tr (go 0))))), (a2, .inl (tc 0, 12, .inl qs)), (o9, .inr (3, [.ref o1, .int (nI (go 0)), .int (nI (go 41)), .int (nI (go 42)), .int (nI (go 43)), .int (nI (go 44)), .int (nI (go 45)), .ref o2, .int (nI (go 46)), .int (nI (go 59))])), (o1, .inl (tc 0, 40, .inl tro)), (o2, .inl (tc 0, 12, .inl qso))] := hD
  refine lv_aload_n hx hb dX4_become_52 rfl (lv_at hl 0 rfl) ?_
  refine lv_aload_n hx hb dX4_become_53 rfl (lv_at hl 1 rfl) ?_
  refine va_get (D := D) (ci := 3) (v := .int (nI (go 44))) (C := RX4) (T := TX4) (N := 10) hx hb hts hinX4 hown hM.1 hP 3 rfl rfl 5 (by decide) (hts (.fieldLink RX4 38 "TripleWays$State" "answerCosts" "I") (by decide +kernel)) (fun _ h9 => h9) rfl dX4_become_54 ?_
  refine va_put (D := D) (ci := 3) (v := .int (nI (go 44))) (ty := .int) (C := RX4) (T := TX4) (N := 10) hx hb hts hinX4 tyX4 tyX4_ok nmX4 hown hM.1 hP hD hS 0 rfl rfl 5 (by decide) (hts (.fieldLink RX4 38 "TripleWays$State" "answerCosts" "I") (by decide +kernel)) (fun _ h9 => h9) rfl (by decide +kernel) rfl rfl (Nat.le_of_ble_eq_true rfl) dX4_become_57 (fun H locs hP hD hS => ?_)
  have hP : va_P D vwCl [(a, .inr (3, [.ref a1, .int (nI (go 0)), .int (nI (go 41)), .int (nI (go 42)), .int (nI (go 43)), .int (nI (go 44)), .int (nI (g 45)), .ref a2, .int (nI (g 46)), .int (nI (g 59))])), (a1, .inl (tc 0, 40, .inl ((k_cp tro tr (go 0))))), (a2, .inl (tc 0, 12, .inl qs)), (o9, .inr (3, [.ref o1, .int (nI (go 0)), .int (nI (go 41)), .int (nI (go 42)), .int (nI (go 43)), .int (nI (go 44)), .int (nI (go 45)), .ref o2, .int (nI (go 46)), .int (nI (go 59))])), (o1, .inl (tc 0, 40, .inl tro)), (o2, .inl (tc 0, 12, .inl qso))] H := hP
  have hD : va_D A [(a, .inr (3, [.ref a1, .int (nI (go 0)), .int (nI (go 41)), .int (nI (go 42)), .int (nI (go 43)), .int (nI (go 44)), .int (nI (g 45)), .ref a2, .int (nI (g 46)), .int (nI (g 59))])), (a1, .inl (tc 0, 40, .inl ((k_cp tro tr (go 0))))), (a2, .inl (tc 0, 12, .inl qs)), (o9, .inr (3, [.ref o1, .int (nI (go 0)), .int (nI (go 41)), .int (nI (go 42)), .int (nI (go 43)), .int (nI (go 44)), .int (nI (go 45)), .ref o2, .int (nI (go 46)), .int (nI (go 59))])), (o1, .inl (tc 0, 40, .inl tro)), (o2, .inl (tc 0, 12, .inl qso))] := hD
  refine lv_aload_n hx hb dX4_become_60 rfl (lv_at hl 0 rfl) ?_
  refine lv_aload_n hx hb dX4_become_61 rfl (lv_at hl 1 rfl) ?_
  refine va_get (D := D) (ci := 3) (v := .int (nI (go 45))) (C := RX4) (T := TX4) (N := 10) hx hb hts hinX4 hown hM.1 hP 3 rfl rfl 6 (by decide) (hts (.fieldLink RX4 41 "TripleWays$State" "asked" "I") (by decide +kernel)) (fun _ h9 => h9) rfl dX4_become_62 ?_
  refine va_put (D := D) (ci := 3) (v := .int (nI (go 45))) (ty := .int) (C := RX4) (T := TX4) (N := 10) hx hb hts hinX4 tyX4 tyX4_ok nmX4 hown hM.1 hP hD hS 0 rfl rfl 6 (by decide) (hts (.fieldLink RX4 41 "TripleWays$State" "asked" "I") (by decide +kernel)) (fun _ h9 => h9) rfl (by decide +kernel) rfl rfl (Nat.le_of_ble_eq_true rfl) dX4_become_65 (fun H locs hP hD hS => ?_)
  have hP : va_P D vwCl [(a, .inr (3, [.ref a1, .int (nI (go 0)), .int (nI (go 41)), .int (nI (go 42)), .int (nI (go 43)), .int (nI (go 44)), .int (nI (go 45)), .ref a2, .int (nI (g 46)), .int (nI (g 59))])), (a1, .inl (tc 0, 40, .inl ((k_cp tro tr (go 0))))), (a2, .inl (tc 0, 12, .inl qs)), (o9, .inr (3, [.ref o1, .int (nI (go 0)), .int (nI (go 41)), .int (nI (go 42)), .int (nI (go 43)), .int (nI (go 44)), .int (nI (go 45)), .ref o2, .int (nI (go 46)), .int (nI (go 59))])), (o1, .inl (tc 0, 40, .inl tro)), (o2, .inl (tc 0, 12, .inl qso))] H := hP
  have hD : va_D A [(a, .inr (3, [.ref a1, .int (nI (go 0)), .int (nI (go 41)), .int (nI (go 42)), .int (nI (go 43)), .int (nI (go 44)), .int (nI (go 45)), .ref a2, .int (nI (g 46)), .int (nI (g 59))])), (a1, .inl (tc 0, 40, .inl ((k_cp tro tr (go 0))))), (a2, .inl (tc 0, 12, .inl qs)), (o9, .inr (3, [.ref o1, .int (nI (go 0)), .int (nI (go 41)), .int (nI (go 42)), .int (nI (go 43)), .int (nI (go 44)), .int (nI (go 45)), .ref o2, .int (nI (go 46)), .int (nI (go 59))])), (o1, .inl (tc 0, 40, .inl tro)), (o2, .inl (tc 0, 12, .inl qso))] := hD
  refine lv_aload_n hx hb dX4_become_68 rfl (lv_at hl 0 rfl) ?_
  refine lv_aload_n hx hb dX4_become_69 rfl (lv_at hl 1 rfl) ?_
  refine va_get (D := D) (ci := 3) (v := .int (nI (go 46))) (C := RX4) (T := TX4) (N := 10) hx hb hts hinX4 hown hM.1 hP 3 rfl rfl 8 (by decide) (hts (.fieldLink RX4 44 "TripleWays$State" "questionCount" "I") (by decide +kernel)) (fun _ h9 => h9) rfl dX4_become_70 ?_
  refine va_put (D := D) (ci := 3) (v := .int (nI (go 46))) (ty := .int) (C := RX4) (T := TX4) (N := 10) hx hb hts hinX4 tyX4 tyX4_ok nmX4 hown hM.1 hP hD hS 0 rfl rfl 8 (by decide) (hts (.fieldLink RX4 44 "TripleWays$State" "questionCount" "I") (by decide +kernel)) (fun _ h9 => h9) rfl (by decide +kernel) rfl rfl (Nat.le_of_ble_eq_true rfl) dX4_become_73 (fun H locs hP hD hS => ?_)
  have hP : va_P D vwCl [(a, .inr (3, [.ref a1, .int (nI (go 0)), .int (nI (go 41)), .int (nI (go 42)), .int (nI (go 43)), .int (nI (go 44)), .int (nI (go 45)), .ref a2, .int (nI (go 46)), .int (nI (g 59))])), (a1, .inl (tc 0, 40, .inl ((k_cp tro tr (go 0))))), (a2, .inl (tc 0, 12, .inl qs)), (o9, .inr (3, [.ref o1, .int (nI (go 0)), .int (nI (go 41)), .int (nI (go 42)), .int (nI (go 43)), .int (nI (go 44)), .int (nI (go 45)), .ref o2, .int (nI (go 46)), .int (nI (go 59))])), (o1, .inl (tc 0, 40, .inl tro)), (o2, .inl (tc 0, 12, .inl qso))] H := hP
  have hD : va_D A [(a, .inr (3, [.ref a1, .int (nI (go 0)), .int (nI (go 41)), .int (nI (go 42)), .int (nI (go 43)), .int (nI (go 44)), .int (nI (go 45)), .ref a2, .int (nI (go 46)), .int (nI (g 59))])), (a1, .inl (tc 0, 40, .inl ((k_cp tro tr (go 0))))), (a2, .inl (tc 0, 12, .inl qs)), (o9, .inr (3, [.ref o1, .int (nI (go 0)), .int (nI (go 41)), .int (nI (go 42)), .int (nI (go 43)), .int (nI (go 44)), .int (nI (go 45)), .ref o2, .int (nI (go 46)), .int (nI (go 59))])), (o1, .inl (tc 0, 40, .inl tro)), (o2, .inl (tc 0, 12, .inl qso))] := hD
  refine lv_aload_n hx hb dX4_become_76 rfl (lv_at hl 1 rfl) ?_
  refine va_get (D := D) (ci := 3) (v := .ref o2) (C := RX4) (T := TX4) (N := 10) hx hb hts hinX4 hown hM.1 hP 3 rfl rfl 7 (by decide) (hts (.fieldLink RX4 19 "TripleWays$State" "questions" "[I") (by decide +kernel)) (fun _ h9 => h9) rfl dX4_become_77 ?_
  refine lv_aload_n hx hb dX4_become_80 rfl (lv_at hl 0 rfl) ?_
  refine va_get (D := D) (ci := 3) (v := .ref a2) (C := RX4) (T := TX4) (N := 10) hx hb hts hinX4 hown hM.1 hP 0 rfl rfl 7 (by decide) (hts (.fieldLink RX4 19 "TripleWays$State" "questions" "[I") (by decide +kernel)) (fun _ h9 => h9) rfl dX4_become_81 ?_
  refine lv_aload_n hx hb dX4_become_84 rfl (lv_at hl 0 rfl) ?_
  refine va_get (D := D) (ci := 3) (v := .int (nI (go 46))) (C := RX4) (T := TX4) (N := 10) hx hb hts hinX4 hown hM.1 hP 0 rfl rfl 8 (by decide) (hts (.fieldLink RX4 44 "TripleWays$State" "questionCount" "I") (by decide +kernel)) (fun _ h9 => h9) rfl dX4_become_85 ?_
  refine ip_S (n := 3) (wl' := [(a, .inr (3, [.ref a1, .int (nI (go 0)), .int (nI (go 41)), .int (nI (go 42)), .int (nI (go 43)), .int (nI (go 44)), .int (nI (go 45)), .ref a2, .int (nI (go 46)), .int (nI (g 59))])), (a1, .inl (tc 0, 40, .inl ((k_cp tro tr (go 0))))), (a2, .inl (tc 0, 12, .inl ((k_cp qso qs (go 46))))), (o9, .inr (3, [.ref o1, .int (nI (go 0)), .int (nI (go 41)), .int (nI (go 42)), .int (nI (go 43)), .int (nI (go 44)), .int (nI (go 45)), .ref o2, .int (nI (go 46)), .int (nI (go 59))])), (o1, .inl (tc 0, 40, .inl tro)), (o2, .inl (tc 0, 12, .inl qso))]) ⟨hx, hb, hml, hown, hts⟩ hM hS hP hD (c_copyRow l D tc zb o2 a2 12 qso qs (go 46) (by omega) (by omega)) gX4_become_X4_copyRow rfl (by decide +kernel) ⟨Nat.le_of_ble_eq_true rfl, Nat.le_of_ble_eq_true rfl⟩ [5, 2] rfl rfl [(false, 0), (false, 1), (true, 1), (false, 3), (false, 4), (true, 0)] rfl rfl rfl rfl hl.1 rfl (Nat.le_of_ble_eq_true rfl) dX4_become_88 ⟨Nat.le_refl _, Nat.le_refl _⟩ (fun H locs hP hD hS => ?_)
  refine W.eq (g2 := F0 m 91 ls []) rfl ?_
  refine lv_aload_n hx hb dX4_become_91 rfl (lv_at hl 0 rfl) ?_
  refine lv_aload_n hx hb dX4_become_92 rfl (lv_at hl 1 rfl) ?_
  refine va_get (D := D) (ci := 3) (v := .int (nI (go 59))) (C := RX4) (T := TX4) (N := 10) hx hb hts hinX4 hown hM.1 hP 3 rfl rfl 9 (by decide) (hts (.fieldLink RX4 22 "TripleWays$State" "weight" "I") (by decide +kernel)) (fun _ h9 => h9) rfl dX4_become_93 ?_
  refine va_put (D := D) (ci := 3) (v := .int (nI (go 59))) (ty := .int) (C := RX4) (T := TX4) (N := 10) hx hb hts hinX4 tyX4 tyX4_ok nmX4 hown hM.1 hP hD hS 0 rfl rfl 9 (by decide) (hts (.fieldLink RX4 22 "TripleWays$State" "weight" "I") (by decide +kernel)) (fun _ h9 => h9) rfl (by decide +kernel) rfl rfl (Nat.le_of_ble_eq_true rfl) dX4_become_96 (fun H locs hP hD hS => ?_)
  have hP : va_P D vwCl [(a, .inr (3, [.ref a1, .int (nI (go 0)), .int (nI (go 41)), .int (nI (go 42)), .int (nI (go 43)), .int (nI (go 44)), .int (nI (go 45)), .ref a2, .int (nI (go 46)), .int (nI (go 59))])), (a1, .inl (tc 0, 40, .inl ((k_cp tro tr (go 0))))), (a2, .inl (tc 0, 12, .inl ((k_cp qso qs (go 46))))), (o9, .inr (3, [.ref o1, .int (nI (go 0)), .int (nI (go 41)), .int (nI (go 42)), .int (nI (go 43)), .int (nI (go 44)), .int (nI (go 45)), .ref o2, .int (nI (go 46)), .int (nI (go 59))])), (o1, .inl (tc 0, 40, .inl tro)), (o2, .inl (tc 0, 12, .inl qso))] H := hP
  have hD : va_D A [(a, .inr (3, [.ref a1, .int (nI (go 0)), .int (nI (go 41)), .int (nI (go 42)), .int (nI (go 43)), .int (nI (go 44)), .int (nI (go 45)), .ref a2, .int (nI (go 46)), .int (nI (go 59))])), (a1, .inl (tc 0, 40, .inl ((k_cp tro tr (go 0))))), (a2, .inl (tc 0, 12, .inl ((k_cp qso qs (go 46))))), (o9, .inr (3, [.ref o1, .int (nI (go 0)), .int (nI (go 41)), .int (nI (go 42)), .int (nI (go 43)), .int (nI (go 44)), .int (nI (go 45)), .ref o2, .int (nI (go 46)), .int (nI (go 59))])), (o1, .inl (tc 0, 40, .inl tro)), (o2, .inl (tc 0, 12, .inl qso))] := hD
  exact ip_vret hx hb hr hlk dX4_become_99 hS hP
