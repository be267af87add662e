set_option maxHeartbeats 4000000 in
set_option maxRecDepth 100000 in
theorem c7_remember (l : Launch) (D : va_G) (tc : Nat → ClassId) (zb : Nat) (b b1 b3 : Nat) (o : Nat → Value) (g sv : Nat → Nat) (n : Nat) (hn : n ≤ 14) : IP l yX7_remember wsX7_remember 0 0 D tc zb [(b, .inr (6, [o 0, .ref b1, o 2, .ref b3, .int (nI n), o 5, o 6, o 7, o 8])), (b1, .inl (tc 0, 60, .inl ((fun k => nI (g k))))), (b3, .inl (tc 0, 840, .inl ((fun k => nI (sv k)))))] [(b, .inr (6, [o 0, .ref b1, o 2, .ref b3, .int (nI (k_n1 n + 1)), o 5, o 6, o 7, o 8])), (b1, .inl (tc 0, 60, .inl ((fun k => nI (g k))))), (b3, .inl (tc 0, 840, .inl ((fun k => nI ((k_rem sv n g) k)))))] [.ref b] none := by
  refine IP.of (cc := cX7_remember) (maxL := 2) (ret := none) (by decide) rfl (Nat.le_of_ble_eq_true rfl) ?_
  intro p e s m args below meth c A hx hb hr hml hlk hts hown hM hS hP hD ls hl
  have hl : lv_has ls 2 [(0, .ref b)] := hl
  have hinX7 : ∀ w ∈ u_ws RX7 TX7 9, w ∈ wsX7_remember := by decide +kernel
  have hn1 : k_n1 n ≤ 13 := by unfold k_n1; split <;> omega
  refine lv_aload_n hx hb dX7_remember_0 rfl (lv_at hl 0 rfl) ?_
  refine va_get (D := D) (ci := 6) (v := .int (nI n)) (C := RX7) (T := TX7) (N := 9) hx hb hts hinX7 hown hM.1 hP 0 rfl rfl 4 (by decide) (hts (.fieldLink RX7 34 "TripleWaysModel" "savedMany" "I") (by decide +kernel)) (fun _ h9 => h9) rfl dX7_remember_1 ?_
  refine lv_bipush (v := (nI 14)) hx hb dX7_remember_4 (by decide) ?_
  refine ln_icmp_ne (tgt := 49) hx hb dX7_remember_6 (by decide) (by omega) (by decide) (fun h1 => ?_) (fun h1 => ?_)
  · have hP : va_P D vwCl [(b, .inr (6, [o 0, .ref b1, o 2, .ref b3, .int (nI (k_n1 n)), o 5, o 6, o 7, o 8])), (b1, .inl (tc 0, 60, .inl ((fun k => nI (g k))))), (b3, .inl (tc 0, 840, .inl ((fun k => nI ((k_sv1 sv n) k)))))] s.heap := (by rw [show k_n1 n = n from if_neg (by omega), show k_sv1 sv n = sv from if_neg (by omega)]; exact hP)
    have hD : va_D A [(b, .inr (6, [o 0, .ref b1, o 2, .ref b3, .int (nI (k_n1 n)), o 5, o 6, o 7, o 8])), (b1, .inl (tc 0, 60, .inl ((fun k => nI (g k))))), (b3, .inl (tc 0, 840, .inl ((fun k => nI ((k_sv1 sv n) k)))))] := va_D_addr hD rfl
    refine lv_iconst (v := (nI 0)) hx hb dX7_remember_49 (by decide) ?_
    refine lv_istore_n (lv' := [(1, .int (nI 0)), (0, .ref b)]) hx hb dX7_remember_50 rfl hl (by decide) rfl (fun ls hl => ?_)
    have lp51 : ∀ (n9 : Nat) (gf : Nat → Nat) (i : Nat), (60 - i) < n9 → (i ≤ 60) → (gf = k_win g (k_sv1 sv n) (60 * k_n1 n) 0 i) → ∀ (H : Heap) (locs : List Loc), va_P D vwCl [(b, .inr (6, [o 0, .ref b1, o 2, .ref b3, .int (nI (k_n1 n)), o 5, o 6, o 7, o 8])), (b1, .inl (tc 0, 60, .inl ((fun k => nI (g k))))), (b3, .inl (tc 0, 840, .inl ((fun k => nI (gf k)))))] H → va_D A [(b, .inr (6, [o 0, .ref b1, o 2, .ref b3, .int (nI (k_n1 n)), o 5, o 6, o 7, o 8])), (b1, .inl (tc 0, 60, .inl ((fun k => nI (g k))))), (b3, .inl (tc 0, 840, .inl ((fun k => nI (gf k)))))] → va_S A s.heap H locs → ∀ ls : Array Slot, lv_has ls 2 [(1, .int (nI i)), (0, .ref b)] → W p l e ({ frames := 0, cells := 0, slots := 0, locals := 0 } : Room) s m args below meth c H locs 0 0 (MQ below (ipQ D A [(b, .inr (6, [o 0, .ref b1, o 2, .ref b3, .int (nI (k_n1 n + 1)), o 5, o 6, o 7, o 8])), (b1, .inl (tc 0, 60, .inl ((fun k => nI (g k))))), (b3, .inl (tc 0, 840, .inl ((fun k => nI ((k_rem sv n g) k)))))] none) args s 0 0 A) (F0 m 51 ls []) := by
      intro n9
      induction n9 with
      | zero => intro gf i hmu; exact absurd hmu (Nat.not_lt_zero _)
      | succ n9 ih51 =>
        intro gf i hmu hi hgf H locs hP hD hS ls hl
        refine lv_iload_n hx hb dX7_remember_51 rfl (lv_at hl 0 rfl) ?_
        refine lv_bipush (v := (nI 60)) hx hb dX7_remember_52 (by decide) ?_
        refine ln_icmp_ge (tgt := 83) hx hb dX7_remember_54 (by decide) (by omega) (by decide) (fun h2 => ?_) (fun h2 => ?_)
        · refine lv_aload_n hx hb dX7_remember_83 rfl (lv_at hl 1 rfl) ?_
          refine lv_dup hx hb dX7_remember_84 rfl ?_
          refine va_get (D := D) (ci := 6) (v := .int (nI (k_n1 n))) (C := RX7) (T := TX7) (N := 9) hx hb hts hinX7 hown hM.1 hP 0 rfl rfl 4 (by decide) (hts (.fieldLink RX7 34 "TripleWaysModel" "savedMany" "I") (by decide +kernel)) (fun _ h9 => h9) rfl dX7_remember_85 ?_
          refine lv_iconst (v := (nI 1)) hx hb dX7_remember_88 (by decide) ?_
          refine ln_iadd hx hb dX7_remember_89 ?_
          refine va_put (D := D) (ci := 6) (v := .int (nI ((k_n1 n) + 1))) (ty := .int) (C := RX7) (T := TX7) (N := 9) hx hb hts hinX7 tyX7 tyX7_ok nmX7 hown hM.1 hP hD hS 0 rfl rfl 4 (by decide) (hts (.fieldLink RX7 34 "TripleWaysModel" "savedMany" "I") (by decide +kernel)) (fun _ h9 => h9) rfl (by decide +kernel) rfl rfl (Nat.le_of_ble_eq_true rfl) dX7_remember_90 (fun H locs hP hD hS => ?_)
          have hP : va_P D vwCl [(b, .inr (6, [o 0, .ref b1, o 2, .ref b3, .int (nI ((k_n1 n) + 1)), o 5, o 6, o 7, o 8])), (b1, .inl (tc 0, 60, .inl ((fun k => nI (g k))))), (b3, .inl (tc 0, 840, .inl ((fun k => nI (gf k)))))] H := hP
          have hD : va_D A [(b, .inr (6, [o 0, .ref b1, o 2, .ref b3, .int (nI ((k_n1 n) + 1)), o 5, o 6, o 7, o 8])), (b1, .inl (tc 0, 60, .inl ((fun k => nI (g k))))), (b3, .inl (tc 0, 840, .inl ((fun k => nI (gf k)))))] := hD
          exact ip_vret hx hb hr hlk dX7_remember_93 hS (by (have ei : i = 60 := by omega); rw [show k_rem sv n g = gf from by rw [hgf, ei]; rfl]; exact hP)
        · refine lv_aload_n hx hb dX7_remember_57 rfl (lv_at hl 1 rfl) ?_
          refine va_get (D := D) (ci := 6) (v := .ref b3) (C := RX7) (T := TX7) (N := 9) hx hb hts hinX7 hown hM.1 hP 0 rfl rfl 3 (by decide) (hts (.fieldLink RX7 16 "TripleWaysModel" "saved" "[I") (by decide +kernel)) (fun _ h9 => h9) rfl dX7_remember_58 ?_
          refine lv_bipush (v := (nI 60)) hx hb dX7_remember_61 (by decide) ?_
          refine lv_aload_n hx hb dX7_remember_63 rfl (lv_at hl 1 rfl) ?_
          refine va_get (D := D) (ci := 6) (v := .int (nI (k_n1 n))) (C := RX7) (T := TX7) (N := 9) hx hb hts hinX7 hown hM.1 hP 0 rfl rfl 4 (by decide) (hts (.fieldLink RX7 34 "TripleWaysModel" "savedMany" "I") (by decide +kernel)) (fun _ h9 => h9) rfl dX7_remember_64 ?_
          refine ln_imul hx hb dX7_remember_67 ?_
          refine lv_iload_n hx hb dX7_remember_68 rfl (lv_at hl 0 rfl) ?_
          refine ln_iadd hx hb dX7_remember_69 ?_
          refine lv_aload_n hx hb dX7_remember_70 rfl (lv_at hl 1 rfl) ?_
          refine va_get (D := D) (ci := 6) (v := .ref b1) (C := RX7) (T := TX7) (N := 9) hx hb hts hinX7 hown hM.1 hP 0 rfl rfl 1 (by decide) (hts (.fieldLink RX7 7 "TripleWaysModel" "s" "[I") (by decide +kernel)) (fun _ h9 => h9) rfl dX7_remember_71 ?_
          refine lv_iload_n hx hb dX7_remember_74 rfl (lv_at hl 0 rfl) ?_
          refine ln_iald hx hb hM.1 hP 1 0 rfl rfl dX7_remember_75 (by decide) (by omega) (rfl) ?_
          refine ln_iastN hx hb hM.1 hP hD hS 2 0 rfl rfl dX7_remember_76 (by decide) (by omega) (fun H locs hP hD hS => ?_)
          have hP : va_P D vwCl [(b, .inr (6, [o 0, .ref b1, o 2, .ref b3, .int (nI (k_n1 n)), o 5, o 6, o 7, o 8])), (b1, .inl (tc 0, 60, .inl ((fun k => nI (g k))))), (b3, .inl (tc 0, 840, .inl ((fun k => nI (k_up gf ((60 * (k_n1 n)) + i) (g i) k)))))] H := hP
          have hD : va_D A [(b, .inr (6, [o 0, .ref b1, o 2, .ref b3, .int (nI (k_n1 n)), o 5, o 6, o 7, o 8])), (b1, .inl (tc 0, 60, .inl ((fun k => nI (g k))))), (b3, .inl (tc 0, 840, .inl ((fun k => nI (k_up gf ((60 * (k_n1 n)) + i) (g i) k)))))] := hD
          refine lv_iinc (v := (nI (i + 1))) (lv' := [(1, .int (nI (i + 1))), (0, .ref b)]) hx hb dX7_remember_77 hl (k := 0) rfl (nI_add i 1) (by decide) rfl (fun ls hl => ?_)
          refine lv_goto (tgt := 51) hx hb dX7_remember_80 (by decide) ?_
          exact ih51 (k_up gf ((60 * (k_n1 n)) + i) (g i)) (i + 1) (by omega) (by omega) (by exact k_win_1 hgf (by rw [Nat.zero_add])) _ _ hP hD hS _ (lv_sub hl [0, 1] rfl)
    exact lp51 _ ((k_sv1 sv n)) 0 (Nat.lt_succ_self _) (by omega) (by exact (k_win_0 _ _ _ _).symm) _ _ hP hD hS _ (lv_sub hl [0, 1] rfl)
  · refine lv_iconst (v := (nI 0)) hx hb dX7_remember_9 (by decide) ?_
    refine lv_istore_n (lv' := [(1, .int (nI 0)), (0, .ref b)]) hx hb dX7_remember_10 rfl hl (by decide) rfl (fun ls hl => ?_)
    have lp11 : ∀ (n9 : Nat) (gf : Nat → Nat) (i : Nat), (780 - i) < n9 → (i ≤ 780) → (gf = k_win sv sv 0 60 i) → ∀ (H : Heap) (locs : List Loc), va_P D vwCl [(b, .inr (6, [o 0, .ref b1, o 2, .ref b3, .int (nI n), o 5, o 6, o 7, o 8])), (b1, .inl (tc 0, 60, .inl ((fun k => nI (g k))))), (b3, .inl (tc 0, 840, .inl ((fun k => nI (gf k)))))] H → va_D A [(b, .inr (6, [o 0, .ref b1, o 2, .ref b3, .int (nI n), o 5, o 6, o 7, o 8])), (b1, .inl (tc 0, 60, .inl ((fun k => nI (g k))))), (b3, .inl (tc 0, 840, .inl ((fun k => nI (gf k)))))] → va_S A s.heap H locs → ∀ ls : Array Slot, lv_has ls 2 [(1, .int (nI i)), (0, .ref b)] → W p l e ({ frames := 0, cells := 0, slots := 0, locals := 0 } : Room) s m args below meth c H locs 0 0 (MQ below (ipQ D A [(b, .inr (6, [o 0, .ref b1, o 2, .ref b3, .int (nI (k_n1 n + 1)), o 5, o 6, o 7, o 8])), (b1, .inl (tc 0, 60, .inl ((fun k => nI (g k))))), (b3, .inl (tc 0, 840, .inl ((fun k => nI ((k_rem sv n g) k)))))] none) args s 0 0 A) (F0 m 11 ls []) := by
      intro n9
      induction n9 with
      | zero => intro gf i hmu; exact absurd hmu (Nat.not_lt_zero _)
      | succ n9 ih11 =>
        intro gf i hmu hi hgf H locs hP hD hS ls hl
        refine lv_iload_n hx hb dX7_remember_11 rfl (lv_at hl 0 rfl) ?_
        refine lv_sipush (v := (nI 780)) hx hb dX7_remember_12 (by decide) ?_
        refine ln_icmp_ge (tgt := 39) hx hb dX7_remember_15 (by decide) (by omega) (by decide) (fun h3 => ?_) (fun h3 => ?_)
        · refine lv_aload_n hx hb dX7_remember_39 rfl (lv_at hl 1 rfl) ?_
          refine lv_dup hx hb dX7_remember_40 rfl ?_
          refine va_get (D := D) (ci := 6) (v := .int (nI n)) (C := RX7) (T := TX7) (N := 9) hx hb hts hinX7 hown hM.1 hP 0 rfl rfl 4 (by decide) (hts (.fieldLink RX7 34 "TripleWaysModel" "savedMany" "I") (by decide +kernel)) (fun _ h9 => h9) rfl dX7_remember_41 ?_
          refine lv_iconst (v := (nI 1)) hx hb dX7_remember_44 (by decide) ?_
          refine ln_isub hx hb dX7_remember_45 (by omega) ?_
          refine va_put (D := D) (ci := 6) (v := .int (nI (n - 1))) (ty := .int) (C := RX7) (T := TX7) (N := 9) hx hb hts hinX7 tyX7 tyX7_ok nmX7 hown hM.1 hP hD hS 0 rfl rfl 4 (by decide) (hts (.fieldLink RX7 34 "TripleWaysModel" "savedMany" "I") (by decide +kernel)) (fun _ h9 => h9) rfl (by decide +kernel) rfl rfl (Nat.le_of_ble_eq_true rfl) dX7_remember_46 (fun H locs hP hD hS => ?_)
          have hP : va_P D vwCl [(b, .inr (6, [o 0, .ref b1, o 2, .ref b3, .int (nI (n - 1)), o 5, o 6, o 7, o 8])), (b1, .inl (tc 0, 60, .inl ((fun k => nI (g k))))), (b3, .inl (tc 0, 840, .inl ((fun k => nI (gf k)))))] H := hP
          have hD : va_D A [(b, .inr (6, [o 0, .ref b1, o 2, .ref b3, .int (nI (n - 1)), o 5, o 6, o 7, o 8])), (b1, .inl (tc 0, 60, .inl ((fun k => nI (g k))))), (b3, .inl (tc 0, 840, .inl ((fun k => nI (gf k)))))] := hD
          have hP : va_P D vwCl [(b, .inr (6, [o 0, .ref b1, o 2, .ref b3, .int (nI (k_n1 n)), o 5, o 6, o 7, o 8])), (b1, .inl (tc 0, 60, .inl ((fun k => nI (g k))))), (b3, .inl (tc 0, 840, .inl ((fun k => nI ((k_sv1 sv n) k)))))] H := (by (have ei : i = 780 := by omega); rw [show k_n1 n = n - 1 from (if_pos (by omega)).trans (by omega), show k_sv1 sv n = gf from (if_pos (by omega)).trans (by rw [hgf, ei])]; exact hP)
          have hD : va_D A [(b, .inr (6, [o 0, .ref b1, o 2, .ref b3, .int (nI (k_n1 n)), o 5, o 6, o 7, o 8])), (b1, .inl (tc 0, 60, .inl ((fun k => nI (g k))))), (b3, .inl (tc 0, 840, .inl ((fun k => nI ((k_sv1 sv n) k)))))] := va_D_addr hD rfl
          refine lv_iconst (v := (nI 0)) hx hb dX7_remember_49 (by decide) ?_
          refine lv_istore_n (lv' := [(1, .int (nI 0)), (0, .ref b)]) hx hb dX7_remember_50 rfl hl (by decide) rfl (fun ls hl => ?_)
          have lp51_4 : ∀ (n9 : Nat) (gf : Nat → Nat) (i : Nat), (60 - i) < n9 → (i ≤ 60) → (gf = k_win g (k_sv1 sv n) (60 * k_n1 n) 0 i) → ∀ (H : Heap) (locs : List Loc), va_P D vwCl [(b, .inr (6, [o 0, .ref b1, o 2, .ref b3, .int (nI (k_n1 n)), o 5, o 6, o 7, o 8])), (b1, .inl (tc 0, 60, .inl ((fun k => nI (g k))))), (b3, .inl (tc 0, 840, .inl ((fun k => nI (gf k)))))] H → va_D A [(b, .inr (6, [o 0, .ref b1, o 2, .ref b3, .int (nI (k_n1 n)), o 5, o 6, o 7, o 8])), (b1, .inl (tc 0, 60, .inl ((fun k => nI (g k))))), (b3, .inl (tc 0, 840, .inl ((fun k => nI (gf k)))))] → va_S A s.heap H locs → ∀ ls : Array Slot, lv_has ls 2 [(1, .int (nI i)), (0, .ref b)] → W p l e ({ frames := 0, cells := 0, slots := 0, locals := 0 } : Room) s m args below meth c H locs 0 0 (MQ below (ipQ D A [(b, .inr (6, [o 0, .ref b1, o 2, .ref b3, .int (nI (k_n1 n + 1)), o 5, o 6, o 7, o 8])), (b1, .inl (tc 0, 60, .inl ((fun k => nI (g k))))), (b3, .inl (tc 0, 840, .inl ((fun k => nI ((k_rem sv n g) k)))))] none) args s 0 0 A) (F0 m 51 ls []) := by
            intro n9
            induction n9 with
            | zero => intro gf i hmu; exact absurd hmu (Nat.not_lt_zero _)
            | succ n9 ih51 =>
              intro gf i hmu hi hgf H locs hP hD hS ls hl
              refine lv_iload_n hx hb dX7_remember_51 rfl (lv_at hl 0 rfl) ?_
              refine lv_bipush (v := (nI 60)) hx hb dX7_remember_52 (by decide) ?_
              refine ln_icmp_ge (tgt := 83) hx hb dX7_remember_54 (by decide) (by omega) (by decide) (fun h5 => ?_) (fun h5 => ?_)
              · refine lv_aload_n hx hb dX7_remember_83 rfl (lv_at hl 1 rfl) ?_
                refine lv_dup hx hb dX7_remember_84 rfl ?_
                refine va_get (D := D) (ci := 6) (v := .int (nI (k_n1 n))) (C := RX7) (T := TX7) (N := 9) hx hb hts hinX7 hown hM.1 hP 0 rfl rfl 4 (by decide) (hts (.fieldLink RX7 34 "TripleWaysModel" "savedMany" "I") (by decide +kernel)) (fun _ h9 => h9) rfl dX7_remember_85 ?_
                refine lv_iconst (v := (nI 1)) hx hb dX7_remember_88 (by decide) ?_
                refine ln_iadd hx hb dX7_remember_89 ?_
                refine va_put (D := D) (ci := 6) (v := .int (nI ((k_n1 n) + 1))) (ty := .int) (C := RX7) (T := TX7) (N := 9) hx hb hts hinX7 tyX7 tyX7_ok nmX7 hown hM.1 hP hD hS 0 rfl rfl 4 (by decide) (hts (.fieldLink RX7 34 "TripleWaysModel" "savedMany" "I") (by decide +kernel)) (fun _ h9 => h9) rfl (by decide +kernel) rfl rfl (Nat.le_of_ble_eq_true rfl) dX7_remember_90 (fun H locs hP hD hS => ?_)
                have hP : va_P D vwCl [(b, .inr (6, [o 0, .ref b1, o 2, .ref b3, .int (nI ((k_n1 n) + 1)), o 5, o 6, o 7, o 8])), (b1, .inl (tc 0, 60, .inl ((fun k => nI (g k))))), (b3, .inl (tc 0, 840, .inl ((fun k => nI (gf k)))))] H := hP
                have hD : va_D A [(b, .inr (6, [o 0, .ref b1, o 2, .ref b3, .int (nI ((k_n1 n) + 1)), o 5, o 6, o 7, o 8])), (b1, .inl (tc 0, 60, .inl ((fun k => nI (g k))))), (b3, .inl (tc 0, 840, .inl ((fun k => nI (gf k)))))] := hD
                exact ip_vret hx hb hr hlk dX7_remember_93 hS (by (have ei : i = 60 := by omega); rw [show k_rem sv n g = gf from by rw [hgf, ei]; rfl]; exact hP)
              · refine lv_aload_n hx hb dX7_remember_57 rfl (lv_at hl 1 rfl) ?_
                refine va_get (D := D) (ci := 6) (v := .ref b3) (C := RX7) (T := TX7) (N := 9) hx hb hts hinX7 hown hM.1 hP 0 rfl rfl 3 (by decide) (hts (.fieldLink RX7 16 "TripleWaysModel" "saved" "[I") (by decide +kernel)) (fun _ h9 => h9) rfl dX7_remember_58 ?_
                refine lv_bipush (v := (nI 60)) hx hb dX7_remember_61 (by decide) ?_
                refine lv_aload_n hx hb dX7_remember_63 rfl (lv_at hl 1 rfl) ?_
                refine va_get (D := D) (ci := 6) (v := .int (nI (k_n1 n))) (C := RX7) (T := TX7) (N := 9) hx hb hts hinX7 hown hM.1 hP 0 rfl rfl 4 (by decide) (hts (.fieldLink RX7 34 "TripleWaysModel" "savedMany" "I") (by decide +kernel)) (fun _ h9 => h9) rfl dX7_remember_64 ?_
                refine ln_imul hx hb dX7_remember_67 ?_
                refine lv_iload_n hx hb dX7_remember_68 rfl (lv_at hl 0 rfl) ?_
                refine ln_iadd hx hb dX7_remember_69 ?_
                refine lv_aload_n hx hb dX7_remember_70 rfl (lv_at hl 1 rfl) ?_
                refine va_get (D := D) (ci := 6) (v := .ref b1) (C := RX7) (T := TX7) (N := 9) hx hb hts hinX7 hown hM.1 hP 0 rfl rfl 1 (by decide) (hts (.fieldLink RX7 7 "TripleWaysModel" "s" "[I") (by decide +kernel)) (fun _ h9 => h9) rfl dX7_remember_71 ?_
                refine lv_iload_n hx hb dX7_remember_74 rfl (lv_at hl 0 rfl) ?_
                refine ln_iald hx hb hM.1 hP 1 0 rfl rfl dX7_remember_75 (by decide) (by omega) (rfl) ?_
                refine ln_iastN hx hb hM.1 hP hD hS 2 0 rfl rfl dX7_remember_76 (by decide) (by omega) (fun H locs hP hD hS => ?_)
                have hP : va_P D vwCl [(b, .inr (6, [o 0, .ref b1, o 2, .ref b3, .int (nI (k_n1 n)), o 5, o 6, o 7, o 8])), (b1, .inl (tc 0, 60, .inl ((fun k => nI (g k))))), (b3, .inl (tc 0, 840, .inl ((fun k => nI (k_up gf ((60 * (k_n1 n)) + i) (g i) k)))))] H := hP
                have hD : va_D A [(b, .inr (6, [o 0, .ref b1, o 2, .ref b3, .int (nI (k_n1 n)), o 5, o 6, o 7, o 8])), (b1, .inl (tc 0, 60, .inl ((fun k => nI (g k))))), (b3, .inl (tc 0, 840, .inl ((fun k => nI (k_up gf ((60 * (k_n1 n)) + i) (g i) k)))))] := hD
                refine lv_iinc (v := (nI (i + 1))) (lv' := [(1, .int (nI (i + 1))), (0, .ref b)]) hx hb dX7_remember_77 hl (k := 0) rfl (nI_add i 1) (by decide) rfl (fun ls hl => ?_)
                refine lv_goto (tgt := 51) hx hb dX7_remember_80 (by decide) ?_
                exact ih51 (k_up gf ((60 * (k_n1 n)) + i) (g i)) (i + 1) (by omega) (by omega) (by exact k_win_1 hgf (by rw [Nat.zero_add])) _ _ hP hD hS _ (lv_sub hl [0, 1] rfl)
          exact lp51_4 _ ((k_sv1 sv n)) 0 (Nat.lt_succ_self _) (by omega) (by exact (k_win_0 _ _ _ _).symm) _ _ hP hD hS _ (lv_sub hl [0, 1] rfl)
        · refine lv_aload_n hx hb dX7_remember_18 rfl (lv_at hl 1 rfl) ?_
          refine va_get (D := D) (ci := 6) (v := .ref b3) (C := RX7) (T := TX7) (N := 9) hx hb hts hinX7 hown hM.1 hP 0 rfl rfl 3 (by decide) (hts (.fieldLink RX7 16 "TripleWaysModel" "saved" "[I") (by decide +kernel)) (fun _ h9 => h9) rfl dX7_remember_19 ?_
          refine lv_iload_n hx hb dX7_remember_22 rfl (lv_at hl 0 rfl) ?_
          refine lv_aload_n hx hb dX7_remember_23 rfl (lv_at hl 1 rfl) ?_
          refine va_get (D := D) (ci := 6) (v := .ref b3) (C := RX7) (T := TX7) (N := 9) hx hb hts hinX7 hown hM.1 hP 0 rfl rfl 3 (by decide) (hts (.fieldLink RX7 16 "TripleWaysModel" "saved" "[I") (by decide +kernel)) (fun _ h9 => h9) rfl dX7_remember_24 ?_
          refine lv_bipush (v := (nI 60)) hx hb dX7_remember_27 (by decide) ?_
          refine lv_iload_n hx hb dX7_remember_29 rfl (lv_at hl 0 rfl) ?_
          refine ln_iadd hx hb dX7_remember_30 ?_
          refine ln_iald hx hb hM.1 hP 2 0 rfl rfl dX7_remember_31 (by decide) (by omega) (rfl) ?_
          refine ln_iastN hx hb hM.1 hP hD hS 2 0 rfl rfl dX7_remember_32 (by decide) (by omega) (fun H locs hP hD hS => ?_)
          have hP : va_P D vwCl [(b, .inr (6, [o 0, .ref b1, o 2, .ref b3, .int (nI n), o 5, o 6, o 7, o 8])), (b1, .inl (tc 0, 60, .inl ((fun k => nI (g k))))), (b3, .inl (tc 0, 840, .inl ((fun k => nI (k_up gf i (gf (60 + i)) k)))))] H := hP
          have hD : va_D A [(b, .inr (6, [o 0, .ref b1, o 2, .ref b3, .int (nI n), o 5, o 6, o 7, o 8])), (b1, .inl (tc 0, 60, .inl ((fun k => nI (g k))))), (b3, .inl (tc 0, 840, .inl ((fun k => nI (k_up gf i (gf (60 + i)) k)))))] := hD
          refine lv_iinc (v := (nI (i + 1))) (lv' := [(1, .int (nI (i + 1))), (0, .ref b)]) hx hb dX7_remember_33 hl (k := 0) rfl (nI_add i 1) (by decide) rfl (fun ls hl => ?_)
          refine lv_goto (tgt := 11) hx hb dX7_remember_36 (by decide) ?_
          exact ih11 (k_up gf i (gf (60 + i))) (i + 1) (by omega) (by omega) (by have h := k_win_1 (d := 0) hgf (x := gf (60 + i)) (by rw [hgf, k_win_out (by omega)]); rw [Nat.zero_add] at h; exact h) _ _ hP hD hS _ (lv_sub hl [0, 1] rfl)
    exact lp11 _ sv 0 (Nat.lt_succ_self _) (by omega) (by exact (k_win_0 _ _ _ _).symm) _ _ hP hD hS _ (lv_sub hl [0, 1] rfl)
set_option maxHeartbeats 4000000 in
set_option maxRecDepth 100000 in
theorem c7_putAside (l : Launch) (D : va_G) (tc : Nat → ClassId) (zb : Nat) (b b1 b2 : Nat) (o : Nat → Value) (g ga : Nat → Nat)  : IP l yX7_putAside wsX7_putAside 0 0 D tc zb [(b, .inr (6, [o 0, .ref b1, .ref b2, o 3, o 4, o 5, o 6, o 7, o 8])), (b1, .inl (tc 0, 60, .inl ((fun k => nI (g k))))), (b2, .inl (tc 0, 60, .inl ((fun k => nI (ga k)))))] [(b, .inr (6, [o 0, .ref b1, .ref b2, o 3, o 4, o 5, o 6, o 7, o 8])), (b1, .inl (tc 0, 60, .inl ((fun k => nI (g k))))), (b2, .inl (tc 0, 60, .inl ((fun k => nI ((k_win g ga 0 0 60) k)))))] [.ref b] none := by
  refine IP.of (cc := cX7_putAside) (maxL := 2) (ret := none) (by decide) rfl (Nat.le_of_ble_eq_true rfl) ?_
  intro p e s m args below meth c A hx hb hr hml hlk hts hown hM hS hP hD ls hl
  have hl : lv_has ls 2 [(0, .ref b)] := hl
  have hinX7 : ∀ w ∈ u_ws RX7 TX7 9, w ∈ wsX7_putAside := by decide +kernel
  refine lv_iconst (v := (nI 0)) hx hb dX7_putAside_0 (by decide) ?_
  refine lv_istore_n (lv' := [(1, .int (nI 0)), (0, .ref b)]) hx hb dX7_putAside_1 rfl hl (by decide) rfl (fun ls hl => ?_)
  have lp2 : ∀ (n9 : Nat) (gf : Nat → Nat) (i : Nat), (60 - i) < n9 → (i ≤ 60) → (gf = k_win g ga 0 0 i) → ∀ (H : Heap) (locs : List Loc), va_P D vwCl [(b, .inr (6, [o 0, .ref b1, .ref b2, o 3, o 4, o 5, o 6, o 7, o 8])), (b1, .inl (tc 0, 60, .inl ((fun k => nI (g k))))), (b2, .inl (tc 0, 60, .inl ((fun k => nI (gf k)))))] H → va_D A [(b, .inr (6, [o 0, .ref b1, .ref b2, o 3, o 4, o 5, o 6, o 7, o 8])), (b1, .inl (tc 0, 60, .inl ((fun k => nI (g k))))), (b2, .inl (tc 0, 60, .inl ((fun k => nI (gf k)))))] → va_S A s.heap H locs → ∀ ls : Array Slot, lv_has ls 2 [(1, .int (nI i)), (0, .ref b)] → W p l e ({ frames := 0, cells := 0, slots := 0, locals := 0 } : Room) s m args below meth c H locs 0 0 (MQ below (ipQ D A [(b, .inr (6, [o 0, .ref b1, .ref b2, o 3, o 4, o 5, o 6, o 7, o 8])), (b1, .inl (tc 0, 60, .inl ((fun k => nI (g k))))), (b2, .inl (tc 0, 60, .inl ((fun k => nI ((k_win g ga 0 0 60) k)))))] none) args s 0 0 A) (F0 m 2 ls []) := by
    intro n9
    induction n9 with
    | zero => intro gf i hmu; exact absurd hmu (Nat.not_lt_zero _)
    | succ n9 ih2 =>
      intro gf i hmu hi hgf H locs hP hD hS ls hl
      refine lv_iload_n hx hb dX7_putAside_2 rfl (lv_at hl 0 rfl) ?_
      refine lv_bipush (v := (nI 60)) hx hb dX7_putAside_3 (by decide) ?_
      refine ln_icmp_ge (tgt := 26) hx hb dX7_putAside_5 (by decide) (by omega) (by decide) (fun h1 => ?_) (fun h1 => ?_)
      · exact ip_vret hx hb hr hlk dX7_putAside_26 hS (by (have ei : i = 60 := by omega); rw [show k_win g ga 0 0 60 = gf from by rw [hgf, ei]]; exact hP)
      · refine lv_aload_n hx hb dX7_putAside_8 rfl (lv_at hl 1 rfl) ?_
        refine va_get (D := D) (ci := 6) (v := .ref b2) (C := RX7) (T := TX7) (N := 9) hx hb hts hinX7 hown hM.1 hP 0 rfl rfl 2 (by decide) (hts (.fieldLink RX7 13 "TripleWaysModel" "aside" "[I") (by decide +kernel)) (fun _ h9 => h9) rfl dX7_putAside_9 ?_
        refine lv_iload_n hx hb dX7_putAside_12 rfl (lv_at hl 0 rfl) ?_
        refine lv_aload_n hx hb dX7_putAside_13 rfl (lv_at hl 1 rfl) ?_
        refine va_get (D := D) (ci := 6) (v := .ref b1) (C := RX7) (T := TX7) (N := 9) hx hb hts hinX7 hown hM.1 hP 0 rfl rfl 1 (by decide) (hts (.fieldLink RX7 7 "TripleWaysModel" "s" "[I") (by decide +kernel)) (fun _ h9 => h9) rfl dX7_putAside_14 ?_
        refine lv_iload_n hx hb dX7_putAside_17 rfl (lv_at hl 0 rfl) ?_
        refine ln_iald hx hb hM.1 hP 1 0 rfl rfl dX7_putAside_18 (by decide) (by omega) (rfl) ?_
        refine ln_iastN hx hb hM.1 hP hD hS 2 0 rfl rfl dX7_putAside_19 (by decide) (by omega) (fun H locs hP hD hS => ?_)
        have hP : va_P D vwCl [(b, .inr (6, [o 0, .ref b1, .ref b2, o 3, o 4, o 5, o 6, o 7, o 8])), (b1, .inl (tc 0, 60, .inl ((fun k => nI (g k))))), (b2, .inl (tc 0, 60, .inl ((fun k => nI (k_up gf i (g i) k)))))] H := hP
        have hD : va_D A [(b, .inr (6, [o 0, .ref b1, .ref b2, o 3, o 4, o 5, o 6, o 7, o 8])), (b1, .inl (tc 0, 60, .inl ((fun k => nI (g k))))), (b2, .inl (tc 0, 60, .inl ((fun k => nI (k_up gf i (g i) k)))))] := hD
        refine lv_iinc (v := (nI (i + 1))) (lv' := [(1, .int (nI (i + 1))), (0, .ref b)]) hx hb dX7_putAside_20 hl (k := 0) rfl (nI_add i 1) (by decide) rfl (fun ls hl => ?_)
        refine lv_goto (tgt := 2) hx hb dX7_putAside_23 (by decide) ?_
        exact ih2 (k_up gf i (g i)) (i + 1) (by omega) (by omega) (by have h := k_win_1 (d := 0) (s0 := 0) hgf (x := g i) (by rw [Nat.zero_add]); rw [Nat.zero_add] at h; exact h) _ _ hP hD hS _ (lv_sub hl [0, 1] rfl)
  exact lp2 _ ga 0 (Nat.lt_succ_self _) (by omega) (by exact (k_win_0 _ _ _ _).symm) _ _ hP hD hS _ (lv_sub hl [0, 1] rfl)
set_option maxHeartbeats 4000000 in
set_option maxRecDepth 100000 in
theorem c7_putBack (l : Launch) (D : va_G) (tc : Nat → ClassId) (zb : Nat) (b b1 b2 : Nat) (o : Nat → Value) (g ga : Nat → Nat)  : IP l yX7_putBack wsX7_putBack 0 0 D tc zb [(b, .inr (6, [o 0, .ref b1, .ref b2, o 3, o 4, o 5, o 6, o 7, o 8])), (b1, .inl (tc 0, 60, .inl ((fun k => nI (g k))))), (b2, .inl (tc 0, 60, .inl ((fun k => nI (ga k)))))] [(b, .inr (6, [o 0, .ref b1, .ref b2, o 3, o 4, o 5, o 6, o 7, o 8])), (b1, .inl (tc 0, 60, .inl ((fun k => nI ((k_win ga g 0 0 60) k))))), (b2, .inl (tc 0, 60, .inl ((fun k => nI (ga k)))))] [.ref b] none := by
  refine IP.of (cc := cX7_putBack) (maxL := 2) (ret := none) (by decide) rfl (Nat.le_of_ble_eq_true rfl) ?_
  intro p e s m args below meth c A hx hb hr hml hlk hts hown hM hS hP hD ls hl
  have hl : lv_has ls 2 [(0, .ref b)] := hl
  have hinX7 : ∀ w ∈ u_ws RX7 TX7 9, w ∈ wsX7_putBack := by decide +kernel
  refine lv_iconst (v := (nI 0)) hx hb dX7_putBack_0 (by decide) ?_
  refine lv_istore_n (lv' := [(1, .int (nI 0)), (0, .ref b)]) hx hb dX7_putBack_1 rfl hl (by decide) rfl (fun ls hl => ?_)
  have lp2 : ∀ (n9 : Nat) (gf : Nat → Nat) (i : Nat), (60 - i) < n9 → (i ≤ 60) → (gf = k_win ga g 0 0 i) → ∀ (H : Heap) (locs : List Loc), va_P D vwCl [(b, .inr (6, [o 0, .ref b1, .ref b2, o 3, o 4, o 5, o 6, o 7, o 8])), (b1, .inl (tc 0, 60, .inl ((fun k => nI (gf k))))), (b2, .inl (tc 0, 60, .inl ((fun k => nI (ga k)))))] H → va_D A [(b, .inr (6, [o 0, .ref b1, .ref b2, o 3, o 4, o 5, o 6, o 7, o 8])), (b1, .inl (tc 0, 60, .inl ((fun k => nI (gf k))))), (b2, .inl (tc 0, 60, .inl ((fun k => nI (ga k)))))] → va_S A s.heap H locs → ∀ ls : Array Slot, lv_has ls 2 [(1, .int (nI i)), (0, .ref b)] → W p l e ({ frames := 0, cells := 0, slots := 0, locals := 0 } : Room) s m args below meth c H locs 0 0 (MQ below (ipQ D A [(b, .inr (6, [o 0, .ref b1, .ref b2, o 3, o 4, o 5, o 6, o 7, o 8])), (b1, .inl (tc 0, 60, .inl ((fun k => nI ((k_win ga g 0 0 60) k))))), (b2, .inl (tc 0, 60, .inl ((fun k => nI (ga k)))))] none) args s 0 0 A) (F0 m 2 ls []) := by
    intro n9
    induction n9 with
    | zero => intro gf i hmu; exact absurd hmu (Nat.not_lt_zero _)
    | succ n9 ih2 =>
      intro gf i hmu hi hgf H locs hP hD hS ls hl
      refine lv_iload_n hx hb dX7_putBack_2 rfl (lv_at hl 0 rfl) ?_
      refine lv_bipush (v := (nI 60)) hx hb dX7_putBack_3 (by decide) ?_
      refine ln_icmp_ge (tgt := 26) hx hb dX7_putBack_5 (by decide) (by omega) (by decide) (fun h1 => ?_) (fun h1 => ?_)
      · exact ip_vret hx hb hr hlk dX7_putBack_26 hS (by (have ei : i = 60 := by omega); rw [show k_win ga g 0 0 60 = gf from by rw [hgf, ei]]; exact hP)
      · refine lv_aload_n hx hb dX7_putBack_8 rfl (lv_at hl 1 rfl) ?_
        refine va_get (D := D) (ci := 6) (v := .ref b1) (C := RX7) (T := TX7) (N := 9) hx hb hts hinX7 hown hM.1 hP 0 rfl rfl 1 (by decide) (hts (.fieldLink RX7 7 "TripleWaysModel" "s" "[I") (by decide +kernel)) (fun _ h9 => h9) rfl dX7_putBack_9 ?_
        refine lv_iload_n hx hb dX7_putBack_12 rfl (lv_at hl 0 rfl) ?_
        refine lv_aload_n hx hb dX7_putBack_13 rfl (lv_at hl 1 rfl) ?_
        refine va_get (D := D) (ci := 6) (v := .ref b2) (C := RX7) (T := TX7) (N := 9) hx hb hts hinX7 hown hM.1 hP 0 rfl rfl 2 (by decide) (hts (.fieldLink RX7 13 "TripleWaysModel" "aside" "[I") (by decide +kernel)) (fun _ h9 => h9) rfl dX7_putBack_14 ?_
        refine lv_iload_n hx hb dX7_putBack_17 rfl (lv_at hl 0 rfl) ?_
        refine ln_iald hx hb hM.1 hP 2 0 rfl rfl dX7_putBack_18 (by decide) (by omega) (rfl) ?_
        refine ln_iastN hx hb hM.1 hP hD hS 1 0 rfl rfl dX7_putBack_19 (by decide) (by omega) (fun H locs hP hD hS => ?_)
        have hP : va_P D vwCl [(b, .inr (6, [o 0, .ref b1, .ref b2, o 3, o 4, o 5, o 6, o 7, o 8])), (b1, .inl (tc 0, 60, .inl ((fun k => nI (k_up gf i (ga i) k))))), (b2, .inl (tc 0, 60, .inl ((fun k => nI (ga k)))))] H := hP
        have hD : va_D A [(b, .inr (6, [o 0, .ref b1, .ref b2, o 3, o 4, o 5, o 6, o 7, o 8])), (b1, .inl (tc 0, 60, .inl ((fun k => nI (k_up gf i (ga i) k))))), (b2, .inl (tc 0, 60, .inl ((fun k => nI (ga k)))))] := hD
        refine lv_iinc (v := (nI (i + 1))) (lv' := [(1, .int (nI (i + 1))), (0, .ref b)]) hx hb dX7_putBack_20 hl (k := 0) rfl (nI_add i 1) (by decide) rfl (fun ls hl => ?_)
        refine lv_goto (tgt := 2) hx hb dX7_putBack_23 (by decide) ?_
        exact ih2 (k_up gf i (ga i)) (i + 1) (by omega) (by omega) (by have h := k_win_1 (d := 0) (s0 := 0) hgf (x := ga i) (by rw [Nat.zero_add]); rw [Nat.zero_add] at h; exact h) _ _ hP hD hS _ (lv_sub hl [0, 1] rfl)
  exact lp2 _ g 0 (Nat.lt_succ_self _) (by omega) (by exact (k_win_0 _ _ _ _).symm) _ _ hP hD hS _ (lv_sub hl [0, 1] rfl)
set_option maxHeartbeats 4000000 in
set_option maxRecDepth 100000 in
theorem c7_faultQ (l : Launch) (D : va_G) (tc : Nat → ClassId) (zb : Nat) (b b6 : Nat) (o : Nat → Value) (u : Nat → Nat) (ln : Nat) (hln : ln ≤ 100) (hu : ∀ k, u k < 256) : RO l yX7_faultOf wsX7_faultOf 1 25 D tc zb [(b, .inr (6, [o 0, o 1, o 2, o 3, o 4, o 5, o 6, .ref b6, .int (nI ln)])), (b6, .inl (tc 2, 100, .inl ((fun k => byI (u k)))))] [.ref b, .int (nI 1)] (.int (oI (k_fq u ln))) := by
  refine RO.of (cc := cX7_faultOf) (maxL := 5) (ret := (some .int)) (by decide) rfl (Nat.le_of_ble_eq_true rfl) ?_
  intro p e s m args below meth c hx hb hr hml hlk hts hown hM hS hP ls hl
  have hl : lv_has ls 5 [(0, .ref b), (1, .int (nI 1))] := hl
  have hinX7 : ∀ w ∈ u_ws RX7 TX7 9, w ∈ wsX7_faultOf := by decide +kernel
  refine lv_iconst (v := (nI 0)) hx hb dX7_faultOf_0 (by decide) ?_
  refine lv_istore_n (lv' := [(2, .int (nI 0)), (0, .ref b), (1, .int (nI 1))]) hx hb dX7_faultOf_1 rfl hl (by decide) rfl (fun ls hl => ?_)
  have lp2 : ∀ (n9 : Nat) (i : Nat), (ln - i) < n9 → (i ≤ ln) → (k_fq0 u i = none) → ∀ ls : Array Slot, lv_has ls 5 [(2, .int (nI i)), (0, .ref b), (1, .int (nI 1))] → W p l e ({ frames := 1, cells := 0, slots := 0, locals := 25 } : Room) s m args below meth c s.heap [] 0 0 (MQ below (roQ (.int (oI (k_fq u ln)))) args s 0 0 (fun _ => False)) (F0 m 2 ls []) := by
    intro n9
    induction n9 with
    | zero => intro i hmu; exact absurd hmu (Nat.not_lt_zero _)
    | succ n9 ih2 =>
      intro i hmu hi hv ls hl
      have hui := hu i
      refine lv_iload_n hx hb dX7_faultOf_2 rfl (lv_at hl 0 rfl) ?_
      refine lv_aload_n hx hb dX7_faultOf_3 rfl (lv_at hl 1 rfl) ?_
      refine va_get (D := D) (ci := 6) (v := .int (nI ln)) (C := RX7) (T := TX7) (N := 9) hx hb hts hinX7 hown hM.1 hP 0 rfl rfl 8 (by decide) (hts (.fieldLink RX7 86 "TripleWaysModel" "length" "I") (by decide +kernel)) (fun _ h9 => h9) rfl dX7_faultOf_4 ?_
      refine ln_icmp_ge (tgt := 101) hx hb dX7_faultOf_7 (by decide) (by omega) (by omega) (fun h1 => ?_) (fun h1 => ?_)
      · refine lv_iload_n hx hb dX7_faultOf_101 rfl (lv_at hl 2 rfl) ?_
        refine lv_if_eq (tgt := 124) hx hb dX7_faultOf_102 (by decide) (fun h9 => False.elim (by revert h9; decide)) (fun _ => ?_)
        refine lv_aload_n hx hb dX7_faultOf_105 rfl (lv_at hl 1 rfl) ?_
        refine va_get (D := D) (ci := 6) (v := .int (nI ln)) (C := RX7) (T := TX7) (N := 9) hx hb hts hinX7 hown hM.1 hP 0 rfl rfl 8 (by decide) (hts (.fieldLink RX7 86 "TripleWaysModel" "length" "I") (by decide +kernel)) (fun _ h9 => h9) rfl dX7_faultOf_106 ?_
        refine lv_iconst (v := (nI 3)) hx hb dX7_faultOf_109 (by decide) ?_
        refine ln_icmp_ne (tgt := 117) hx hb dX7_faultOf_110 (by decide) (by omega) (by decide) (fun h2 => ?_) (fun h2 => ?_)
        · refine lv_aload_n hx hb dX7_faultOf_117 rfl (lv_at hl 1 rfl) ?_
          refine va_get (D := D) (ci := 6) (v := .int (nI ln)) (C := RX7) (T := TX7) (N := 9) hx hb hts hinX7 hown hM.1 hP 0 rfl rfl 8 (by decide) (hts (.fieldLink RX7 86 "TripleWaysModel" "length" "I") (by decide +kernel)) (fun _ h9 => h9) rfl dX7_faultOf_118 ?_
          refine lv_goto (tgt := 142) hx hb dX7_faultOf_121 (by decide) ?_
          exact ro_iret hx hb hr hlk dX7_faultOf_142 (show oI (some ln) = _ from congrArg oI (by (have ei : i = ln := by omega); rw [k_fq_end (show k_fq0 u ln = none by rw [← ei]; exact hv)]; first | exact (if_pos (by assumption)).symm | exact (if_neg (by assumption)).symm))
        · refine lv_iconst (v := (-1)) hx hb dX7_faultOf_113 (by decide) ?_
          refine lv_goto (tgt := 142) hx hb dX7_faultOf_114 (by decide) ?_
          exact ro_iret hx hb hr hlk dX7_faultOf_142 (show oI none = _ from congrArg oI (by (have ei : i = ln := by omega); rw [k_fq_end (show k_fq0 u ln = none by rw [← ei]; exact hv)]; first | exact (if_pos (by assumption)).symm | exact (if_neg (by assumption)).symm))
      · refine lv_aload_n hx hb dX7_faultOf_10 rfl (lv_at hl 1 rfl) ?_
        refine va_get (D := D) (ci := 6) (v := .ref b6) (C := RX7) (T := TX7) (N := 9) hx hb hts hinX7 hown hM.1 hP 0 rfl rfl 7 (by decide) (hts (.fieldLink RX7 26 "TripleWaysModel" "text" "[B") (by decide +kernel)) (fun _ h9 => h9) rfl dX7_faultOf_11 ?_
        refine lv_iload_n hx hb dX7_faultOf_14 rfl (lv_at hl 0 rfl) ?_
        refine ln_bald hx hb hM.1 hP 1 2 rfl rfl dX7_faultOf_15 (by decide) (by omega) (rfl) ?_
        refine lv_istore_n (lv' := [(3, .int (byI (u i))), (2, .int (nI i)), (0, .ref b), (1, .int (nI 1))]) hx hb dX7_faultOf_16 rfl hl (by decide) rfl (fun ls hl => ?_)
        refine lv_iload_n hx hb dX7_faultOf_17 rfl (lv_at hl 3 rfl) ?_
        refine lv_if_eq (tgt := 54) hx hb dX7_faultOf_18 (by decide) (fun h9 => False.elim (by revert h9; decide)) (fun _ => ?_)
        refine lv_iload_n hx hb dX7_faultOf_21 rfl (lv_at hl 1 rfl) ?_
        refine lv_iconst (v := (nI 3)) hx hb dX7_faultOf_22 (by decide) ?_
        refine ln_icmp_ge (tgt := 50) hx hb dX7_faultOf_23 (by decide) (by omega) (by decide) (fun h3 => ?_) (fun h3 => ?_)
        · refine lv_iconst (v := (nI 0)) hx hb dX7_faultOf_50 (by decide) ?_
          refine lv_goto (tgt := 86) hx hb dX7_faultOf_51 (by decide) ?_
          refine lv_istore (lv' := [(4, .int (nI 0)), (3, .int (byI (u i))), (2, .int (nI i)), (0, .ref b), (1, .int (nI 1))]) hx hb dX7_faultOf_86 hl (by decide) rfl (fun ls hl => ?_)
          refine lv_iload hx hb dX7_faultOf_88 (lv_at hl 0 rfl) ?_
          refine lv_if_ne (tgt := 95) hx hb dX7_faultOf_90 (by decide) (fun h9 => False.elim (by revert h9; decide)) (fun _ => ?_)
          refine lv_iload_n hx hb dX7_faultOf_93 rfl (lv_at hl 2 rfl) ?_
          exact ro_iret hx hb hr hlk dX7_faultOf_94 (show oI (some i) = _ from congrArg oI (by exact (k_fq_hit hv (by omega) (fun h9 => by first | omega | simp_all)).symm))
        · refine lv_iload_n hx hb dX7_faultOf_26 rfl (lv_at hl 0 rfl) ?_
          refine lv_i2l (v := ((byI (u i))).toInt64) hx hb dX7_faultOf_27 rfl ?_
          refine lv_ldc2 (v := (48 : Int64)) hx hb hown (hts (.constantLong RX7 93 (48)) (by decide +kernel)) dX7_faultOf_28 ?_
          refine lv_ldc2 (v := (57 : Int64)) hx hb hown (hts (.constantLong RX7 95 (57)) (by decide +kernel)) dX7_faultOf_31 ?_
          refine ro_S (n := 3) ⟨hx, hb, hml, hown, hts⟩ hM hS hP (c7_in_by l D tc zb (u i) (by first | omega | exact hu _)) gX7_faultOf_X7_in rfl (by decide +kernel) ⟨Nat.le_of_ble_eq_true rfl, Nat.le_of_ble_eq_true rfl⟩ [] rfl rfl hl.1 rfl (Nat.le_of_ble_eq_true rfl) dX7_faultOf_34 ⟨Nat.le_refl _, Nat.le_refl _⟩ ?_
          refine ln_if_neB (tgt := 46) hx hb dX7_faultOf_37 (by decide) (fun h4 => ?_) (fun h4 => ?_)
          · have h4 := of_decide_eq_true h4
            refine lv_iconst (v := (nI 1)) hx hb dX7_faultOf_46 (by decide) ?_
            refine lv_goto (tgt := 86) hx hb dX7_faultOf_47 (by decide) ?_
            refine lv_istore (lv' := [(4, .int (nI 1)), (3, .int (byI (u i))), (2, .int (nI i)), (0, .ref b), (1, .int (nI 1))]) hx hb dX7_faultOf_86 hl (by decide) rfl (fun ls hl => ?_)
            refine lv_iload hx hb dX7_faultOf_88 (lv_at hl 0 rfl) ?_
            refine lv_if_ne (tgt := 95) hx hb dX7_faultOf_90 (by decide) (fun _ => ?_) (fun h9 => False.elim (by revert h9; decide))
            refine lv_iinc (v := (nI (i + 1))) (lv' := [(2, .int (nI (i + 1))), (4, .int (nI 1)), (3, .int (byI (u i))), (0, .ref b), (1, .int (nI 1))]) hx hb dX7_faultOf_95 hl (k := 2) rfl (nI_add i 1) (by decide) rfl (fun ls hl => ?_)
            refine lv_goto (tgt := 2) hx hb dX7_faultOf_98 (by decide) ?_
            exact ih2 (i + 1) (by omega) (by omega) (by exact k_fq_go hv (by first | omega | simp_all)) _ (lv_sub hl [0, 3, 4] rfl)
          · have h4 := of_decide_eq_false h4
            refine lv_iload_n hx hb dX7_faultOf_40 rfl (lv_at hl 0 rfl) ?_
            refine lv_bipush (v := (nI 42)) hx hb dX7_faultOf_41 (by decide) ?_
            refine ln_icmp_neBy (tgt := 50) hx hb dX7_faultOf_43 (by decide) (k_by_42 _ (by first | omega | exact hu _)) (fun h5 => ?_) (fun h5 => ?_)
            · refine lv_iconst (v := (nI 0)) hx hb dX7_faultOf_50 (by decide) ?_
              refine lv_goto (tgt := 86) hx hb dX7_faultOf_51 (by decide) ?_
              refine lv_istore (lv' := [(4, .int (nI 0)), (3, .int (byI (u i))), (2, .int (nI i)), (0, .ref b), (1, .int (nI 1))]) hx hb dX7_faultOf_86 hl (by decide) rfl (fun ls hl => ?_)
              refine lv_iload hx hb dX7_faultOf_88 (lv_at hl 0 rfl) ?_
              refine lv_if_ne (tgt := 95) hx hb dX7_faultOf_90 (by decide) (fun h9 => False.elim (by revert h9; decide)) (fun _ => ?_)
              refine lv_iload_n hx hb dX7_faultOf_93 rfl (lv_at hl 2 rfl) ?_
              exact ro_iret hx hb hr hlk dX7_faultOf_94 (show oI (some i) = _ from congrArg oI (by exact (k_fq_hit hv (by omega) (fun h9 => by first | omega | simp_all)).symm))
            · refine lv_iconst (v := (nI 1)) hx hb dX7_faultOf_46 (by decide) ?_
              refine lv_goto (tgt := 86) hx hb dX7_faultOf_47 (by decide) ?_
              refine lv_istore (lv' := [(4, .int (nI 1)), (3, .int (byI (u i))), (2, .int (nI i)), (0, .ref b), (1, .int (nI 1))]) hx hb dX7_faultOf_86 hl (by decide) rfl (fun ls hl => ?_)
              refine lv_iload hx hb dX7_faultOf_88 (lv_at hl 0 rfl) ?_
              refine lv_if_ne (tgt := 95) hx hb dX7_faultOf_90 (by decide) (fun _ => ?_) (fun h9 => False.elim (by revert h9; decide))
              refine lv_iinc (v := (nI (i + 1))) (lv' := [(2, .int (nI (i + 1))), (4, .int (nI 1)), (3, .int (byI (u i))), (0, .ref b), (1, .int (nI 1))]) hx hb dX7_faultOf_95 hl (k := 2) rfl (nI_add i 1) (by decide) rfl (fun ls hl => ?_)
              refine lv_goto (tgt := 2) hx hb dX7_faultOf_98 (by decide) ?_
              exact ih2 (i + 1) (by omega) (by omega) (by exact k_fq_go hv (by first | omega | simp_all)) _ (lv_sub hl [0, 3, 4] rfl)
  exact lp2 _ 0 (Nat.lt_succ_self _) (by omega) (by rfl) _ (lv_sub hl [0, 1, 2] rfl)
set_option maxHeartbeats 4000000 in
set_option maxRecDepth 100000 in
theorem c7_faultT (l : Launch) (D : va_G) (tc : Nat → ClassId) (zb : Nat) (b b6 : Nat) (o : Nat → Value) (u : Nat → Nat) (ln : Nat) (hln : ln ≤ 100) (hu : ∀ k, u k < 256) : RO l yX7_faultOf wsX7_faultOf 1 25 D tc zb [(b, .inr (6, [o 0, o 1, o 2, o 3, o 4, o 5, o 6, .ref b6, .int (nI ln)])), (b6, .inl (tc 2, 100, .inl ((fun k => byI (u k)))))] [.ref b, .int (nI 0)] (.int (oI (k_ft u ln))) := by
  refine RO.of (cc := cX7_faultOf) (maxL := 5) (ret := (some .int)) (by decide) rfl (Nat.le_of_ble_eq_true rfl) ?_
  intro p e s m args below meth c hx hb hr hml hlk hts hown hM hS hP ls hl
  have hl : lv_has ls 5 [(0, .ref b), (1, .int (nI 0))] := hl
  have hinX7 : ∀ w ∈ u_ws RX7 TX7 9, w ∈ wsX7_faultOf := by decide +kernel
  refine lv_iconst (v := (nI 0)) hx hb dX7_faultOf_0 (by decide) ?_
  refine lv_istore_n (lv' := [(2, .int (nI 0)), (0, .ref b), (1, .int (nI 0))]) hx hb dX7_faultOf_1 rfl hl (by decide) rfl (fun ls hl => ?_)
  have lp2 : ∀ (n9 : Nat) (i : Nat), (ln - i) < n9 → (i ≤ ln) → (k_ft0 u i = none) → ∀ ls : Array Slot, lv_has ls 5 [(2, .int (nI i)), (0, .ref b), (1, .int (nI 0))] → W p l e ({ frames := 1, cells := 0, slots := 0, locals := 25 } : Room) s m args below meth c s.heap [] 0 0 (MQ below (roQ (.int (oI (k_ft u ln)))) args s 0 0 (fun _ => False)) (F0 m 2 ls []) := by
    intro n9
    induction n9 with
    | zero => intro i hmu; exact absurd hmu (Nat.not_lt_zero _)
    | succ n9 ih2 =>
      intro i hmu hi hv ls hl
      have hui := hu i
      refine lv_iload_n hx hb dX7_faultOf_2 rfl (lv_at hl 0 rfl) ?_
      refine lv_aload_n hx hb dX7_faultOf_3 rfl (lv_at hl 1 rfl) ?_
      refine va_get (D := D) (ci := 6) (v := .int (nI ln)) (C := RX7) (T := TX7) (N := 9) hx hb hts hinX7 hown hM.1 hP 0 rfl rfl 8 (by decide) (hts (.fieldLink RX7 86 "TripleWaysModel" "length" "I") (by decide +kernel)) (fun _ h9 => h9) rfl dX7_faultOf_4 ?_
      refine ln_icmp_ge (tgt := 101) hx hb dX7_faultOf_7 (by decide) (by omega) (by omega) (fun h1 => ?_) (fun h1 => ?_)
      · refine lv_iload_n hx hb dX7_faultOf_101 rfl (lv_at hl 2 rfl) ?_
        refine lv_if_eq (tgt := 124) hx hb dX7_faultOf_102 (by decide) (fun _ => ?_) (fun h9 => False.elim (by revert h9; decide))
        refine lv_aload_n hx hb dX7_faultOf_124 rfl (lv_at hl 1 rfl) ?_
        refine va_get (D := D) (ci := 6) (v := .int (nI ln)) (C := RX7) (T := TX7) (N := 9) hx hb hts hinX7 hown hM.1 hP 0 rfl rfl 8 (by decide) (hts (.fieldLink RX7 86 "TripleWaysModel" "length" "I") (by decide +kernel)) (fun _ h9 => h9) rfl dX7_faultOf_125 ?_
        refine lv_iconst (v := (nI 4)) hx hb dX7_faultOf_128 (by decide) ?_
        refine ln_irem hx hb dX7_faultOf_129 (by omega) (by decide) (by decide) ?_
        refine lv_iconst (v := (nI 3)) hx hb dX7_faultOf_130 (by decide) ?_
        refine ln_icmp_ne (tgt := 138) hx hb dX7_faultOf_131 (by decide) (by omega) (by decide) (fun h2 => ?_) (fun h2 => ?_)
        · refine lv_aload_n hx hb dX7_faultOf_138 rfl (lv_at hl 1 rfl) ?_
          refine va_get (D := D) (ci := 6) (v := .int (nI ln)) (C := RX7) (T := TX7) (N := 9) hx hb hts hinX7 hown hM.1 hP 0 rfl rfl 8 (by decide) (hts (.fieldLink RX7 86 "TripleWaysModel" "length" "I") (by decide +kernel)) (fun _ h9 => h9) rfl dX7_faultOf_139 ?_
          exact ro_iret hx hb hr hlk dX7_faultOf_142 (show oI (some ln) = _ from congrArg oI (by (have ei : i = ln := by omega); rw [k_ft_end (show k_ft0 u ln = none by rw [← ei]; exact hv)]; first | exact (if_pos (by assumption)).symm | exact (if_neg (by assumption)).symm))
        · refine lv_iconst (v := (-1)) hx hb dX7_faultOf_134 (by decide) ?_
          refine lv_goto (tgt := 142) hx hb dX7_faultOf_135 (by decide) ?_
          exact ro_iret hx hb hr hlk dX7_faultOf_142 (show oI none = _ from congrArg oI (by (have ei : i = ln := by omega); rw [k_ft_end (show k_ft0 u ln = none by rw [← ei]; exact hv)]; first | exact (if_pos (by assumption)).symm | exact (if_neg (by assumption)).symm))
      · refine lv_aload_n hx hb dX7_faultOf_10 rfl (lv_at hl 1 rfl) ?_
        refine va_get (D := D) (ci := 6) (v := .ref b6) (C := RX7) (T := TX7) (N := 9) hx hb hts hinX7 hown hM.1 hP 0 rfl rfl 7 (by decide) (hts (.fieldLink RX7 26 "TripleWaysModel" "text" "[B") (by decide +kernel)) (fun _ h9 => h9) rfl dX7_faultOf_11 ?_
        refine lv_iload_n hx hb dX7_faultOf_14 rfl (lv_at hl 0 rfl) ?_
        refine ln_bald hx hb hM.1 hP 1 2 rfl rfl dX7_faultOf_15 (by decide) (by omega) (rfl) ?_
        refine lv_istore_n (lv' := [(3, .int (byI (u i))), (2, .int (nI i)), (0, .ref b), (1, .int (nI 0))]) hx hb dX7_faultOf_16 rfl hl (by decide) rfl (fun ls hl => ?_)
        refine lv_iload_n hx hb dX7_faultOf_17 rfl (lv_at hl 3 rfl) ?_
        refine lv_if_eq (tgt := 54) hx hb dX7_faultOf_18 (by decide) (fun _ => ?_) (fun h9 => False.elim (by revert h9; decide))
        refine lv_iload_n hx hb dX7_faultOf_54 rfl (lv_at hl 1 rfl) ?_
        refine lv_iconst (v := (nI 4)) hx hb dX7_faultOf_55 (by decide) ?_
        refine ln_irem hx hb dX7_faultOf_56 (by omega) (by decide) (by decide) ?_
        refine lv_iconst (v := (nI 3)) hx hb dX7_faultOf_57 (by decide) ?_
        refine ln_icmp_ne (tgt := 75) hx hb dX7_faultOf_58 (by decide) (by omega) (by decide) (fun h3 => ?_) (fun h3 => ?_)
        · refine lv_iload_n hx hb dX7_faultOf_75 rfl (lv_at hl 0 rfl) ?_
          refine lv_i2l (v := ((byI (u i))).toInt64) hx hb dX7_faultOf_76 rfl ?_
          refine lv_ldc2 (v := (48 : Int64)) hx hb hown (hts (.constantLong RX7 93 (48)) (by decide +kernel)) dX7_faultOf_77 ?_
          refine lv_ldc2 (v := (57 : Int64)) hx hb hown (hts (.constantLong RX7 95 (57)) (by decide +kernel)) dX7_faultOf_80 ?_
          refine ro_S (n := 3) ⟨hx, hb, hml, hown, hts⟩ hM hS hP (c7_in_by l D tc zb (u i) (by first | omega | exact hu _)) gX7_faultOf_X7_in rfl (by decide +kernel) ⟨Nat.le_of_ble_eq_true rfl, Nat.le_of_ble_eq_true rfl⟩ [] rfl rfl hl.1 rfl (Nat.le_of_ble_eq_true rfl) dX7_faultOf_83 ⟨Nat.le_refl _, Nat.le_refl _⟩ ?_
          refine lv_istore (lv' := [(4, .int (bI (decide (48 ≤ (u i) ∧ (u i) ≤ 57)))), (3, .int (byI (u i))), (2, .int (nI i)), (0, .ref b), (1, .int (nI 0))]) hx hb dX7_faultOf_86 hl (by decide) rfl (fun ls hl => ?_)
          refine lv_iload hx hb dX7_faultOf_88 (lv_at hl 0 rfl) ?_
          refine ln_if_neB (tgt := 95) hx hb dX7_faultOf_90 (by decide) (fun h4 => ?_) (fun h4 => ?_)
          · have h4 := of_decide_eq_true h4
            refine lv_iinc (v := (nI (i + 1))) (lv' := [(2, .int (nI (i + 1))), (4, .int (bI (decide (48 ≤ (u i) ∧ (u i) ≤ 57)))), (3, .int (byI (u i))), (0, .ref b), (1, .int (nI 0))]) hx hb dX7_faultOf_95 hl (k := 2) rfl (nI_add i 1) (by decide) rfl (fun ls hl => ?_)
            refine lv_goto (tgt := 2) hx hb dX7_faultOf_98 (by decide) ?_
            exact ih2 (i + 1) (by omega) (by omega) (by exact k_ft_go hv (by first | omega | simp_all)) _ (lv_sub hl [0, 3, 4] rfl)
          · have h4 := of_decide_eq_false h4
            refine lv_iload_n hx hb dX7_faultOf_93 rfl (lv_at hl 2 rfl) ?_
            exact ro_iret hx hb hr hlk dX7_faultOf_94 (show oI (some i) = _ from congrArg oI (by exact (k_ft_hit hv (by omega) (fun h9 => by first | omega | simp_all)).symm))
        · refine lv_iload_n hx hb dX7_faultOf_61 rfl (lv_at hl 0 rfl) ?_
          refine lv_bipush (v := (nI 44)) hx hb dX7_faultOf_62 (by decide) ?_
          refine ln_icmp_neBy (tgt := 71) hx hb dX7_faultOf_64 (by decide) (k_by_44 _ (by first | omega | exact hu _)) (fun h5 => ?_) (fun h5 => ?_)
          · refine lv_iconst (v := (nI 0)) hx hb dX7_faultOf_71 (by decide) ?_
            refine lv_goto (tgt := 86) hx hb dX7_faultOf_72 (by decide) ?_
            refine lv_istore (lv' := [(4, .int (nI 0)), (3, .int (byI (u i))), (2, .int (nI i)), (0, .ref b), (1, .int (nI 0))]) hx hb dX7_faultOf_86 hl (by decide) rfl (fun ls hl => ?_)
            refine lv_iload hx hb dX7_faultOf_88 (lv_at hl 0 rfl) ?_
            refine lv_if_ne (tgt := 95) hx hb dX7_faultOf_90 (by decide) (fun h9 => False.elim (by revert h9; decide)) (fun _ => ?_)
            refine lv_iload_n hx hb dX7_faultOf_93 rfl (lv_at hl 2 rfl) ?_
            exact ro_iret hx hb hr hlk dX7_faultOf_94 (show oI (some i) = _ from congrArg oI (by exact (k_ft_hit hv (by omega) (fun h9 => by first | omega | simp_all)).symm))
          · refine lv_iconst (v := (nI 1)) hx hb dX7_faultOf_67 (by decide) ?_
            refine lv_goto (tgt := 86) hx hb dX7_faultOf_68 (by decide) ?_
            refine lv_istore (lv' := [(4, .int (nI 1)), (3, .int (byI (u i))), (2, .int (nI i)), (0, .ref b), (1, .int (nI 0))]) hx hb dX7_faultOf_86 hl (by decide) rfl (fun ls hl => ?_)
            refine lv_iload hx hb dX7_faultOf_88 (lv_at hl 0 rfl) ?_
            refine lv_if_ne (tgt := 95) hx hb dX7_faultOf_90 (by decide) (fun _ => ?_) (fun h9 => False.elim (by revert h9; decide))
            refine lv_iinc (v := (nI (i + 1))) (lv' := [(2, .int (nI (i + 1))), (4, .int (nI 1)), (3, .int (byI (u i))), (0, .ref b), (1, .int (nI 0))]) hx hb dX7_faultOf_95 hl (k := 2) rfl (nI_add i 1) (by decide) rfl (fun ls hl => ?_)
            refine lv_goto (tgt := 2) hx hb dX7_faultOf_98 (by decide) ?_
            exact ih2 (i + 1) (by omega) (by omega) (by exact k_ft_go hv (by first | omega | simp_all)) _ (lv_sub hl [0, 3, 4] rfl)
  exact lp2 _ 0 (Nat.lt_succ_self _) (by omega) (by rfl) _ (lv_sub hl [0, 1, 2] rfl)
set_option maxHeartbeats 4000000 in
set_option maxRecDepth 100000 in
theorem c7_errorPosition_1 (l : Launch) (D : va_G) (tc : Nat → ClassId) (zb : Nat) (b b1 b2 b3 b4 b5 b6 : Nat) (th : Int32) (g ga sv : Nat → Nat) (n : Nat) (sl : Nat → Nat) (iz : Nat → Bool) (u : Nat → Nat) (ln : Nat) (hk : k_ok g) (hn : n ≤ 14) (hln : ln ≤ 100) (hu : ∀ k, u k < 256) : IP l yX7_errorPosition wsX7_errorPosition 2 49 D tc zb (w_md tc b b1 b2 b3 b4 b5 b6 th g ga sv n sl iz u ln) (w_md tc b b1 b2 b3 b4 b5 b6 (nI 0) g ga sv n sl iz u ln) [.ref b, .int (nI 1)] (some (.int (oI (k_fq u ln)))) := by
  refine IP.of (cc := cX7_errorPosition) (maxL := 2) (ret := (some .int)) (by decide) rfl (Nat.le_of_ble_eq_true rfl) ?_
  intro p e s m args below meth c A hx hb hr hml hlk hts hown hM hS hP hD ls hl
  have hl : lv_has ls 2 [(0, .ref b), (1, .int (nI 1))] := hl
  have hinX7 : ∀ w ∈ u_ws RX7 TX7 9, w ∈ wsX7_errorPosition := by decide +kernel
  obtain ⟨ok0, ok1, ok2, ok3, ok4, ok5, ok6⟩ := id hk
  refine lv_aload_n hx hb dX7_errorPosition_0 rfl (lv_at hl 0 rfl) ?_
  refine lv_iconst (v := (nI 0)) hx hb dX7_errorPosition_1 (by decide) ?_
  refine va_put (D := D) (ci := 6) (v := .int (nI 0)) (ty := .int) (C := RX7) (T := TX7) (N := 9) hx hb hts hinX7 tyX7 tyX7_ok nmX7 hown hM.1 hP hD hS 0 rfl rfl 0 (by decide) (hts (.fieldLink RX7 30 "TripleWaysModel" "thrown" "I") (by decide +kernel)) (fun _ h9 => h9) rfl (by decide +kernel) rfl rfl (Nat.le_of_ble_eq_true rfl) dX7_errorPosition_2 (fun H locs hP hD hS => ?_)
  have hP : va_P D vwCl [(b, .inr (6, [.int (nI 0), .ref b1, .ref b2, .ref b3, .int (nI n), .ref b4, .ref b5, .ref b6, .int (nI ln)])), (b1, .inl (tc 0, 60, .inl ((fun k => nI (g k))))), (b2, .inl (tc 0, 60, .inl ((fun k => nI (ga k))))), (b3, .inl (tc 0, 840, .inl ((fun k => nI (sv k))))), (b4, .inl (tc 0, 120, .inl ((fun k => nI (sl k))))), (b5, .inl (tc 3, 2, .inl ((fun k => bI (iz k))))), (b6, .inl (tc 2, 100, .inl ((fun k => byI (u k)))))] H := hP
  have hD : va_D A [(b, .inr (6, [.int (nI 0), .ref b1, .ref b2, .ref b3, .int (nI n), .ref b4, .ref b5, .ref b6, .int (nI ln)])), (b1, .inl (tc 0, 60, .inl ((fun k => nI (g k))))), (b2, .inl (tc 0, 60, .inl ((fun k => nI (ga k))))), (b3, .inl (tc 0, 840, .inl ((fun k => nI (sv k))))), (b4, .inl (tc 0, 120, .inl ((fun k => nI (sl k))))), (b5, .inl (tc 3, 2, .inl ((fun k => bI (iz k))))), (b6, .inl (tc 2, 100, .inl ((fun k => byI (u k)))))] := hD
  refine lv_aload_n hx hb dX7_errorPosition_5 rfl (lv_at hl 0 rfl) ?_
  refine lv_iload_n hx hb dX7_errorPosition_6 rfl (lv_at hl 1 rfl) ?_
  refine ro_V (C := RX7) (n := 1) ⟨hx, hb, hml, hown, hts⟩ hM hS hP (c7_faultQ l D tc zb b b6 (fun k9 => match k9 with | 0 => .int (nI 0) | 1 => .ref b1 | 2 => .ref b2 | 3 => .ref b3 | 4 => .int (nI n) | 5 => .ref b4 | 6 => .ref b5 | _ => .null) u ln (by first | assumption | omega) (by assumption)) gX7_errorPosition_X7_faultOf rfl (by decide +kernel) ⟨Nat.le_of_ble_eq_true rfl, Nat.le_of_ble_eq_true rfl⟩ [0, 6] rfl (va_recv hM.1 hP (ci := 6) (q0 := 0) rfl rfl) rfl hl.1 rfl (Nat.le_of_ble_eq_true rfl) dX7_errorPosition_7 ⟨Nat.le_refl _, Nat.le_refl _⟩ ?_
  exact ip_iret hx hb hr hlk dX7_errorPosition_10 hS (rfl) hP
set_option maxHeartbeats 4000000 in
set_option maxRecDepth 100000 in
theorem c7_errorPosition_0 (l : Launch) (D : va_G) (tc : Nat → ClassId) (zb : Nat) (b b1 b2 b3 b4 b5 b6 : Nat) (th : Int32) (g ga sv : Nat → Nat) (n : Nat) (sl : Nat → Nat) (iz : Nat → Bool) (u : Nat → Nat) (ln : Nat) (hk : k_ok g) (hn : n ≤ 14) (hln : ln ≤ 100) (hu : ∀ k, u k < 256) : IP l yX7_errorPosition wsX7_errorPosition 2 49 D tc zb (w_md tc b b1 b2 b3 b4 b5 b6 th g ga sv n sl iz u ln) (w_md tc b b1 b2 b3 b4 b5 b6 (nI 0) g ga sv n sl iz u ln) [.ref b, .int (nI 0)] (some (.int (oI (k_ft u ln)))) := by
  refine IP.of (cc := cX7_errorPosition) (maxL := 2) (ret := (some .int)) (by decide) rfl (Nat.le_of_ble_eq_true rfl) ?_
  intro p e s m args below meth c A hx hb hr hml hlk hts hown hM hS hP hD ls hl
  have hl : lv_has ls 2 [(0, .ref b), (1, .int (nI 0))] := hl
  have hinX7 : ∀ w ∈ u_ws RX7 TX7 9, w ∈ wsX7_errorPosition := by decide +kernel
  obtain ⟨ok0, ok1, ok2, ok3, ok4, ok5, ok6⟩ := id hk
  refine lv_aload_n hx hb dX7_errorPosition_0 rfl (lv_at hl 0 rfl) ?_
  refine lv_iconst (v := (nI 0)) hx hb dX7_errorPosition_1 (by decide) ?_
  refine va_put (D := D) (ci := 6) (v := .int (nI 0)) (ty := .int) (C := RX7) (T := TX7) (N := 9) hx hb hts hinX7 tyX7 tyX7_ok nmX7 hown hM.1 hP hD hS 0 rfl rfl 0 (by decide) (hts (.fieldLink RX7 30 "TripleWaysModel" "thrown" "I") (by decide +kernel)) (fun _ h9 => h9) rfl (by decide +kernel) rfl rfl (Nat.le_of_ble_eq_true rfl) dX7_errorPosition_2 (fun H locs hP hD hS => ?_)
  have hP : va_P D vwCl [(b, .inr (6, [.int (nI 0), .ref b1, .ref b2, .ref b3, .int (nI n), .ref b4, .ref b5, .ref b6, .int (nI ln)])), (b1, .inl (tc 0, 60, .inl ((fun k => nI (g k))))), (b2, .inl (tc 0, 60, .inl ((fun k => nI (ga k))))), (b3, .inl (tc 0, 840, .inl ((fun k => nI (sv k))))), (b4, .inl (tc 0, 120, .inl ((fun k => nI (sl k))))), (b5, .inl (tc 3, 2, .inl ((fun k => bI (iz k))))), (b6, .inl (tc 2, 100, .inl ((fun k => byI (u k)))))] H := hP
  have hD : va_D A [(b, .inr (6, [.int (nI 0), .ref b1, .ref b2, .ref b3, .int (nI n), .ref b4, .ref b5, .ref b6, .int (nI ln)])), (b1, .inl (tc 0, 60, .inl ((fun k => nI (g k))))), (b2, .inl (tc 0, 60, .inl ((fun k => nI (ga k))))), (b3, .inl (tc 0, 840, .inl ((fun k => nI (sv k))))), (b4, .inl (tc 0, 120, .inl ((fun k => nI (sl k))))), (b5, .inl (tc 3, 2, .inl ((fun k => bI (iz k))))), (b6, .inl (tc 2, 100, .inl ((fun k => byI (u k)))))] := hD
  refine lv_aload_n hx hb dX7_errorPosition_5 rfl (lv_at hl 0 rfl) ?_
  refine lv_iload_n hx hb dX7_errorPosition_6 rfl (lv_at hl 1 rfl) ?_
  refine ro_V (C := RX7) (n := 1) ⟨hx, hb, hml, hown, hts⟩ hM hS hP (c7_faultT l D tc zb b b6 (fun k9 => match k9 with | 0 => .int (nI 0) | 1 => .ref b1 | 2 => .ref b2 | 3 => .ref b3 | 4 => .int (nI n) | 5 => .ref b4 | 6 => .ref b5 | _ => .null) u ln (by first | assumption | omega) (by assumption)) gX7_errorPosition_X7_faultOf rfl (by decide +kernel) ⟨Nat.le_of_ble_eq_true rfl, Nat.le_of_ble_eq_true rfl⟩ [0, 6] rfl (va_recv hM.1 hP (ci := 6) (q0 := 0) rfl rfl) rfl hl.1 rfl (Nat.le_of_ble_eq_true rfl) dX7_errorPosition_7 ⟨Nat.le_refl _, Nat.le_refl _⟩ ?_
  exact ip_iret hx hb hr hlk dX7_errorPosition_10 hS (rfl) hP
set_option maxHeartbeats 4000000 in
set_option maxRecDepth 100000 in
theorem c7_append_ok (l : Launch) (D : va_G) (tc : Nat → ClassId) (zb : Nat) (b b1 b2 b3 b4 b5 b6 : Nat) (th : Int32) (g ga sv : Nat → Nat) (n : Nat) (sl : Nat → Nat) (iz : Nat → Bool) (u : Nat → Nat) (ln : Nat) (x : Nat) (hk : k_ok g) (hn : n ≤ 14) (hln : ln ≤ 100) (hu : ∀ k, u k < 256) (hx9 : x ≤ 255) (hl9 : ln < 100) : IP l yX7_append wsX7_append 1 25 D tc zb (w_md tc b b1 b2 b3 b4 b5 b6 th g ga sv n sl iz u ln) (w_md tc b b1 b2 b3 b4 b5 b6 (nI 0) g ga sv n sl iz ((k_up u ln x)) (ln + 1)) [.ref b, .int (nI x)] (some (.int (nI (ln + 1)))) := by
  refine IP.of (cc := cX7_append) (maxL := 2) (ret := (some .int)) (by decide) rfl (Nat.le_of_ble_eq_true rfl) ?_
  intro p e s m args below meth c A hx hb hr hml hlk hts hown hM hS hP hD ls hl
  have hl : lv_has ls 2 [(0, .ref b), (1, .int (nI x))] := hl
  have hinX7 : ∀ w ∈ u_ws RX7 TX7 9, w ∈ wsX7_append := by decide +kernel
  obtain ⟨ok0, ok1, ok2, ok3, ok4, ok5, ok6⟩ := id hk
  refine lv_aload_n hx hb dX7_append_0 rfl (lv_at hl 0 rfl) ?_
  refine lv_iload_n hx hb dX7_append_1 rfl (lv_at hl 1 rfl) ?_
  refine lv_i2l (v := ((nI x)).toInt64) hx hb dX7_append_2 rfl ?_
  refine lv_lconst (v := (0 : Int64)) hx hb dX7_append_3 rfl ?_
  refine lv_ldc2 (v := (255 : Int64)) hx hb hown (hts (.constantLong RX7 84 (255)) (by decide +kernel)) dX7_append_4 ?_
  refine ro_S (n := 3) ⟨hx, hb, hml, hown, hts⟩ hM hS hP (c7_in_ok l D tc zb x 0 255 (by omega) (by decide)) gX7_append_X7_in rfl (by decide +kernel) ⟨Nat.le_of_ble_eq_true rfl, Nat.le_of_ble_eq_true rfl⟩ [] rfl rfl hl.1 rfl (Nat.le_of_ble_eq_true rfl) dX7_append_7 ⟨Nat.le_refl _, Nat.le_refl _⟩ ?_
  refine lv_if_ne (tgt := 17) hx hb dX7_append_10 (by decide) (fun _ => ?_) (fun h9 => False.elim (by revert h9; decide))
  refine lv_aload_n hx hb dX7_append_17 rfl (lv_at hl 0 rfl) ?_
  refine va_get (D := D) (ci := 6) (v := .int (nI ln)) (C := RX7) (T := TX7) (N := 9) hx hb hts hinX7 hown hM.1 hP 0 rfl rfl 8 (by decide) (hts (.fieldLink RX7 86 "TripleWaysModel" "length" "I") (by decide +kernel)) (fun _ h9 => h9) rfl dX7_append_18 ?_
  refine lv_bipush (v := (nI 100)) hx hb dX7_append_21 (by decide) ?_
  refine ln_icmp_ne (tgt := 30) hx hb dX7_append_23 (by decide) (by omega) (by decide) (fun h1 => ?_) (fun h1 => ?_)
  · refine lv_iconst (v := (nI 0)) hx hb dX7_append_30 (by decide) ?_
    refine ip_V (C := RX7) (n := 1) (wl' := [(b, .inr (6, [.int (nI 0), .ref b1, .ref b2, .ref b3, .int (nI n), .ref b4, .ref b5, .ref b6, .int (nI ln)])), (b1, .inl (tc 0, 60, .inl ((fun k => nI (g k))))), (b2, .inl (tc 0, 60, .inl ((fun k => nI (ga k))))), (b3, .inl (tc 0, 840, .inl ((fun k => nI (sv k))))), (b4, .inl (tc 0, 120, .inl ((fun k => nI (sl k))))), (b5, .inl (tc 3, 2, .inl ((fun k => bI (iz k))))), (b6, .inl (tc 2, 100, .inl ((fun k => byI (u k)))))]) ⟨hx, hb, hml, hown, hts⟩ hM hS hP hD (c7_holds0 l D tc zb b th (fun k9 => match k9 with | 1 => .ref b1 | 2 => .ref b2 | 3 => .ref b3 | 4 => .int (nI n) | 5 => .ref b4 | 6 => .ref b5 | 7 => .ref b6 | 8 => .int (nI ln) | _ => .null)) gX7_append_X7_holds rfl (by decide +kernel) ⟨Nat.le_of_ble_eq_true rfl, Nat.le_of_ble_eq_true rfl⟩ [0] rfl rfl [(true, 0), (false, 1), (false, 2), (false, 3), (false, 4), (false, 5), (false, 6)] rfl rfl rfl (va_recv hM.1 hP (ci := 6) (q0 := 0) rfl rfl) rfl hl.1 rfl (Nat.le_of_ble_eq_true rfl) dX7_append_31 ⟨Nat.le_refl _, Nat.le_refl _⟩ (fun H locs hP hD hS => ?_)
    refine W.eq (g2 := F0 m 34 ls [.int (bI (true))]) rfl ?_
    refine lv_if_ne (tgt := 39) hx hb dX7_append_34 (by decide) (fun _ => ?_) (fun h9 => False.elim (by revert h9; decide))
    refine lv_aload_n hx hb dX7_append_39 rfl (lv_at hl 0 rfl) ?_
    refine va_get (D := D) (ci := 6) (v := .ref b6) (C := RX7) (T := TX7) (N := 9) hx hb hts hinX7 hown hM.1 hP 0 rfl rfl 7 (by decide) (hts (.fieldLink RX7 26 "TripleWaysModel" "text" "[B") (by decide +kernel)) (fun _ h9 => h9) rfl dX7_append_40 ?_
    refine lv_aload_n hx hb dX7_append_43 rfl (lv_at hl 0 rfl) ?_
    refine va_get (D := D) (ci := 6) (v := .int (nI ln)) (C := RX7) (T := TX7) (N := 9) hx hb hts hinX7 hown hM.1 hP 0 rfl rfl 8 (by decide) (hts (.fieldLink RX7 86 "TripleWaysModel" "length" "I") (by decide +kernel)) (fun _ h9 => h9) rfl dX7_append_44 ?_
    refine lv_iload_n hx hb dX7_append_47 rfl (lv_at hl 1 rfl) ?_
    refine lv_i2b (v := byI x) hx hb dX7_append_48 rfl ?_
    refine ln_bastU hx hb hM.1 hP hD hS 6 2 rfl rfl dX7_append_49 (by decide) (by omega) (fun H locs hP hD hS => ?_)
    have hP : va_P D vwCl [(b, .inr (6, [.int (nI 0), .ref b1, .ref b2, .ref b3, .int (nI n), .ref b4, .ref b5, .ref b6, .int (nI ln)])), (b1, .inl (tc 0, 60, .inl ((fun k => nI (g k))))), (b2, .inl (tc 0, 60, .inl ((fun k => nI (ga k))))), (b3, .inl (tc 0, 840, .inl ((fun k => nI (sv k))))), (b4, .inl (tc 0, 120, .inl ((fun k => nI (sl k))))), (b5, .inl (tc 3, 2, .inl ((fun k => bI (iz k))))), (b6, .inl (tc 2, 100, .inl ((fun k => byI (k_up u ln x k)))))] H := hP
    have hD : va_D A [(b, .inr (6, [.int (nI 0), .ref b1, .ref b2, .ref b3, .int (nI n), .ref b4, .ref b5, .ref b6, .int (nI ln)])), (b1, .inl (tc 0, 60, .inl ((fun k => nI (g k))))), (b2, .inl (tc 0, 60, .inl ((fun k => nI (ga k))))), (b3, .inl (tc 0, 840, .inl ((fun k => nI (sv k))))), (b4, .inl (tc 0, 120, .inl ((fun k => nI (sl k))))), (b5, .inl (tc 3, 2, .inl ((fun k => bI (iz k))))), (b6, .inl (tc 2, 100, .inl ((fun k => byI (k_up u ln x k)))))] := hD
    refine lv_aload_n hx hb dX7_append_50 rfl (lv_at hl 0 rfl) ?_
    refine lv_dup hx hb dX7_append_51 rfl ?_
    refine va_get (D := D) (ci := 6) (v := .int (nI ln)) (C := RX7) (T := TX7) (N := 9) hx hb hts hinX7 hown hM.1 hP 0 rfl rfl 8 (by decide) (hts (.fieldLink RX7 86 "TripleWaysModel" "length" "I") (by decide +kernel)) (fun _ h9 => h9) rfl dX7_append_52 ?_
    refine lv_iconst (v := (nI 1)) hx hb dX7_append_55 (by decide) ?_
    refine ln_iadd hx hb dX7_append_56 ?_
    refine va_put (D := D) (ci := 6) (v := .int (nI (ln + 1))) (ty := .int) (C := RX7) (T := TX7) (N := 9) hx hb hts hinX7 tyX7 tyX7_ok nmX7 hown hM.1 hP hD hS 0 rfl rfl 8 (by decide) (hts (.fieldLink RX7 86 "TripleWaysModel" "length" "I") (by decide +kernel)) (fun _ h9 => h9) rfl (by decide +kernel) rfl rfl (Nat.le_of_ble_eq_true rfl) dX7_append_57 (fun H locs hP hD hS => ?_)
    have hP : va_P D vwCl [(b, .inr (6, [.int (nI 0), .ref b1, .ref b2, .ref b3, .int (nI n), .ref b4, .ref b5, .ref b6, .int (nI (ln + 1))])), (b1, .inl (tc 0, 60, .inl ((fun k => nI (g k))))), (b2, .inl (tc 0, 60, .inl ((fun k => nI (ga k))))), (b3, .inl (tc 0, 840, .inl ((fun k => nI (sv k))))), (b4, .inl (tc 0, 120, .inl ((fun k => nI (sl k))))), (b5, .inl (tc 3, 2, .inl ((fun k => bI (iz k))))), (b6, .inl (tc 2, 100, .inl ((fun k => byI (k_up u ln x k)))))] H := hP
    have hD : va_D A [(b, .inr (6, [.int (nI 0), .ref b1, .ref b2, .ref b3, .int (nI n), .ref b4, .ref b5, .ref b6, .int (nI (ln + 1))])), (b1, .inl (tc 0, 60, .inl ((fun k => nI (g k))))), (b2, .inl (tc 0, 60, .inl ((fun k => nI (ga k))))), (b3, .inl (tc 0, 840, .inl ((fun k => nI (sv k))))), (b4, .inl (tc 0, 120, .inl ((fun k => nI (sl k))))), (b5, .inl (tc 3, 2, .inl ((fun k => bI (iz k))))), (b6, .inl (tc 2, 100, .inl ((fun k => byI (k_up u ln x k)))))] := hD
    refine lv_aload_n hx hb dX7_append_60 rfl (lv_at hl 0 rfl) ?_
    refine va_get (D := D) (ci := 6) (v := .int (nI (ln + 1))) (C := RX7) (T := TX7) (N := 9) hx hb hts hinX7 hown hM.1 hP 0 rfl rfl 8 (by decide) (hts (.fieldLink RX7 86 "TripleWaysModel" "length" "I") (by decide +kernel)) (fun _ h9 => h9) rfl dX7_append_61 ?_
    exact ip_iret hx hb hr hlk dX7_append_64 hS (rfl) hP
  · exfalso; omega
set_option maxHeartbeats 4000000 in
set_option maxRecDepth 100000 in
theorem c7_append_b1 (l : Launch) (D : va_G) (tc : Nat → ClassId) (zb : Nat) (b b1 b2 b3 b4 b5 b6 : Nat) (th : Int32) (g ga sv : Nat → Nat) (n : Nat) (sl : Nat → Nat) (iz : Nat → Bool) (u : Nat → Nat) (ln : Nat) (pp : Int32) (hk : k_ok g) (hn : n ≤ 14) (hln : ln ≤ 100) (hu : ∀ k, u k < 256) (hp : ¬ (nI 0 ≤ pp ∧ pp ≤ nI 255)) : IP l yX7_append wsX7_append 1 25 D tc zb (w_md tc b b1 b2 b3 b4 b5 b6 th g ga sv n sl iz u ln) (w_md tc b b1 b2 b3 b4 b5 b6 (nI 1) g ga sv n sl iz u ln) [.ref b, .int (pp)] (some (.int (nI 0))) := by
  refine IP.of (cc := cX7_append) (maxL := 2) (ret := (some .int)) (by decide) rfl (Nat.le_of_ble_eq_true rfl) ?_
  intro p e s m args below meth c A hx hb hr hml hlk hts hown hM hS hP hD ls hl
  have hl : lv_has ls 2 [(0, .ref b), (1, .int (pp))] := hl
  obtain ⟨ok0, ok1, ok2, ok3, ok4, ok5, ok6⟩ := id hk
  refine lv_aload_n hx hb dX7_append_0 rfl (lv_at hl 0 rfl) ?_
  refine lv_iload_n hx hb dX7_append_1 rfl (lv_at hl 1 rfl) ?_
  refine lv_i2l (v := ((pp)).toInt64) hx hb dX7_append_2 rfl ?_
  refine lv_lconst (v := (0 : Int64)) hx hb dX7_append_3 rfl ?_
  refine lv_ldc2 (v := (255 : Int64)) hx hb hown (hts (.constantLong RX7 84 (255)) (by decide +kernel)) dX7_append_4 ?_
  refine ro_S (n := 3) ⟨hx, hb, hml, hown, hts⟩ hM hS hP (c7_in_bad l D tc zb pp 0 255 (by assumption) (by decide) (by decide)) gX7_append_X7_in rfl (by decide +kernel) ⟨Nat.le_of_ble_eq_true rfl, Nat.le_of_ble_eq_true rfl⟩ [] rfl rfl hl.1 rfl (Nat.le_of_ble_eq_true rfl) dX7_append_7 ⟨Nat.le_refl _, Nat.le_refl _⟩ ?_
  refine lv_if_ne (tgt := 17) hx hb dX7_append_10 (by decide) (fun h9 => False.elim (by revert h9; decide)) (fun _ => ?_)
  refine lv_iconst (v := (nI 1)) hx hb dX7_append_13 (by decide) ?_
  refine lv_goto (tgt := 31) hx hb dX7_append_14 (by decide) ?_
  refine ip_V (C := RX7) (n := 1) (wl' := [(b, .inr (6, [.int (nI 1), .ref b1, .ref b2, .ref b3, .int (nI n), .ref b4, .ref b5, .ref b6, .int (nI ln)])), (b1, .inl (tc 0, 60, .inl ((fun k => nI (g k))))), (b2, .inl (tc 0, 60, .inl ((fun k => nI (ga k))))), (b3, .inl (tc 0, 840, .inl ((fun k => nI (sv k))))), (b4, .inl (tc 0, 120, .inl ((fun k => nI (sl k))))), (b5, .inl (tc 3, 2, .inl ((fun k => bI (iz k))))), (b6, .inl (tc 2, 100, .inl ((fun k => byI (u k)))))]) ⟨hx, hb, hml, hown, hts⟩ hM hS hP hD (c7_holdsP l D tc zb b th (fun k9 => match k9 with | 1 => .ref b1 | 2 => .ref b2 | 3 => .ref b3 | 4 => .int (nI n) | 5 => .ref b4 | 6 => .ref b5 | 7 => .ref b6 | 8 => .int (nI ln) | _ => .null) 1 (by omega)) gX7_append_X7_holds rfl (by decide +kernel) ⟨Nat.le_of_ble_eq_true rfl, Nat.le_of_ble_eq_true rfl⟩ [0] rfl rfl [(true, 0), (false, 1), (false, 2), (false, 3), (false, 4), (false, 5), (false, 6)] rfl rfl rfl (va_recv hM.1 hP (ci := 6) (q0 := 0) rfl rfl) rfl hl.1 rfl (Nat.le_of_ble_eq_true rfl) dX7_append_31 ⟨Nat.le_refl _, Nat.le_refl _⟩ (fun H locs hP hD hS => ?_)
  refine W.eq (g2 := F0 m 34 ls [.int (bI (false))]) rfl ?_
  refine lv_if_ne (tgt := 39) hx hb dX7_append_34 (by decide) (fun h9 => False.elim (by revert h9; decide)) (fun _ => ?_)
  refine lv_iconst (v := (nI 0)) hx hb dX7_append_37 (by decide) ?_
  exact ip_iret hx hb hr hlk dX7_append_38 hS (rfl) hP
set_option maxHeartbeats 4000000 in
set_option maxRecDepth 100000 in
theorem c7_append_b2 (l : Launch) (D : va_G) (tc : Nat → ClassId) (zb : Nat) (b b1 b2 b3 b4 b5 b6 : Nat) (th : Int32) (g ga sv : Nat → Nat) (n : Nat) (sl : Nat → Nat) (iz : Nat → Bool) (u : Nat → Nat) (ln : Nat) (x : Nat) (hk : k_ok g) (hn : n ≤ 14) (hln : ln ≤ 100) (hu : ∀ k, u k < 256) (hx9 : x ≤ 255) (hl9 : ln = 100) : IP l yX7_append wsX7_append 1 25 D tc zb (w_md tc b b1 b2 b3 b4 b5 b6 th g ga sv n sl iz u ln) (w_md tc b b1 b2 b3 b4 b5 b6 (nI 2) g ga sv n sl iz u ln) [.ref b, .int (nI x)] (some (.int (nI 0))) := by
  refine IP.of (cc := cX7_append) (maxL := 2) (ret := (some .int)) (by decide) rfl (Nat.le_of_ble_eq_true rfl) ?_
  intro p e s m args below meth c A hx hb hr hml hlk hts hown hM hS hP hD ls hl
  have hl : lv_has ls 2 [(0, .ref b), (1, .int (nI x))] := hl
  have hinX7 : ∀ w ∈ u_ws RX7 TX7 9, w ∈ wsX7_append := by decide +kernel
  obtain ⟨ok0, ok1, ok2, ok3, ok4, ok5, ok6⟩ := id hk
  refine lv_aload_n hx hb dX7_append_0 rfl (lv_at hl 0 rfl) ?_
  refine lv_iload_n hx hb dX7_append_1 rfl (lv_at hl 1 rfl) ?_
  refine lv_i2l (v := ((nI x)).toInt64) hx hb dX7_append_2 rfl ?_
  refine lv_lconst (v := (0 : Int64)) hx hb dX7_append_3 rfl ?_
  refine lv_ldc2 (v := (255 : Int64)) hx hb hown (hts (.constantLong RX7 84 (255)) (by decide +kernel)) dX7_append_4 ?_
  refine ro_S (n := 3) ⟨hx, hb, hml, hown, hts⟩ hM hS hP (c7_in_ok l D tc zb x 0 255 (by omega) (by decide)) gX7_append_X7_in rfl (by decide +kernel) ⟨Nat.le_of_ble_eq_true rfl, Nat.le_of_ble_eq_true rfl⟩ [] rfl rfl hl.1 rfl (Nat.le_of_ble_eq_true rfl) dX7_append_7 ⟨Nat.le_refl _, Nat.le_refl _⟩ ?_
  refine lv_if_ne (tgt := 17) hx hb dX7_append_10 (by decide) (fun _ => ?_) (fun h9 => False.elim (by revert h9; decide))
  refine lv_aload_n hx hb dX7_append_17 rfl (lv_at hl 0 rfl) ?_
  refine va_get (D := D) (ci := 6) (v := .int (nI ln)) (C := RX7) (T := TX7) (N := 9) hx hb hts hinX7 hown hM.1 hP 0 rfl rfl 8 (by decide) (hts (.fieldLink RX7 86 "TripleWaysModel" "length" "I") (by decide +kernel)) (fun _ h9 => h9) rfl dX7_append_18 ?_
  refine lv_bipush (v := (nI 100)) hx hb dX7_append_21 (by decide) ?_
  refine ln_icmp_ne (tgt := 30) hx hb dX7_append_23 (by decide) (by omega) (by decide) (fun h1 => ?_) (fun h1 => ?_)
  · exfalso; omega
  · refine lv_iconst (v := (nI 2)) hx hb dX7_append_26 (by decide) ?_
    refine lv_goto (tgt := 31) hx hb dX7_append_27 (by decide) ?_
    refine ip_V (C := RX7) (n := 1) (wl' := [(b, .inr (6, [.int (nI 2), .ref b1, .ref b2, .ref b3, .int (nI n), .ref b4, .ref b5, .ref b6, .int (nI ln)])), (b1, .inl (tc 0, 60, .inl ((fun k => nI (g k))))), (b2, .inl (tc 0, 60, .inl ((fun k => nI (ga k))))), (b3, .inl (tc 0, 840, .inl ((fun k => nI (sv k))))), (b4, .inl (tc 0, 120, .inl ((fun k => nI (sl k))))), (b5, .inl (tc 3, 2, .inl ((fun k => bI (iz k))))), (b6, .inl (tc 2, 100, .inl ((fun k => byI (u k)))))]) ⟨hx, hb, hml, hown, hts⟩ hM hS hP hD (c7_holdsP l D tc zb b th (fun k9 => match k9 with | 1 => .ref b1 | 2 => .ref b2 | 3 => .ref b3 | 4 => .int (nI n) | 5 => .ref b4 | 6 => .ref b5 | 7 => .ref b6 | 8 => .int (nI ln) | _ => .null) 2 (by omega)) gX7_append_X7_holds rfl (by decide +kernel) ⟨Nat.le_of_ble_eq_true rfl, Nat.le_of_ble_eq_true rfl⟩ [0] rfl rfl [(true, 0), (false, 1), (false, 2), (false, 3), (false, 4), (false, 5), (false, 6)] rfl rfl rfl (va_recv hM.1 hP (ci := 6) (q0 := 0) rfl rfl) rfl hl.1 rfl (Nat.le_of_ble_eq_true rfl) dX7_append_31 ⟨Nat.le_refl _, Nat.le_refl _⟩ (fun H locs hP hD hS => ?_)
    refine W.eq (g2 := F0 m 34 ls [.int (bI (false))]) rfl ?_
    refine lv_if_ne (tgt := 39) hx hb dX7_append_34 (by decide) (fun h9 => False.elim (by revert h9; decide)) (fun _ => ?_)
    refine lv_iconst (v := (nI 0)) hx hb dX7_append_37 (by decide) ?_
    exact ip_iret hx hb hr hlk dX7_append_38 hS (rfl) hP
set_option maxHeartbeats 4000000 in
set_option maxRecDepth 100000 in
theorem c7_clearText (l : Launch) (D : va_G) (tc : Nat → ClassId) (zb : Nat) (b b1 b2 b3 b4 b5 b6 : Nat) (th : Int32) (g ga sv : Nat → Nat) (n : Nat) (sl : Nat → Nat) (iz : Nat → Bool) (u : Nat → Nat) (ln : Nat) (hk : k_ok g) (hn : n ≤ 14) (hln : ln ≤ 100) (hu : ∀ k, u k < 256) : IP l yX7_clearText wsX7_clearText 0 0 D tc zb (w_md tc b b1 b2 b3 b4 b5 b6 th g ga sv n sl iz u ln) (w_md tc b b1 b2 b3 b4 b5 b6 (nI 0) g ga sv n sl iz u 0) [.ref b] (some (.int (nI ln))) := by
  refine IP.of (cc := cX7_clearText) (maxL := 2) (ret := (some .int)) (by decide) rfl (Nat.le_of_ble_eq_true rfl) ?_
  intro p e s m args below meth c A hx hb hr hml hlk hts hown hM hS hP hD ls hl
  have hl : lv_has ls 2 [(0, .ref b)] := hl
  have hinX7 : ∀ w ∈ u_ws RX7 TX7 9, w ∈ wsX7_clearText := by decide +kernel
  obtain ⟨ok0, ok1, ok2, ok3, ok4, ok5, ok6⟩ := id hk
  refine lv_aload_n hx hb dX7_clearText_0 rfl (lv_at hl 0 rfl) ?_
  refine lv_iconst (v := (nI 0)) hx hb dX7_clearText_1 (by decide) ?_
  refine va_put (D := D) (ci := 6) (v := .int (nI 0)) (ty := .int) (C := RX7) (T := TX7) (N := 9) hx hb hts hinX7 tyX7 tyX7_ok nmX7 hown hM.1 hP hD hS 0 rfl rfl 0 (by decide) (hts (.fieldLink RX7 30 "TripleWaysModel" "thrown" "I") (by decide +kernel)) (fun _ h9 => h9) rfl (by decide +kernel) rfl rfl (Nat.le_of_ble_eq_true rfl) dX7_clearText_2 (fun H locs hP hD hS => ?_)
  have hP : va_P D vwCl [(b, .inr (6, [.int (nI 0), .ref b1, .ref b2, .ref b3, .int (nI n), .ref b4, .ref b5, .ref b6, .int (nI ln)])), (b1, .inl (tc 0, 60, .inl ((fun k => nI (g k))))), (b2, .inl (tc 0, 60, .inl ((fun k => nI (ga k))))), (b3, .inl (tc 0, 840, .inl ((fun k => nI (sv k))))), (b4, .inl (tc 0, 120, .inl ((fun k => nI (sl k))))), (b5, .inl (tc 3, 2, .inl ((fun k => bI (iz k))))), (b6, .inl (tc 2, 100, .inl ((fun k => byI (u k)))))] H := hP
  have hD : va_D A [(b, .inr (6, [.int (nI 0), .ref b1, .ref b2, .ref b3, .int (nI n), .ref b4, .ref b5, .ref b6, .int (nI ln)])), (b1, .inl (tc 0, 60, .inl ((fun k => nI (g k))))), (b2, .inl (tc 0, 60, .inl ((fun k => nI (ga k))))), (b3, .inl (tc 0, 840, .inl ((fun k => nI (sv k))))), (b4, .inl (tc 0, 120, .inl ((fun k => nI (sl k))))), (b5, .inl (tc 3, 2, .inl ((fun k => bI (iz k))))), (b6, .inl (tc 2, 100, .inl ((fun k => byI (u k)))))] := hD
  refine lv_aload_n hx hb dX7_clearText_5 rfl (lv_at hl 0 rfl) ?_
  refine va_get (D := D) (ci := 6) (v := .int (nI ln)) (C := RX7) (T := TX7) (N := 9) hx hb hts hinX7 hown hM.1 hP 0 rfl rfl 8 (by decide) (hts (.fieldLink RX7 86 "TripleWaysModel" "length" "I") (by decide +kernel)) (fun _ h9 => h9) rfl dX7_clearText_6 ?_
  refine lv_istore_n (lv' := [(1, .int (nI ln)), (0, .ref b)]) hx hb dX7_clearText_9 rfl hl (by decide) rfl (fun ls hl => ?_)
  refine lv_aload_n hx hb dX7_clearText_10 rfl (lv_at hl 1 rfl) ?_
  refine lv_iconst (v := (nI 0)) hx hb dX7_clearText_11 (by decide) ?_
  refine va_put (D := D) (ci := 6) (v := .int (nI 0)) (ty := .int) (C := RX7) (T := TX7) (N := 9) hx hb hts hinX7 tyX7 tyX7_ok nmX7 hown hM.1 hP hD hS 0 rfl rfl 8 (by decide) (hts (.fieldLink RX7 86 "TripleWaysModel" "length" "I") (by decide +kernel)) (fun _ h9 => h9) rfl (by decide +kernel) rfl rfl (Nat.le_of_ble_eq_true rfl) dX7_clearText_12 (fun H locs hP hD hS => ?_)
  have hP : va_P D vwCl [(b, .inr (6, [.int (nI 0), .ref b1, .ref b2, .ref b3, .int (nI n), .ref b4, .ref b5, .ref b6, .int (nI 0)])), (b1, .inl (tc 0, 60, .inl ((fun k => nI (g k))))), (b2, .inl (tc 0, 60, .inl ((fun k => nI (ga k))))), (b3, .inl (tc 0, 840, .inl ((fun k => nI (sv k))))), (b4, .inl (tc 0, 120, .inl ((fun k => nI (sl k))))), (b5, .inl (tc 3, 2, .inl ((fun k => bI (iz k))))), (b6, .inl (tc 2, 100, .inl ((fun k => byI (u k)))))] H := hP
  have hD : va_D A [(b, .inr (6, [.int (nI 0), .ref b1, .ref b2, .ref b3, .int (nI n), .ref b4, .ref b5, .ref b6, .int (nI 0)])), (b1, .inl (tc 0, 60, .inl ((fun k => nI (g k))))), (b2, .inl (tc 0, 60, .inl ((fun k => nI (ga k))))), (b3, .inl (tc 0, 840, .inl ((fun k => nI (sv k))))), (b4, .inl (tc 0, 120, .inl ((fun k => nI (sl k))))), (b5, .inl (tc 3, 2, .inl ((fun k => bI (iz k))))), (b6, .inl (tc 2, 100, .inl ((fun k => byI (u k)))))] := hD
  refine lv_iload_n hx hb dX7_clearText_15 rfl (lv_at hl 0 rfl) ?_
  exact ip_iret hx hb hr hlk dX7_clearText_16 hS (rfl) hP
set_option maxHeartbeats 4000000 in
set_option maxRecDepth 100000 in
theorem c7_question_ok (l : Launch) (D : va_G) (tc : Nat → ClassId) (zb : Nat) (b b1 b2 b3 b4 b5 b6 : Nat) (th : Int32) (g ga sv : Nat → Nat) (n : Nat) (sl : Nat → Nat) (iz : Nat → Bool) (u : Nat → Nat) (ln : Nat) (hk : k_ok g) (hn : n ≤ 14) (hln : ln ≤ 100) (hu : ∀ k, u k < 256) (hf : k_fq u ln = none) : IP l yX7_question wsX7_question 2 49 D tc zb (w_md tc b b1 b2 b3 b4 b5 b6 th g ga sv n sl iz u ln) (w_md tc b b1 b2 b3 b4 b5 b6 (nI 0) g ga sv n sl iz u ln) [.ref b] (some (.int (nI (k_tq u)))) := by
  refine IP.of (cc := cX7_question) (maxL := 3) (ret := (some .int)) (by decide) rfl (Nat.le_of_ble_eq_true rfl) ?_
  intro p e s m args below meth c A hx hb hr hml hlk hts hown hM hS hP hD ls hl
  have hl : lv_has ls 3 [(0, .ref b)] := hl
  have hinX7 : ∀ w ∈ u_ws RX7 TX7 9, w ∈ wsX7_question := by decide +kernel
  obtain ⟨ok0, ok1, ok2, ok3, ok4, ok5, ok6⟩ := id hk
  have hd9 := (k_fq_none hf).2
  have hd0 := hd9 0 (by omega)
  have hd1 := hd9 1 (by omega)
  have hd2 := hd9 2 (by omega)
  refine lv_aload_n hx hb dX7_question_0 rfl (lv_at hl 0 rfl) ?_
  refine lv_aload_n hx hb dX7_question_1 rfl (lv_at hl 0 rfl) ?_
  refine lv_iconst (v := (nI 1)) hx hb dX7_question_2 (by decide) ?_
  refine ro_V (C := RX7) (n := 1) ⟨hx, hb, hml, hown, hts⟩ hM hS hP (c7_faultQ l D tc zb b b6 (fun k9 => match k9 with | 0 => .int (th) | 1 => .ref b1 | 2 => .ref b2 | 3 => .ref b3 | 4 => .int (nI n) | 5 => .ref b4 | 6 => .ref b5 | _ => .null) u ln (by first | assumption | omega) (by assumption)) gX7_question_X7_faultOf rfl (by decide +kernel) ⟨Nat.le_of_ble_eq_true rfl, Nat.le_of_ble_eq_true rfl⟩ [0, 6] rfl (va_recv hM.1 hP (ci := 6) (q0 := 0) rfl rfl) rfl hl.1 rfl (Nat.le_of_ble_eq_true rfl) dX7_question_3 ⟨Nat.le_refl _, Nat.le_refl _⟩ ?_
  refine ln_eq (x' := (-1)) (congrArg oI hf) ?_
  refine lv_iconst (v := (-1)) hx hb dX7_question_6 (by decide) ?_
  refine lv_icmp_ne (tgt := 14) hx hb dX7_question_7 (by decide) (fun h9 => False.elim (by revert h9; decide)) (fun _ => ?_)
  refine lv_iconst (v := (nI 0)) hx hb dX7_question_10 (by decide) ?_
  refine lv_goto (tgt := 15) hx hb dX7_question_11 (by decide) ?_
  refine ip_V (C := RX7) (n := 1) (wl' := [(b, .inr (6, [.int (nI 0), .ref b1, .ref b2, .ref b3, .int (nI n), .ref b4, .ref b5, .ref b6, .int (nI ln)])), (b1, .inl (tc 0, 60, .inl ((fun k => nI (g k))))), (b2, .inl (tc 0, 60, .inl ((fun k => nI (ga k))))), (b3, .inl (tc 0, 840, .inl ((fun k => nI (sv k))))), (b4, .inl (tc 0, 120, .inl ((fun k => nI (sl k))))), (b5, .inl (tc 3, 2, .inl ((fun k => bI (iz k))))), (b6, .inl (tc 2, 100, .inl ((fun k => byI (u k)))))]) ⟨hx, hb, hml, hown, hts⟩ hM hS hP hD (c7_holds0 l D tc zb b th (fun k9 => match k9 with | 1 => .ref b1 | 2 => .ref b2 | 3 => .ref b3 | 4 => .int (nI n) | 5 => .ref b4 | 6 => .ref b5 | 7 => .ref b6 | 8 => .int (nI ln) | _ => .null)) gX7_question_X7_holds rfl (by decide +kernel) ⟨Nat.le_of_ble_eq_true rfl, Nat.le_of_ble_eq_true rfl⟩ [0] rfl rfl [(true, 0), (false, 1), (false, 2), (false, 3), (false, 4), (false, 5), (false, 6)] rfl rfl rfl (va_recv hM.1 hP (ci := 6) (q0 := 0) rfl rfl) rfl hl.1 rfl (Nat.le_of_ble_eq_true rfl) dX7_question_15 ⟨Nat.le_refl _, Nat.le_refl _⟩ (fun H locs hP hD hS => ?_)
  refine W.eq (g2 := F0 m 18 ls [.int (bI (true))]) rfl ?_
  refine lv_if_ne (tgt := 23) hx hb dX7_question_18 (by decide) (fun _ => ?_) (fun h9 => False.elim (by revert h9; decide))
  refine lv_iconst (v := (nI 0)) hx hb dX7_question_23 (by decide) ?_
  refine lv_istore_n (lv' := [(1, .int (nI 0)), (0, .ref b)]) hx hb dX7_question_24 rfl hl (by decide) rfl (fun ls hl => ?_)
  refine lv_iconst (v := (nI 0)) hx hb dX7_question_25 (by decide) ?_
  refine lv_istore_n (lv' := [(2, .int (nI 0)), (1, .int (nI 0)), (0, .ref b)]) hx hb dX7_question_26 rfl hl (by decide) rfl (fun ls hl => ?_)
  refine lv_iload_n hx hb dX7_question_27 rfl (lv_at hl 0 rfl) ?_
  refine lv_iconst (v := (nI 3)) hx hb dX7_question_28 (by decide) ?_
  refine lv_icmp_ge (tgt := 69) hx hb dX7_question_29 (by decide) (fun h9 => False.elim (by revert h9; decide)) (fun _ => ?_)
  refine lv_bipush (v := (nI 11)) hx hb dX7_question_32 (by decide) ?_
  refine lv_iload_n hx hb dX7_question_34 rfl (lv_at hl 1 rfl) ?_
  refine lv_imul hx hb dX7_question_35 ?_
  refine ln_eq (x' := (nI 0)) (by decide) ?_
  refine lv_aload_n hx hb dX7_question_36 rfl (lv_at hl 2 rfl) ?_
  refine va_get (D := D) (ci := 6) (v := .ref b6) (C := RX7) (T := TX7) (N := 9) hx hb hts hinX7 hown hM.1 hP 0 rfl rfl 7 (by decide) (hts (.fieldLink RX7 26 "TripleWaysModel" "text" "[B") (by decide +kernel)) (fun _ h9 => h9) rfl dX7_question_37 ?_
  refine lv_iload_n hx hb dX7_question_40 rfl (lv_at hl 0 rfl) ?_
  refine ln_bald hx hb hM.1 hP 6 2 rfl rfl dX7_question_41 (by decide) (by omega) (rfl) ?_
  refine ln_eq (x' := nI (u 0)) (k_by_sm _ (by omega)) ?_
  refine lv_bipush (v := (nI 42)) hx hb dX7_question_42 (by decide) ?_
  refine ln_icmp_ne (tgt := 52) hx hb dX7_question_44 (by decide) (by omega) (by decide) (fun h1 => ?_) (fun h1 => ?_)
  · refine lv_aload_n hx hb dX7_question_52 rfl (lv_at hl 2 rfl) ?_
    refine va_get (D := D) (ci := 6) (v := .ref b6) (C := RX7) (T := TX7) (N := 9) hx hb hts hinX7 hown hM.1 hP 0 rfl rfl 7 (by decide) (hts (.fieldLink RX7 26 "TripleWaysModel" "text" "[B") (by decide +kernel)) (fun _ h9 => h9) rfl dX7_question_53 ?_
    refine lv_iload_n hx hb dX7_question_56 rfl (lv_at hl 0 rfl) ?_
    refine ln_bald hx hb hM.1 hP 6 2 rfl rfl dX7_question_57 (by decide) (by omega) (rfl) ?_
    refine ln_eq (x' := nI (u 0)) (k_by_sm _ (by omega)) ?_
    refine lv_bipush (v := (nI 48)) hx hb dX7_question_58 (by decide) ?_
    refine ln_isub hx hb dX7_question_60 (by omega) ?_
    refine ln_iadd hx hb dX7_question_61 ?_
    refine lv_istore_n (lv' := [(1, .int (nI (0 + ((u 0) - 48)))), (2, .int (nI 0)), (0, .ref b)]) hx hb dX7_question_62 rfl hl (by decide) rfl (fun ls hl => ?_)
    refine lv_iinc (v := (nI 1)) (lv' := [(2, .int (nI 1)), (1, .int (nI (0 + ((u 0) - 48)))), (0, .ref b)]) hx hb dX7_question_63 hl (k := 1) rfl (by decide) (by decide) rfl (fun ls hl => ?_)
    refine lv_goto (tgt := 27) hx hb dX7_question_66 (by decide) ?_
    refine lv_iload_n hx hb dX7_question_27 rfl (lv_at hl 0 rfl) ?_
    refine lv_iconst (v := (nI 3)) hx hb dX7_question_28 (by decide) ?_
    refine lv_icmp_ge (tgt := 69) hx hb dX7_question_29 (by decide) (fun h9 => False.elim (by revert h9; decide)) (fun _ => ?_)
    refine lv_bipush (v := (nI 11)) hx hb dX7_question_32 (by decide) ?_
    refine lv_iload_n hx hb dX7_question_34 rfl (lv_at hl 1 rfl) ?_
    refine ln_imul hx hb dX7_question_35 ?_
    refine lv_aload_n hx hb dX7_question_36 rfl (lv_at hl 2 rfl) ?_
    refine va_get (D := D) (ci := 6) (v := .ref b6) (C := RX7) (T := TX7) (N := 9) hx hb hts hinX7 hown hM.1 hP 0 rfl rfl 7 (by decide) (hts (.fieldLink RX7 26 "TripleWaysModel" "text" "[B") (by decide +kernel)) (fun _ h9 => h9) rfl dX7_question_37 ?_
    refine lv_iload_n hx hb dX7_question_40 rfl (lv_at hl 0 rfl) ?_
    refine ln_bald hx hb hM.1 hP 6 2 rfl rfl dX7_question_41 (by decide) (by omega) (rfl) ?_
    refine ln_eq (x' := nI (u 1)) (k_by_sm _ (by omega)) ?_
    refine lv_bipush (v := (nI 42)) hx hb dX7_question_42 (by decide) ?_
    refine ln_icmp_ne (tgt := 52) hx hb dX7_question_44 (by decide) (by omega) (by decide) (fun h2 => ?_) (fun h2 => ?_)
    · refine lv_aload_n hx hb dX7_question_52 rfl (lv_at hl 2 rfl) ?_
      refine va_get (D := D) (ci := 6) (v := .ref b6) (C := RX7) (T := TX7) (N := 9) hx hb hts hinX7 hown hM.1 hP 0 rfl rfl 7 (by decide) (hts (.fieldLink RX7 26 "TripleWaysModel" "text" "[B") (by decide +kernel)) (fun _ h9 => h9) rfl dX7_question_53 ?_
      refine lv_iload_n hx hb dX7_question_56 rfl (lv_at hl 0 rfl) ?_
      refine ln_bald hx hb hM.1 hP 6 2 rfl rfl dX7_question_57 (by decide) (by omega) (rfl) ?_
      refine ln_eq (x' := nI (u 1)) (k_by_sm _ (by omega)) ?_
      refine lv_bipush (v := (nI 48)) hx hb dX7_question_58 (by decide) ?_
      refine ln_isub hx hb dX7_question_60 (by omega) ?_
      refine ln_iadd hx hb dX7_question_61 ?_
      refine lv_istore_n (lv' := [(1, .int (nI ((11 * (0 + ((u 0) - 48))) + ((u 1) - 48)))), (2, .int (nI 1)), (0, .ref b)]) hx hb dX7_question_62 rfl hl (by decide) rfl (fun ls hl => ?_)
      refine lv_iinc (v := (nI 2)) (lv' := [(2, .int (nI 2)), (1, .int (nI ((11 * (0 + ((u 0) - 48))) + ((u 1) - 48)))), (0, .ref b)]) hx hb dX7_question_63 hl (k := 1) rfl (by decide) (by decide) rfl (fun ls hl => ?_)
      refine lv_goto (tgt := 27) hx hb dX7_question_66 (by decide) ?_
      refine lv_iload_n hx hb dX7_question_27 rfl (lv_at hl 0 rfl) ?_
      refine lv_iconst (v := (nI 3)) hx hb dX7_question_28 (by decide) ?_
      refine lv_icmp_ge (tgt := 69) hx hb dX7_question_29 (by decide) (fun h9 => False.elim (by revert h9; decide)) (fun _ => ?_)
      refine lv_bipush (v := (nI 11)) hx hb dX7_question_32 (by decide) ?_
      refine lv_iload_n hx hb dX7_question_34 rfl (lv_at hl 1 rfl) ?_
      refine ln_imul hx hb dX7_question_35 ?_
      refine lv_aload_n hx hb dX7_question_36 rfl (lv_at hl 2 rfl) ?_
      refine va_get (D := D) (ci := 6) (v := .ref b6) (C := RX7) (T := TX7) (N := 9) hx hb hts hinX7 hown hM.1 hP 0 rfl rfl 7 (by decide) (hts (.fieldLink RX7 26 "TripleWaysModel" "text" "[B") (by decide +kernel)) (fun _ h9 => h9) rfl dX7_question_37 ?_
      refine lv_iload_n hx hb dX7_question_40 rfl (lv_at hl 0 rfl) ?_
      refine ln_bald hx hb hM.1 hP 6 2 rfl rfl dX7_question_41 (by decide) (by omega) (rfl) ?_
      refine ln_eq (x' := nI (u 2)) (k_by_sm _ (by omega)) ?_
      refine lv_bipush (v := (nI 42)) hx hb dX7_question_42 (by decide) ?_
      refine ln_icmp_ne (tgt := 52) hx hb dX7_question_44 (by decide) (by omega) (by decide) (fun h3 => ?_) (fun h3 => ?_)
      · refine lv_aload_n hx hb dX7_question_52 rfl (lv_at hl 2 rfl) ?_
        refine va_get (D := D) (ci := 6) (v := .ref b6) (C := RX7) (T := TX7) (N := 9) hx hb hts hinX7 hown hM.1 hP 0 rfl rfl 7 (by decide) (hts (.fieldLink RX7 26 "TripleWaysModel" "text" "[B") (by decide +kernel)) (fun _ h9 => h9) rfl dX7_question_53 ?_
        refine lv_iload_n hx hb dX7_question_56 rfl (lv_at hl 0 rfl) ?_
        refine ln_bald hx hb hM.1 hP 6 2 rfl rfl dX7_question_57 (by decide) (by omega) (rfl) ?_
        refine ln_eq (x' := nI (u 2)) (k_by_sm _ (by omega)) ?_
        refine lv_bipush (v := (nI 48)) hx hb dX7_question_58 (by decide) ?_
        refine ln_isub hx hb dX7_question_60 (by omega) ?_
        refine ln_iadd hx hb dX7_question_61 ?_
        refine lv_istore_n (lv' := [(1, .int (nI ((11 * ((11 * (0 + ((u 0) - 48))) + ((u 1) - 48))) + ((u 2) - 48)))), (2, .int (nI 2)), (0, .ref b)]) hx hb dX7_question_62 rfl hl (by decide) rfl (fun ls hl => ?_)
        refine lv_iinc (v := (nI 3)) (lv' := [(2, .int (nI 3)), (1, .int (nI ((11 * ((11 * (0 + ((u 0) - 48))) + ((u 1) - 48))) + ((u 2) - 48)))), (0, .ref b)]) hx hb dX7_question_63 hl (k := 1) rfl (by decide) (by decide) rfl (fun ls hl => ?_)
        refine lv_goto (tgt := 27) hx hb dX7_question_66 (by decide) ?_
        refine lv_iload_n hx hb dX7_question_27 rfl (lv_at hl 0 rfl) ?_
        refine lv_iconst (v := (nI 3)) hx hb dX7_question_28 (by decide) ?_
        refine lv_icmp_ge (tgt := 69) hx hb dX7_question_29 (by decide) (fun _ => ?_) (fun h9 => False.elim (by revert h9; decide))
        refine lv_iload_n hx hb dX7_question_69 rfl (lv_at hl 1 rfl) ?_
        exact ip_iret hx hb hr hlk dX7_question_70 hS (congrArg nI (by unfold k_tq k_ch; (repeat' split) <;> omega)) hP
      · refine lv_bipush (v := (nI 10)) hx hb dX7_question_47 (by decide) ?_
        refine lv_goto (tgt := 61) hx hb dX7_question_49 (by decide) ?_
        refine ln_iadd hx hb dX7_question_61 ?_
        refine lv_istore_n (lv' := [(1, .int (nI ((11 * ((11 * (0 + ((u 0) - 48))) + ((u 1) - 48))) + 10))), (2, .int (nI 2)), (0, .ref b)]) hx hb dX7_question_62 rfl hl (by decide) rfl (fun ls hl => ?_)
        refine lv_iinc (v := (nI 3)) (lv' := [(2, .int (nI 3)), (1, .int (nI ((11 * ((11 * (0 + ((u 0) - 48))) + ((u 1) - 48))) + 10))), (0, .ref b)]) hx hb dX7_question_63 hl (k := 1) rfl (by decide) (by decide) rfl (fun ls hl => ?_)
        refine lv_goto (tgt := 27) hx hb dX7_question_66 (by decide) ?_
        refine lv_iload_n hx hb dX7_question_27 rfl (lv_at hl 0 rfl) ?_
        refine lv_iconst (v := (nI 3)) hx hb dX7_question_28 (by decide) ?_
        refine lv_icmp_ge (tgt := 69) hx hb dX7_question_29 (by decide) (fun _ => ?_) (fun h9 => False.elim (by revert h9; decide))
        refine lv_iload_n hx hb dX7_question_69 rfl (lv_at hl 1 rfl) ?_
        exact ip_iret hx hb hr hlk dX7_question_70 hS (congrArg nI (by unfold k_tq k_ch; (repeat' split) <;> omega)) hP
    · refine lv_bipush (v := (nI 10)) hx hb dX7_question_47 (by decide) ?_
      refine lv_goto (tgt := 61) hx hb dX7_question_49 (by decide) ?_
      refine ln_iadd hx hb dX7_question_61 ?_
      refine lv_istore_n (lv' := [(1, .int (nI ((11 * (0 + ((u 0) - 48))) + 10))), (2, .int (nI 1)), (0, .ref b)]) hx hb dX7_question_62 rfl hl (by decide) rfl (fun ls hl => ?_)
      refine lv_iinc (v := (nI 2)) (lv' := [(2, .int (nI 2)), (1, .int (nI ((11 * (0 + ((u 0) - 48))) + 10))), (0, .ref b)]) hx hb dX7_question_63 hl (k := 1) rfl (by decide) (by decide) rfl (fun ls hl => ?_)
      refine lv_goto (tgt := 27) hx hb dX7_question_66 (by decide) ?_
      refine lv_iload_n hx hb dX7_question_27 rfl (lv_at hl 0 rfl) ?_
      refine lv_iconst (v := (nI 3)) hx hb dX7_question_28 (by decide) ?_
      refine lv_icmp_ge (tgt := 69) hx hb dX7_question_29 (by decide) (fun h9 => False.elim (by revert h9; decide)) (fun _ => ?_)
      refine lv_bipush (v := (nI 11)) hx hb dX7_question_32 (by decide) ?_
      refine lv_iload_n hx hb dX7_question_34 rfl (lv_at hl 1 rfl) ?_
      refine ln_imul hx hb dX7_question_35 ?_
      refine lv_aload_n hx hb dX7_question_36 rfl (lv_at hl 2 rfl) ?_
      refine va_get (D := D) (ci := 6) (v := .ref b6) (C := RX7) (T := TX7) (N := 9) hx hb hts hinX7 hown hM.1 hP 0 rfl rfl 7 (by decide) (hts (.fieldLink RX7 26 "TripleWaysModel" "text" "[B") (by decide +kernel)) (fun _ h9 => h9) rfl dX7_question_37 ?_
      refine lv_iload_n hx hb dX7_question_40 rfl (lv_at hl 0 rfl) ?_
      refine ln_bald hx hb hM.1 hP 6 2 rfl rfl dX7_question_41 (by decide) (by omega) (rfl) ?_
      refine ln_eq (x' := nI (u 2)) (k_by_sm _ (by omega)) ?_
      refine lv_bipush (v := (nI 42)) hx hb dX7_question_42 (by decide) ?_
      refine ln_icmp_ne (tgt := 52) hx hb dX7_question_44 (by decide) (by omega) (by decide) (fun h4 => ?_) (fun h4 => ?_)
      · refine lv_aload_n hx hb dX7_question_52 rfl (lv_at hl 2 rfl) ?_
        refine va_get (D := D) (ci := 6) (v := .ref b6) (C := RX7) (T := TX7) (N := 9) hx hb hts hinX7 hown hM.1 hP 0 rfl rfl 7 (by decide) (hts (.fieldLink RX7 26 "TripleWaysModel" "text" "[B") (by decide +kernel)) (fun _ h9 => h9) rfl dX7_question_53 ?_
        refine lv_iload_n hx hb dX7_question_56 rfl (lv_at hl 0 rfl) ?_
        refine ln_bald hx hb hM.1 hP 6 2 rfl rfl dX7_question_57 (by decide) (by omega) (rfl) ?_
        refine ln_eq (x' := nI (u 2)) (k_by_sm _ (by omega)) ?_
        refine lv_bipush (v := (nI 48)) hx hb dX7_question_58 (by decide) ?_
        refine ln_isub hx hb dX7_question_60 (by omega) ?_
        refine ln_iadd hx hb dX7_question_61 ?_
        refine lv_istore_n (lv' := [(1, .int (nI ((11 * ((11 * (0 + ((u 0) - 48))) + 10)) + ((u 2) - 48)))), (2, .int (nI 2)), (0, .ref b)]) hx hb dX7_question_62 rfl hl (by decide) rfl (fun ls hl => ?_)
        refine lv_iinc (v := (nI 3)) (lv' := [(2, .int (nI 3)), (1, .int (nI ((11 * ((11 * (0 + ((u 0) - 48))) + 10)) + ((u 2) - 48)))), (0, .ref b)]) hx hb dX7_question_63 hl (k := 1) rfl (by decide) (by decide) rfl (fun ls hl => ?_)
        refine lv_goto (tgt := 27) hx hb dX7_question_66 (by decide) ?_
        refine lv_iload_n hx hb dX7_question_27 rfl (lv_at hl 0 rfl) ?_
        refine lv_iconst (v := (nI 3)) hx hb dX7_question_28 (by decide) ?_
        refine lv_icmp_ge (tgt := 69) hx hb dX7_question_29 (by decide) (fun _ => ?_) (fun h9 => False.elim (by revert h9; decide))
        refine lv_iload_n hx hb dX7_question_69 rfl (lv_at hl 1 rfl) ?_
        exact ip_iret hx hb hr hlk dX7_question_70 hS (congrArg nI (by unfold k_tq k_ch; (repeat' split) <;> omega)) hP
      · refine lv_bipush (v := (nI 10)) hx hb dX7_question_47 (by decide) ?_
        refine lv_goto (tgt := 61) hx hb dX7_question_49 (by decide) ?_
        refine ln_iadd hx hb dX7_question_61 ?_
        refine lv_istore_n (lv' := [(1, .int (nI ((11 * ((11 * (0 + ((u 0) - 48))) + 10)) + 10))), (2, .int (nI 2)), (0, .ref b)]) hx hb dX7_question_62 rfl hl (by decide) rfl (fun ls hl => ?_)
        refine lv_iinc (v := (nI 3)) (lv' := [(2, .int (nI 3)), (1, .int (nI ((11 * ((11 * (0 + ((u 0) - 48))) + 10)) + 10))), (0, .ref b)]) hx hb dX7_question_63 hl (k := 1) rfl (by decide) (by decide) rfl (fun ls hl => ?_)
        refine lv_goto (tgt := 27) hx hb dX7_question_66 (by decide) ?_
        refine lv_iload_n hx hb dX7_question_27 rfl (lv_at hl 0 rfl) ?_
        refine lv_iconst (v := (nI 3)) hx hb dX7_question_28 (by decide) ?_
        refine lv_icmp_ge (tgt := 69) hx hb dX7_question_29 (by decide) (fun _ => ?_) (fun h9 => False.elim (by revert h9; decide))
        refine lv_iload_n hx hb dX7_question_69 rfl (lv_at hl 1 rfl) ?_
        exact ip_iret hx hb hr hlk dX7_question_70 hS (congrArg nI (by unfold k_tq k_ch; (repeat' split) <;> omega)) hP
  · refine lv_bipush (v := (nI 10)) hx hb dX7_question_47 (by decide) ?_
    refine lv_goto (tgt := 61) hx hb dX7_question_49 (by decide) ?_
    refine lv_iadd hx hb dX7_question_61 ?_
    refine ln_eq (x' := (nI 10)) (by decide) ?_
    refine lv_istore_n (lv' := [(1, .int (nI 10)), (2, .int (nI 0)), (0, .ref b)]) hx hb dX7_question_62 rfl hl (by decide) rfl (fun ls hl => ?_)
    refine lv_iinc (v := (nI 1)) (lv' := [(2, .int (nI 1)), (1, .int (nI 10)), (0, .ref b)]) hx hb dX7_question_63 hl (k := 1) rfl (by decide) (by decide) rfl (fun ls hl => ?_)
    refine lv_goto (tgt := 27) hx hb dX7_question_66 (by decide) ?_
    refine lv_iload_n hx hb dX7_question_27 rfl (lv_at hl 0 rfl) ?_
    refine lv_iconst (v := (nI 3)) hx hb dX7_question_28 (by decide) ?_
    refine lv_icmp_ge (tgt := 69) hx hb dX7_question_29 (by decide) (fun h9 => False.elim (by revert h9; decide)) (fun _ => ?_)
    refine lv_bipush (v := (nI 11)) hx hb dX7_question_32 (by decide) ?_
    refine lv_iload_n hx hb dX7_question_34 rfl (lv_at hl 1 rfl) ?_
    refine lv_imul hx hb dX7_question_35 ?_
    refine ln_eq (x' := (nI 110)) (by decide) ?_
    refine lv_aload_n hx hb dX7_question_36 rfl (lv_at hl 2 rfl) ?_
    refine va_get (D := D) (ci := 6) (v := .ref b6) (C := RX7) (T := TX7) (N := 9) hx hb hts hinX7 hown hM.1 hP 0 rfl rfl 7 (by decide) (hts (.fieldLink RX7 26 "TripleWaysModel" "text" "[B") (by decide +kernel)) (fun _ h9 => h9) rfl dX7_question_37 ?_
    refine lv_iload_n hx hb dX7_question_40 rfl (lv_at hl 0 rfl) ?_
    refine ln_bald hx hb hM.1 hP 6 2 rfl rfl dX7_question_41 (by decide) (by omega) (rfl) ?_
    refine ln_eq (x' := nI (u 1)) (k_by_sm _ (by omega)) ?_
    refine lv_bipush (v := (nI 42)) hx hb dX7_question_42 (by decide) ?_
    refine ln_icmp_ne (tgt := 52) hx hb dX7_question_44 (by decide) (by omega) (by decide) (fun h5 => ?_) (fun h5 => ?_)
    · refine lv_aload_n hx hb dX7_question_52 rfl (lv_at hl 2 rfl) ?_
      refine va_get (D := D) (ci := 6) (v := .ref b6) (C := RX7) (T := TX7) (N := 9) hx hb hts hinX7 hown hM.1 hP 0 rfl rfl 7 (by decide) (hts (.fieldLink RX7 26 "TripleWaysModel" "text" "[B") (by decide +kernel)) (fun _ h9 => h9) rfl dX7_question_53 ?_
      refine lv_iload_n hx hb dX7_question_56 rfl (lv_at hl 0 rfl) ?_
      refine ln_bald hx hb hM.1 hP 6 2 rfl rfl dX7_question_57 (by decide) (by omega) (rfl) ?_
      refine ln_eq (x' := nI (u 1)) (k_by_sm _ (by omega)) ?_
      refine lv_bipush (v := (nI 48)) hx hb dX7_question_58 (by decide) ?_
      refine ln_isub hx hb dX7_question_60 (by omega) ?_
      refine ln_iadd hx hb dX7_question_61 ?_
      refine lv_istore_n (lv' := [(1, .int (nI (110 + ((u 1) - 48)))), (2, .int (nI 1)), (0, .ref b)]) hx hb dX7_question_62 rfl hl (by decide) rfl (fun ls hl => ?_)
      refine lv_iinc (v := (nI 2)) (lv' := [(2, .int (nI 2)), (1, .int (nI (110 + ((u 1) - 48)))), (0, .ref b)]) hx hb dX7_question_63 hl (k := 1) rfl (by decide) (by decide) rfl (fun ls hl => ?_)
      refine lv_goto (tgt := 27) hx hb dX7_question_66 (by decide) ?_
      refine lv_iload_n hx hb dX7_question_27 rfl (lv_at hl 0 rfl) ?_
      refine lv_iconst (v := (nI 3)) hx hb dX7_question_28 (by decide) ?_
      refine lv_icmp_ge (tgt := 69) hx hb dX7_question_29 (by decide) (fun h9 => False.elim (by revert h9; decide)) (fun _ => ?_)
      refine lv_bipush (v := (nI 11)) hx hb dX7_question_32 (by decide) ?_
      refine lv_iload_n hx hb dX7_question_34 rfl (lv_at hl 1 rfl) ?_
      refine ln_imul hx hb dX7_question_35 ?_
      refine lv_aload_n hx hb dX7_question_36 rfl (lv_at hl 2 rfl) ?_
      refine va_get (D := D) (ci := 6) (v := .ref b6) (C := RX7) (T := TX7) (N := 9) hx hb hts hinX7 hown hM.1 hP 0 rfl rfl 7 (by decide) (hts (.fieldLink RX7 26 "TripleWaysModel" "text" "[B") (by decide +kernel)) (fun _ h9 => h9) rfl dX7_question_37 ?_
      refine lv_iload_n hx hb dX7_question_40 rfl (lv_at hl 0 rfl) ?_
      refine ln_bald hx hb hM.1 hP 6 2 rfl rfl dX7_question_41 (by decide) (by omega) (rfl) ?_
      refine ln_eq (x' := nI (u 2)) (k_by_sm _ (by omega)) ?_
      refine lv_bipush (v := (nI 42)) hx hb dX7_question_42 (by decide) ?_
      refine ln_icmp_ne (tgt := 52) hx hb dX7_question_44 (by decide) (by omega) (by decide) (fun h6 => ?_) (fun h6 => ?_)
      · refine lv_aload_n hx hb dX7_question_52 rfl (lv_at hl 2 rfl) ?_
        refine va_get (D := D) (ci := 6) (v := .ref b6) (C := RX7) (T := TX7) (N := 9) hx hb hts hinX7 hown hM.1 hP 0 rfl rfl 7 (by decide) (hts (.fieldLink RX7 26 "TripleWaysModel" "text" "[B") (by decide +kernel)) (fun _ h9 => h9) rfl dX7_question_53 ?_
        refine lv_iload_n hx hb dX7_question_56 rfl (lv_at hl 0 rfl) ?_
        refine ln_bald hx hb hM.1 hP 6 2 rfl rfl dX7_question_57 (by decide) (by omega) (rfl) ?_
        refine ln_eq (x' := nI (u 2)) (k_by_sm _ (by omega)) ?_
        refine lv_bipush (v := (nI 48)) hx hb dX7_question_58 (by decide) ?_
        refine ln_isub hx hb dX7_question_60 (by omega) ?_
        refine ln_iadd hx hb dX7_question_61 ?_
        refine lv_istore_n (lv' := [(1, .int (nI ((11 * (110 + ((u 1) - 48))) + ((u 2) - 48)))), (2, .int (nI 2)), (0, .ref b)]) hx hb dX7_question_62 rfl hl (by decide) rfl (fun ls hl => ?_)
        refine lv_iinc (v := (nI 3)) (lv' := [(2, .int (nI 3)), (1, .int (nI ((11 * (110 + ((u 1) - 48))) + ((u 2) - 48)))), (0, .ref b)]) hx hb dX7_question_63 hl (k := 1) rfl (by decide) (by decide) rfl (fun ls hl => ?_)
        refine lv_goto (tgt := 27) hx hb dX7_question_66 (by decide) ?_
        refine lv_iload_n hx hb dX7_question_27 rfl (lv_at hl 0 rfl) ?_
        refine lv_iconst (v := (nI 3)) hx hb dX7_question_28 (by decide) ?_
        refine lv_icmp_ge (tgt := 69) hx hb dX7_question_29 (by decide) (fun _ => ?_) (fun h9 => False.elim (by revert h9; decide))
        refine lv_iload_n hx hb dX7_question_69 rfl (lv_at hl 1 rfl) ?_
        exact ip_iret hx hb hr hlk dX7_question_70 hS (congrArg nI (by unfold k_tq k_ch; (repeat' split) <;> omega)) hP
      · refine lv_bipush (v := (nI 10)) hx hb dX7_question_47 (by decide) ?_
        refine lv_goto (tgt := 61) hx hb dX7_question_49 (by decide) ?_
        refine ln_iadd hx hb dX7_question_61 ?_
        refine lv_istore_n (lv' := [(1, .int (nI ((11 * (110 + ((u 1) - 48))) + 10))), (2, .int (nI 2)), (0, .ref b)]) hx hb dX7_question_62 rfl hl (by decide) rfl (fun ls hl => ?_)
        refine lv_iinc (v := (nI 3)) (lv' := [(2, .int (nI 3)), (1, .int (nI ((11 * (110 + ((u 1) - 48))) + 10))), (0, .ref b)]) hx hb dX7_question_63 hl (k := 1) rfl (by decide) (by decide) rfl (fun ls hl => ?_)
        refine lv_goto (tgt := 27) hx hb dX7_question_66 (by decide) ?_
        refine lv_iload_n hx hb dX7_question_27 rfl (lv_at hl 0 rfl) ?_
        refine lv_iconst (v := (nI 3)) hx hb dX7_question_28 (by decide) ?_
        refine lv_icmp_ge (tgt := 69) hx hb dX7_question_29 (by decide) (fun _ => ?_) (fun h9 => False.elim (by revert h9; decide))
        refine lv_iload_n hx hb dX7_question_69 rfl (lv_at hl 1 rfl) ?_
        exact ip_iret hx hb hr hlk dX7_question_70 hS (congrArg nI (by unfold k_tq k_ch; (repeat' split) <;> omega)) hP
    · refine lv_bipush (v := (nI 10)) hx hb dX7_question_47 (by decide) ?_
      refine lv_goto (tgt := 61) hx hb dX7_question_49 (by decide) ?_
      refine lv_iadd hx hb dX7_question_61 ?_
      refine ln_eq (x' := (nI 120)) (by decide) ?_
      refine lv_istore_n (lv' := [(1, .int (nI 120)), (2, .int (nI 1)), (0, .ref b)]) hx hb dX7_question_62 rfl hl (by decide) rfl (fun ls hl => ?_)
      refine lv_iinc (v := (nI 2)) (lv' := [(2, .int (nI 2)), (1, .int (nI 120)), (0, .ref b)]) hx hb dX7_question_63 hl (k := 1) rfl (by decide) (by decide) rfl (fun ls hl => ?_)
      refine lv_goto (tgt := 27) hx hb dX7_question_66 (by decide) ?_
      refine lv_iload_n hx hb dX7_question_27 rfl (lv_at hl 0 rfl) ?_
      refine lv_iconst (v := (nI 3)) hx hb dX7_question_28 (by decide) ?_
      refine lv_icmp_ge (tgt := 69) hx hb dX7_question_29 (by decide) (fun h9 => False.elim (by revert h9; decide)) (fun _ => ?_)
      refine lv_bipush (v := (nI 11)) hx hb dX7_question_32 (by decide) ?_
      refine lv_iload_n hx hb dX7_question_34 rfl (lv_at hl 1 rfl) ?_
      refine lv_imul hx hb dX7_question_35 ?_
      refine ln_eq (x' := (nI 1320)) (by decide) ?_
      refine lv_aload_n hx hb dX7_question_36 rfl (lv_at hl 2 rfl) ?_
      refine va_get (D := D) (ci := 6) (v := .ref b6) (C := RX7) (T := TX7) (N := 9) hx hb hts hinX7 hown hM.1 hP 0 rfl rfl 7 (by decide) (hts (.fieldLink RX7 26 "TripleWaysModel" "text" "[B") (by decide +kernel)) (fun _ h9 => h9) rfl dX7_question_37 ?_
      refine lv_iload_n hx hb dX7_question_40 rfl (lv_at hl 0 rfl) ?_
      refine ln_bald hx hb hM.1 hP 6 2 rfl rfl dX7_question_41 (by decide) (by omega) (rfl) ?_
      refine ln_eq (x' := nI (u 2)) (k_by_sm _ (by omega)) ?_
      refine lv_bipush (v := (nI 42)) hx hb dX7_question_42 (by decide) ?_
      refine ln_icmp_ne (tgt := 52) hx hb dX7_question_44 (by decide) (by omega) (by decide) (fun h7 => ?_) (fun h7 => ?_)
      · refine lv_aload_n hx hb dX7_question_52 rfl (lv_at hl 2 rfl) ?_
        refine va_get (D := D) (ci := 6) (v := .ref b6) (C := RX7) (T := TX7) (N := 9) hx hb hts hinX7 hown hM.1 hP 0 rfl rfl 7 (by decide) (hts (.fieldLink RX7 26 "TripleWaysModel" "text" "[B") (by decide +kernel)) (fun _ h9 => h9) rfl dX7_question_53 ?_
        refine lv_iload_n hx hb dX7_question_56 rfl (lv_at hl 0 rfl) ?_
        refine ln_bald hx hb hM.1 hP 6 2 rfl rfl dX7_question_57 (by decide) (by omega) (rfl) ?_
        refine ln_eq (x' := nI (u 2)) (k_by_sm _ (by omega)) ?_
        refine lv_bipush (v := (nI 48)) hx hb dX7_question_58 (by decide) ?_
        refine ln_isub hx hb dX7_question_60 (by omega) ?_
        refine ln_iadd hx hb dX7_question_61 ?_
        refine lv_istore_n (lv' := [(1, .int (nI (1320 + ((u 2) - 48)))), (2, .int (nI 2)), (0, .ref b)]) hx hb dX7_question_62 rfl hl (by decide) rfl (fun ls hl => ?_)
        refine lv_iinc (v := (nI 3)) (lv' := [(2, .int (nI 3)), (1, .int (nI (1320 + ((u 2) - 48)))), (0, .ref b)]) hx hb dX7_question_63 hl (k := 1) rfl (by decide) (by decide) rfl (fun ls hl => ?_)
        refine lv_goto (tgt := 27) hx hb dX7_question_66 (by decide) ?_
        refine lv_iload_n hx hb dX7_question_27 rfl (lv_at hl 0 rfl) ?_
        refine lv_iconst (v := (nI 3)) hx hb dX7_question_28 (by decide) ?_
        refine lv_icmp_ge (tgt := 69) hx hb dX7_question_29 (by decide) (fun _ => ?_) (fun h9 => False.elim (by revert h9; decide))
        refine lv_iload_n hx hb dX7_question_69 rfl (lv_at hl 1 rfl) ?_
        exact ip_iret hx hb hr hlk dX7_question_70 hS (congrArg nI (by unfold k_tq k_ch; (repeat' split) <;> omega)) hP
      · refine lv_bipush (v := (nI 10)) hx hb dX7_question_47 (by decide) ?_
        refine lv_goto (tgt := 61) hx hb dX7_question_49 (by decide) ?_
        refine lv_iadd hx hb dX7_question_61 ?_
        refine ln_eq (x' := (nI 1330)) (by decide) ?_
        refine lv_istore_n (lv' := [(1, .int (nI 1330)), (2, .int (nI 2)), (0, .ref b)]) hx hb dX7_question_62 rfl hl (by decide) rfl (fun ls hl => ?_)
        refine lv_iinc (v := (nI 3)) (lv' := [(2, .int (nI 3)), (1, .int (nI 1330)), (0, .ref b)]) hx hb dX7_question_63 hl (k := 1) rfl (by decide) (by decide) rfl (fun ls hl => ?_)
        refine lv_goto (tgt := 27) hx hb dX7_question_66 (by decide) ?_
        refine lv_iload_n hx hb dX7_question_27 rfl (lv_at hl 0 rfl) ?_
        refine lv_iconst (v := (nI 3)) hx hb dX7_question_28 (by decide) ?_
        refine lv_icmp_ge (tgt := 69) hx hb dX7_question_29 (by decide) (fun _ => ?_) (fun h9 => False.elim (by revert h9; decide))
        refine lv_iload_n hx hb dX7_question_69 rfl (lv_at hl 1 rfl) ?_
        exact ip_iret hx hb hr hlk dX7_question_70 hS (congrArg nI (by unfold k_tq k_ch; (repeat' split) <;> omega)) hP
set_option maxHeartbeats 4000000 in
set_option maxRecDepth 100000 in
theorem c7_question_b1 (l : Launch) (D : va_G) (tc : Nat → ClassId) (zb : Nat) (b b1 b2 b3 b4 b5 b6 : Nat) (th : Int32) (g ga sv : Nat → Nat) (n : Nat) (sl : Nat → Nat) (iz : Nat → Bool) (u : Nat → Nat) (ln : Nat) (r : Nat) (hk : k_ok g) (hn : n ≤ 14) (hln : ln ≤ 100) (hu : ∀ k, u k < 256) (hf : k_fq u ln = some r) (hr : r < 2 ^ 31) : IP l yX7_question wsX7_question 2 49 D tc zb (w_md tc b b1 b2 b3 b4 b5 b6 th g ga sv n sl iz u ln) (w_md tc b b1 b2 b3 b4 b5 b6 (nI 1) g ga sv n sl iz u ln) [.ref b] (some (.int (nI 0))) := by
  refine IP.of (cc := cX7_question) (maxL := 3) (ret := (some .int)) (by decide) rfl (Nat.le_of_ble_eq_true rfl) ?_
  intro p e s m args below meth c A hx hb hr hml hlk hts hown hM hS hP hD ls hl
  have hl : lv_has ls 3 [(0, .ref b)] := hl
  obtain ⟨ok0, ok1, ok2, ok3, ok4, ok5, ok6⟩ := id hk
  refine lv_aload_n hx hb dX7_question_0 rfl (lv_at hl 0 rfl) ?_
  refine lv_aload_n hx hb dX7_question_1 rfl (lv_at hl 0 rfl) ?_
  refine lv_iconst (v := (nI 1)) hx hb dX7_question_2 (by decide) ?_
  refine ro_V (C := RX7) (n := 1) ⟨hx, hb, hml, hown, hts⟩ hM hS hP (c7_faultQ l D tc zb b b6 (fun k9 => match k9 with | 0 => .int (th) | 1 => .ref b1 | 2 => .ref b2 | 3 => .ref b3 | 4 => .int (nI n) | 5 => .ref b4 | 6 => .ref b5 | _ => .null) u ln (by first | assumption | omega) (by assumption)) gX7_question_X7_faultOf rfl (by decide +kernel) ⟨Nat.le_of_ble_eq_true rfl, Nat.le_of_ble_eq_true rfl⟩ [0, 6] rfl (va_recv hM.1 hP (ci := 6) (q0 := 0) rfl rfl) rfl hl.1 rfl (Nat.le_of_ble_eq_true rfl) dX7_question_3 ⟨Nat.le_refl _, Nat.le_refl _⟩ ?_
  refine ln_eq (x' := (nI r)) (congrArg oI hf) ?_
  refine lv_iconst (v := (-1)) hx hb dX7_question_6 (by decide) ?_
  refine ln_ne_m1 (tgt := 14) hx hb dX7_question_7 (by decide) (by omega) ?_
  refine lv_iconst (v := (nI 1)) hx hb dX7_question_14 (by decide) ?_
  refine ip_V (C := RX7) (n := 1) (wl' := [(b, .inr (6, [.int (nI 1), .ref b1, .ref b2, .ref b3, .int (nI n), .ref b4, .ref b5, .ref b6, .int (nI ln)])), (b1, .inl (tc 0, 60, .inl ((fun k => nI (g k))))), (b2, .inl (tc 0, 60, .inl ((fun k => nI (ga k))))), (b3, .inl (tc 0, 840, .inl ((fun k => nI (sv k))))), (b4, .inl (tc 0, 120, .inl ((fun k => nI (sl k))))), (b5, .inl (tc 3, 2, .inl ((fun k => bI (iz k))))), (b6, .inl (tc 2, 100, .inl ((fun k => byI (u k)))))]) ⟨hx, hb, hml, hown, hts⟩ hM hS hP hD (c7_holdsP l D tc zb b th (fun k9 => match k9 with | 1 => .ref b1 | 2 => .ref b2 | 3 => .ref b3 | 4 => .int (nI n) | 5 => .ref b4 | 6 => .ref b5 | 7 => .ref b6 | 8 => .int (nI ln) | _ => .null) 1 (by omega)) gX7_question_X7_holds rfl (by decide +kernel) ⟨Nat.le_of_ble_eq_true rfl, Nat.le_of_ble_eq_true rfl⟩ [0] rfl rfl [(true, 0), (false, 1), (false, 2), (false, 3), (false, 4), (false, 5), (false, 6)] rfl rfl rfl (va_recv hM.1 hP (ci := 6) (q0 := 0) rfl rfl) rfl hl.1 rfl (Nat.le_of_ble_eq_true rfl) dX7_question_15 ⟨Nat.le_refl _, Nat.le_refl _⟩ (fun H locs hP hD hS => ?_)
  refine W.eq (g2 := F0 m 18 ls [.int (bI (false))]) rfl ?_
  refine lv_if_ne (tgt := 23) hx hb dX7_question_18 (by decide) (fun h9 => False.elim (by revert h9; decide)) (fun _ => ?_)
  refine lv_iconst (v := (nI 0)) hx hb dX7_question_21 (by decide) ?_
  exact ip_iret hx hb hr hlk dX7_question_22 hS (rfl) hP
set_option maxHeartbeats 4000000 in
set_option maxRecDepth 100000 in
theorem c7_about_ok (l : Launch) (D : va_G) (tc : Nat → ClassId) (zb : Nat) (b b1 b2 b3 b4 b5 b6 : Nat) (th : Int32) (g ga sv : Nat → Nat) (n : Nat) (sl : Nat → Nat) (iz : Nat → Bool) (u : Nat → Nat) (ln : Nat) (x : Nat) (hk : k_ok g) (hn : n ≤ 14) (hln : ln ≤ 100) (hu : ∀ k, u k < 256) (hx9 : x ≤ 7) : IP l yX7_about wsX7_about 1 25 D tc zb (w_md tc b b1 b2 b3 b4 b5 b6 th g ga sv n sl iz u ln) (w_md tc b b1 b2 b3 b4 b5 b6 (nI 0) g ga sv n sl iz u ln) [.ref b, .int (nI x)] (some (.int (nI (k_abt g x)))) := by
  refine IP.of (cc := cX7_about) (maxL := 2) (ret := (some .int)) (by decide) rfl (Nat.le_of_ble_eq_true rfl) ?_
  intro p e s m args below meth c A hx hb hr hml hlk hts hown hM hS hP hD ls hl
  have hl : lv_has ls 2 [(0, .ref b), (1, .int (nI x))] := hl
  have hinX7 : ∀ w ∈ u_ws RX7 TX7 9, w ∈ wsX7_about := by decide +kernel
  obtain ⟨ok0, ok1, ok2, ok3, ok4, ok5, ok6⟩ := id hk
  refine lv_aload_n hx hb dX7_about_0 rfl (lv_at hl 0 rfl) ?_
  refine lv_iload_n hx hb dX7_about_1 rfl (lv_at hl 1 rfl) ?_
  refine lv_i2l (v := ((nI x)).toInt64) hx hb dX7_about_2 rfl ?_
  refine lv_lconst (v := (0 : Int64)) hx hb dX7_about_3 rfl ?_
  refine lv_ldc2 (v := (7 : Int64)) hx hb hown (hts (.constantLong RX7 101 (7)) (by decide +kernel)) dX7_about_4 ?_
  refine ro_S (n := 3) ⟨hx, hb, hml, hown, hts⟩ hM hS hP (c7_in_ok l D tc zb x 0 7 (by omega) (by decide)) gX7_about_X7_in rfl (by decide +kernel) ⟨Nat.le_of_ble_eq_true rfl, Nat.le_of_ble_eq_true rfl⟩ [] rfl rfl hl.1 rfl (Nat.le_of_ble_eq_true rfl) dX7_about_7 ⟨Nat.le_refl _, Nat.le_refl _⟩ ?_
  refine lv_if_eq (tgt := 17) hx hb dX7_about_10 (by decide) (fun h9 => False.elim (by revert h9; decide)) (fun _ => ?_)
  refine lv_iconst (v := (nI 0)) hx hb dX7_about_13 (by decide) ?_
  refine lv_goto (tgt := 18) hx hb dX7_about_14 (by decide) ?_
  refine ip_V (C := RX7) (n := 1) (wl' := [(b, .inr (6, [.int (nI 0), .ref b1, .ref b2, .ref b3, .int (nI n), .ref b4, .ref b5, .ref b6, .int (nI ln)])), (b1, .inl (tc 0, 60, .inl ((fun k => nI (g k))))), (b2, .inl (tc 0, 60, .inl ((fun k => nI (ga k))))), (b3, .inl (tc 0, 840, .inl ((fun k => nI (sv k))))), (b4, .inl (tc 0, 120, .inl ((fun k => nI (sl k))))), (b5, .inl (tc 3, 2, .inl ((fun k => bI (iz k))))), (b6, .inl (tc 2, 100, .inl ((fun k => byI (u k)))))]) ⟨hx, hb, hml, hown, hts⟩ hM hS hP hD (c7_holds0 l D tc zb b th (fun k9 => match k9 with | 1 => .ref b1 | 2 => .ref b2 | 3 => .ref b3 | 4 => .int (nI n) | 5 => .ref b4 | 6 => .ref b5 | 7 => .ref b6 | 8 => .int (nI ln) | _ => .null)) gX7_about_X7_holds rfl (by decide +kernel) ⟨Nat.le_of_ble_eq_true rfl, Nat.le_of_ble_eq_true rfl⟩ [0] rfl rfl [(true, 0), (false, 1), (false, 2), (false, 3), (false, 4), (false, 5), (false, 6)] rfl rfl rfl (va_recv hM.1 hP (ci := 6) (q0 := 0) rfl rfl) rfl hl.1 rfl (Nat.le_of_ble_eq_true rfl) dX7_about_18 ⟨Nat.le_refl _, Nat.le_refl _⟩ (fun H locs hP hD hS => ?_)
  refine W.eq (g2 := F0 m 21 ls [.int (bI (true))]) rfl ?_
  refine lv_if_ne (tgt := 26) hx hb dX7_about_21 (by decide) (fun _ => ?_) (fun h9 => False.elim (by revert h9; decide))
  refine lv_iload_n hx hb dX7_about_26 rfl (lv_at hl 1 rfl) ?_
  refine ln_if_ne (tgt := 39) hx hb dX7_about_27 (by decide) (by omega) (fun h1 => ?_) (fun h1 => ?_)
  · refine lv_iload_n hx hb dX7_about_39 rfl (lv_at hl 1 rfl) ?_
    refine lv_bipush (v := (nI 7)) hx hb dX7_about_40 (by decide) ?_
    refine ln_icmp_ne (tgt := 57) hx hb dX7_about_42 (by decide) (by omega) (by decide) (fun h2 => ?_) (fun h2 => ?_)
    · refine lv_aload_n hx hb dX7_about_57 rfl (lv_at hl 0 rfl) ?_
      refine va_get (D := D) (ci := 6) (v := .ref b1) (C := RX7) (T := TX7) (N := 9) hx hb hts hinX7 hown hM.1 hP 0 rfl rfl 1 (by decide) (hts (.fieldLink RX7 7 "TripleWaysModel" "s" "[I") (by decide +kernel)) (fun _ h9 => h9) rfl dX7_about_58 ?_
      refine lv_bipush (v := (nI 41)) hx hb dX7_about_61 (by decide) ?_
      refine lv_iload_n hx hb dX7_about_63 rfl (lv_at hl 1 rfl) ?_
      refine ln_iadd hx hb dX7_about_64 ?_
      refine lv_iconst (v := (nI 1)) hx hb dX7_about_65 (by decide) ?_
      refine ln_isub hx hb dX7_about_66 (by omega) ?_
      refine ln_iald hx hb hM.1 hP 1 0 rfl rfl dX7_about_67 (by decide) (by omega) (rfl) ?_
      exact ip_iret hx hb hr hlk dX7_about_68 hS (congrArg nI (by unfold k_abt; (repeat' split) <;> first | rfl | (exfalso; omega))) hP
    · refine lv_aload_n hx hb dX7_about_45 rfl (lv_at hl 0 rfl) ?_
      refine va_get (D := D) (ci := 6) (v := .ref b1) (C := RX7) (T := TX7) (N := 9) hx hb hts hinX7 hown hM.1 hP 0 rfl rfl 1 (by decide) (hts (.fieldLink RX7 7 "TripleWaysModel" "s" "[I") (by decide +kernel)) (fun _ h9 => h9) rfl dX7_about_46 ?_
      refine lv_iconst (v := (nI 0)) hx hb dX7_about_49 (by decide) ?_
      refine ln_iald hx hb hM.1 hP 1 0 rfl rfl dX7_about_50 (by decide) (by omega) (rfl) ?_
      refine ro_S (n := 1) ⟨hx, hb, hml, hown, hts⟩ hM hS hP (c7_look l D tc zb (g 0) (by omega)) gX7_about_X7_look rfl (by decide +kernel) ⟨Nat.le_of_ble_eq_true rfl, Nat.le_of_ble_eq_true rfl⟩ [] rfl rfl hl.1 rfl (Nat.le_of_ble_eq_true rfl) dX7_about_51 ⟨Nat.le_refl _, Nat.le_refl _⟩ ?_
      have hf3 := k_lk_le ((g 0))
      refine lv_goto (tgt := 68) hx hb dX7_about_54 (by decide) ?_
      exact ip_iret hx hb hr hlk dX7_about_68 hS (congrArg nI (by unfold k_abt; (repeat' split) <;> first | rfl | (exfalso; omega))) hP
  · refine lv_aload_n hx hb dX7_about_30 rfl (lv_at hl 0 rfl) ?_
    refine va_get (D := D) (ci := 6) (v := .ref b1) (C := RX7) (T := TX7) (N := 9) hx hb hts hinX7 hown hM.1 hP 0 rfl rfl 1 (by decide) (hts (.fieldLink RX7 7 "TripleWaysModel" "s" "[I") (by decide +kernel)) (fun _ h9 => h9) rfl dX7_about_31 ?_
    refine lv_iconst (v := (nI 0)) hx hb dX7_about_34 (by decide) ?_
    refine ln_iald hx hb hM.1 hP 1 0 rfl rfl dX7_about_35 (by decide) (by omega) (rfl) ?_
    refine lv_goto (tgt := 68) hx hb dX7_about_36 (by decide) ?_
    exact ip_iret hx hb hr hlk dX7_about_68 hS (congrArg nI (by unfold k_abt; (repeat' split) <;> first | rfl | (exfalso; omega))) hP
set_option maxHeartbeats 4000000 in
set_option maxRecDepth 100000 in
theorem c7_about_b1 (l : Launch) (D : va_G) (tc : Nat → ClassId) (zb : Nat) (b b1 b2 b3 b4 b5 b6 : Nat) (th : Int32) (g ga sv : Nat → Nat) (n : Nat) (sl : Nat → Nat) (iz : Nat → Bool) (u : Nat → Nat) (ln : Nat) (pp : Int32) (hk : k_ok g) (hn : n ≤ 14) (hln : ln ≤ 100) (hu : ∀ k, u k < 256) (hp : ¬ (nI 0 ≤ pp ∧ pp ≤ nI 7)) : IP l yX7_about wsX7_about 1 25 D tc zb (w_md tc b b1 b2 b3 b4 b5 b6 th g ga sv n sl iz u ln) (w_md tc b b1 b2 b3 b4 b5 b6 (nI 1) g ga sv n sl iz u ln) [.ref b, .int (pp)] (some (.int (nI 0))) := by
  refine IP.of (cc := cX7_about) (maxL := 2) (ret := (some .int)) (by decide) rfl (Nat.le_of_ble_eq_true rfl) ?_
  intro p e s m args below meth c A hx hb hr hml hlk hts hown hM hS hP hD ls hl
  have hl : lv_has ls 2 [(0, .ref b), (1, .int (pp))] := hl
  obtain ⟨ok0, ok1, ok2, ok3, ok4, ok5, ok6⟩ := id hk
  refine lv_aload_n hx hb dX7_about_0 rfl (lv_at hl 0 rfl) ?_
  refine lv_iload_n hx hb dX7_about_1 rfl (lv_at hl 1 rfl) ?_
  refine lv_i2l (v := ((pp)).toInt64) hx hb dX7_about_2 rfl ?_
  refine lv_lconst (v := (0 : Int64)) hx hb dX7_about_3 rfl ?_
  refine lv_ldc2 (v := (7 : Int64)) hx hb hown (hts (.constantLong RX7 101 (7)) (by decide +kernel)) dX7_about_4 ?_
  refine ro_S (n := 3) ⟨hx, hb, hml, hown, hts⟩ hM hS hP (c7_in_bad l D tc zb pp 0 7 (by assumption) (by decide) (by decide)) gX7_about_X7_in rfl (by decide +kernel) ⟨Nat.le_of_ble_eq_true rfl, Nat.le_of_ble_eq_true rfl⟩ [] rfl rfl hl.1 rfl (Nat.le_of_ble_eq_true rfl) dX7_about_7 ⟨Nat.le_refl _, Nat.le_refl _⟩ ?_
  refine lv_if_eq (tgt := 17) hx hb dX7_about_10 (by decide) (fun _ => ?_) (fun h9 => False.elim (by revert h9; decide))
  refine lv_iconst (v := (nI 1)) hx hb dX7_about_17 (by decide) ?_
  refine ip_V (C := RX7) (n := 1) (wl' := [(b, .inr (6, [.int (nI 1), .ref b1, .ref b2, .ref b3, .int (nI n), .ref b4, .ref b5, .ref b6, .int (nI ln)])), (b1, .inl (tc 0, 60, .inl ((fun k => nI (g k))))), (b2, .inl (tc 0, 60, .inl ((fun k => nI (ga k))))), (b3, .inl (tc 0, 840, .inl ((fun k => nI (sv k))))), (b4, .inl (tc 0, 120, .inl ((fun k => nI (sl k))))), (b5, .inl (tc 3, 2, .inl ((fun k => bI (iz k))))), (b6, .inl (tc 2, 100, .inl ((fun k => byI (u k)))))]) ⟨hx, hb, hml, hown, hts⟩ hM hS hP hD (c7_holdsP l D tc zb b th (fun k9 => match k9 with | 1 => .ref b1 | 2 => .ref b2 | 3 => .ref b3 | 4 => .int (nI n) | 5 => .ref b4 | 6 => .ref b5 | 7 => .ref b6 | 8 => .int (nI ln) | _ => .null) 1 (by omega)) gX7_about_X7_holds rfl (by decide +kernel) ⟨Nat.le_of_ble_eq_true rfl, Nat.le_of_ble_eq_true rfl⟩ [0] rfl rfl [(true, 0), (false, 1), (false, 2), (false, 3), (false, 4), (false, 5), (false, 6)] rfl rfl rfl (va_recv hM.1 hP (ci := 6) (q0 := 0) rfl rfl) rfl hl.1 rfl (Nat.le_of_ble_eq_true rfl) dX7_about_18 ⟨Nat.le_refl _, Nat.le_refl _⟩ (fun H locs hP hD hS => ?_)
  refine W.eq (g2 := F0 m 21 ls [.int (bI (false))]) rfl ?_
  refine lv_if_ne (tgt := 26) hx hb dX7_about_21 (by decide) (fun h9 => False.elim (by revert h9; decide)) (fun _ => ?_)
  refine lv_iconst (v := (nI 0)) hx hb dX7_about_24 (by decide) ?_
  exact ip_iret hx hb hr hlk dX7_about_25 hS (rfl) hP
set_option maxHeartbeats 4000000 in
set_option maxRecDepth 100000 in
theorem c7_triple_ok (l : Launch) (D : va_G) (tc : Nat → ClassId) (zb : Nat) (b b1 b2 b3 b4 b5 b6 : Nat) (th : Int32) (g ga sv : Nat → Nat) (n : Nat) (sl : Nat → Nat) (iz : Nat → Bool) (u : Nat → Nat) (ln : Nat) (q pl : Nat) (hk : k_ok g) (hn : n ≤ 14) (hln : ln ≤ 100) (hu : ∀ k, u k < 256) (hq : q < 6) (hpl : pl < 2 ^ 31) : IP l yX7_triple wsX7_triple 4 93 D tc zb (w_md tc b b1 b2 b3 b4 b5 b6 th g ga sv n sl iz u ln) (w_md tc b b1 b2 b3 b4 b5 b6 (nI 0) g ga sv n sl iz u ln) [.ref b, .int (nI q), .int (nI pl)] (some (.int (oI (k_aa g 1330 (some q) pl (g 0))))) := by
  refine IP.of (cc := cX7_triple) (maxL := 3) (ret := (some .int)) (by decide) rfl (Nat.le_of_ble_eq_true rfl) ?_
  intro p e s m args below meth c A hx hb hr hml hlk hts hown hM hS hP hD ls hl
  have hl : lv_has ls 3 [(0, .ref b), (1, .int (nI q)), (2, .int (nI pl))] := hl
  obtain ⟨ok0, ok1, ok2, ok3, ok4, ok5, ok6⟩ := id hk
  refine lv_aload_n hx hb dX7_triple_0 rfl (lv_at hl 0 rfl) ?_
  refine lv_iload_n hx hb dX7_triple_1 rfl (lv_at hl 1 rfl) ?_
  refine lv_iconst (v := (-1)) hx hb dX7_triple_2 (by decide) ?_
  refine ln_eq_m1 (tgt := 17) hx hb dX7_triple_3 (by decide) (by omega) ?_
  refine lv_iload_n hx hb dX7_triple_6 rfl (lv_at hl 1 rfl) ?_
  refine ro_S (n := 1) ⟨hx, hb, hml, hown, hts⟩ hM hS hP (c7_isOrder_ok l D tc zb q (by omega)) gX7_triple_X7_isOrder rfl (by decide +kernel) ⟨Nat.le_of_ble_eq_true rfl, Nat.le_of_ble_eq_true rfl⟩ [] rfl rfl hl.1 rfl (Nat.le_of_ble_eq_true rfl) dX7_triple_7 ⟨Nat.le_refl _, Nat.le_refl _⟩ ?_
  refine lv_if_ne (tgt := 17) hx hb dX7_triple_10 (by decide) (fun _ => ?_) (fun h9 => False.elim (by revert h9; decide))
  refine lv_iload_n hx hb dX7_triple_17 rfl (lv_at hl 2 rfl) ?_
  refine ln_if_ge (tgt := 25) hx hb dX7_triple_18 (by decide) (by omega) ?_
  refine lv_iconst (v := (nI 0)) hx hb dX7_triple_25 (by decide) ?_
  refine ip_V (C := RX7) (n := 1) (wl' := [(b, .inr (6, [.int (nI 0), .ref b1, .ref b2, .ref b3, .int (nI n), .ref b4, .ref b5, .ref b6, .int (nI ln)])), (b1, .inl (tc 0, 60, .inl ((fun k => nI (g k))))), (b2, .inl (tc 0, 60, .inl ((fun k => nI (ga k))))), (b3, .inl (tc 0, 840, .inl ((fun k => nI (sv k))))), (b4, .inl (tc 0, 120, .inl ((fun k => nI (sl k))))), (b5, .inl (tc 3, 2, .inl ((fun k => bI (iz k))))), (b6, .inl (tc 2, 100, .inl ((fun k => byI (u k)))))]) ⟨hx, hb, hml, hown, hts⟩ hM hS hP hD (c7_holds0 l D tc zb b th (fun k9 => match k9 with | 1 => .ref b1 | 2 => .ref b2 | 3 => .ref b3 | 4 => .int (nI n) | 5 => .ref b4 | 6 => .ref b5 | 7 => .ref b6 | 8 => .int (nI ln) | _ => .null)) gX7_triple_X7_holds rfl (by decide +kernel) ⟨Nat.le_of_ble_eq_true rfl, Nat.le_of_ble_eq_true rfl⟩ [0] rfl rfl [(true, 0), (false, 1), (false, 2), (false, 3), (false, 4), (false, 5), (false, 6)] rfl rfl rfl (va_recv hM.1 hP (ci := 6) (q0 := 0) rfl rfl) rfl hl.1 rfl (Nat.le_of_ble_eq_true rfl) dX7_triple_26 ⟨Nat.le_refl _, Nat.le_refl _⟩ (fun H locs hP hD hS => ?_)
  refine W.eq (g2 := F0 m 29 ls [.int (bI (true))]) rfl ?_
  refine lv_if_ne (tgt := 34) hx hb dX7_triple_29 (by decide) (fun _ => ?_) (fun h9 => False.elim (by revert h9; decide))
  refine lv_aload_n hx hb dX7_triple_34 rfl (lv_at hl 0 rfl) ?_
  refine lv_sipush (v := (nI 1330)) hx hb dX7_triple_35 (by decide) ?_
  refine lv_iload_n hx hb dX7_triple_38 rfl (lv_at hl 1 rfl) ?_
  refine lv_iload_n hx hb dX7_triple_39 rfl (lv_at hl 2 rfl) ?_
  refine ro_V (C := RX7) (n := 3) ⟨hx, hb, hml, hown, hts⟩ hM hS hP (c7_ith l D tc zb b b1 (fun k9 => match k9 with | 0 => .int (nI 0) | 2 => .ref b2 | 3 => .ref b3 | 4 => .int (nI n) | 5 => .ref b4 | 6 => .ref b5 | 7 => .ref b6 | 8 => .int (nI ln) | _ => .null) g 1330 q pl hk (by first | omega | exact ok5 _ (by omega)) (by omega) (by omega)) gX7_triple_X7_ith rfl (by decide +kernel) ⟨Nat.le_of_ble_eq_true rfl, Nat.le_of_ble_eq_true rfl⟩ [0, 1] rfl (va_recv hM.1 hP (ci := 6) (q0 := 0) rfl rfl) rfl hl.1 rfl (Nat.le_of_ble_eq_true rfl) dX7_triple_40 ⟨Nat.le_refl _, Nat.le_refl _⟩ ?_
  exact ip_iret hx hb hr hlk dX7_triple_43 hS (rfl) hP
set_option maxHeartbeats 4000000 in
set_option maxRecDepth 100000 in
theorem c7_triple_okN (l : Launch) (D : va_G) (tc : Nat → ClassId) (zb : Nat) (b b1 b2 b3 b4 b5 b6 : Nat) (th : Int32) (g ga sv : Nat → Nat) (n : Nat) (sl : Nat → Nat) (iz : Nat → Bool) (u : Nat → Nat) (ln : Nat) (pl : Nat) (hk : k_ok g) (hn : n ≤ 14) (hln : ln ≤ 100) (hu : ∀ k, u k < 256) (hpl : pl < 2 ^ 31) : IP l yX7_triple wsX7_triple 4 93 D tc zb (w_md tc b b1 b2 b3 b4 b5 b6 th g ga sv n sl iz u ln) (w_md tc b b1 b2 b3 b4 b5 b6 (nI 0) g ga sv n sl iz u ln) [.ref b, .int (-1), .int (nI pl)] (some (.int (oI (k_aa g 1330 none pl (g 0))))) := by
  refine IP.of (cc := cX7_triple) (maxL := 3) (ret := (some .int)) (by decide) rfl (Nat.le_of_ble_eq_true rfl) ?_
  intro p e s m args below meth c A hx hb hr hml hlk hts hown hM hS hP hD ls hl
  have hl : lv_has ls 3 [(0, .ref b), (1, .int (-1)), (2, .int (nI pl))] := hl
  obtain ⟨ok0, ok1, ok2, ok3, ok4, ok5, ok6⟩ := id hk
  refine lv_aload_n hx hb dX7_triple_0 rfl (lv_at hl 0 rfl) ?_
  refine lv_iload_n hx hb dX7_triple_1 rfl (lv_at hl 1 rfl) ?_
  refine lv_iconst (v := (-1)) hx hb dX7_triple_2 (by decide) ?_
  refine lv_icmp_eq (tgt := 17) hx hb dX7_triple_3 (by decide) (fun _ => ?_) (fun h9 => False.elim (by revert h9; decide))
  refine lv_iload_n hx hb dX7_triple_17 rfl (lv_at hl 2 rfl) ?_
  refine ln_if_ge (tgt := 25) hx hb dX7_triple_18 (by decide) (by omega) ?_
  refine lv_iconst (v := (nI 0)) hx hb dX7_triple_25 (by decide) ?_
  refine ip_V (C := RX7) (n := 1) (wl' := [(b, .inr (6, [.int (nI 0), .ref b1, .ref b2, .ref b3, .int (nI n), .ref b4, .ref b5, .ref b6, .int (nI ln)])), (b1, .inl (tc 0, 60, .inl ((fun k => nI (g k))))), (b2, .inl (tc 0, 60, .inl ((fun k => nI (ga k))))), (b3, .inl (tc 0, 840, .inl ((fun k => nI (sv k))))), (b4, .inl (tc 0, 120, .inl ((fun k => nI (sl k))))), (b5, .inl (tc 3, 2, .inl ((fun k => bI (iz k))))), (b6, .inl (tc 2, 100, .inl ((fun k => byI (u k)))))]) ⟨hx, hb, hml, hown, hts⟩ hM hS hP hD (c7_holds0 l D tc zb b th (fun k9 => match k9 with | 1 => .ref b1 | 2 => .ref b2 | 3 => .ref b3 | 4 => .int (nI n) | 5 => .ref b4 | 6 => .ref b5 | 7 => .ref b6 | 8 => .int (nI ln) | _ => .null)) gX7_triple_X7_holds rfl (by decide +kernel) ⟨Nat.le_of_ble_eq_true rfl, Nat.le_of_ble_eq_true rfl⟩ [0] rfl rfl [(true, 0), (false, 1), (false, 2), (false, 3), (false, 4), (false, 5), (false, 6)] rfl rfl rfl (va_recv hM.1 hP (ci := 6) (q0 := 0) rfl rfl) rfl hl.1 rfl (Nat.le_of_ble_eq_true rfl) dX7_triple_26 ⟨Nat.le_refl _, Nat.le_refl _⟩ (fun H locs hP hD hS => ?_)
  refine W.eq (g2 := F0 m 29 ls [.int (bI (true))]) rfl ?_
  refine lv_if_ne (tgt := 34) hx hb dX7_triple_29 (by decide) (fun _ => ?_) (fun h9 => False.elim (by revert h9; decide))
  refine lv_aload_n hx hb dX7_triple_34 rfl (lv_at hl 0 rfl) ?_
  refine lv_sipush (v := (nI 1330)) hx hb dX7_triple_35 (by decide) ?_
  refine lv_iload_n hx hb dX7_triple_38 rfl (lv_at hl 1 rfl) ?_
  refine lv_iload_n hx hb dX7_triple_39 rfl (lv_at hl 2 rfl) ?_
  refine ro_V (C := RX7) (n := 3) ⟨hx, hb, hml, hown, hts⟩ hM hS hP (c7_ithN l D tc zb b b1 (fun k9 => match k9 with | 0 => .int (nI 0) | 2 => .ref b2 | 3 => .ref b3 | 4 => .int (nI n) | 5 => .ref b4 | 6 => .ref b5 | 7 => .ref b6 | 8 => .int (nI ln) | _ => .null) g 1330 pl hk (by first | omega | exact ok5 _ (by omega)) (by omega)) gX7_triple_X7_ith rfl (by decide +kernel) ⟨Nat.le_of_ble_eq_true rfl, Nat.le_of_ble_eq_true rfl⟩ [0, 1] rfl (va_recv hM.1 hP (ci := 6) (q0 := 0) rfl rfl) rfl hl.1 rfl (Nat.le_of_ble_eq_true rfl) dX7_triple_40 ⟨Nat.le_refl _, Nat.le_refl _⟩ ?_
  exact ip_iret hx hb hr hlk dX7_triple_43 hS (rfl) hP
set_option maxHeartbeats 4000000 in
set_option maxRecDepth 100000 in
theorem c7_triple_b1 (l : Launch) (D : va_G) (tc : Nat → ClassId) (zb : Nat) (b b1 b2 b3 b4 b5 b6 : Nat) (th : Int32) (g ga sv : Nat → Nat) (n : Nat) (sl : Nat → Nat) (iz : Nat → Bool) (u : Nat → Nat) (ln : Nat) (pp pl9 : Int32) (hk : k_ok g) (hn : n ≤ 14) (hln : ln ≤ 100) (hu : ∀ k, u k < 256) (hp : ¬ (nI 0 ≤ pp ∧ pp ≤ nI 5)) (hm : ¬ pp = -1) : IP l yX7_triple wsX7_triple 2 45 D tc zb (w_md tc b b1 b2 b3 b4 b5 b6 th g ga sv n sl iz u ln) (w_md tc b b1 b2 b3 b4 b5 b6 (nI 1) g ga sv n sl iz u ln) [.ref b, .int (pp), .int (pl9)] (some (.int (nI 0))) := by
  refine IP.of (cc := cX7_triple) (maxL := 3) (ret := (some .int)) (by decide) rfl (Nat.le_of_ble_eq_true rfl) ?_
  intro p e s m args below meth c A hx hb hr hml hlk hts hown hM hS hP hD ls hl
  have hl : lv_has ls 3 [(0, .ref b), (1, .int (pp)), (2, .int (pl9))] := hl
  obtain ⟨ok0, ok1, ok2, ok3, ok4, ok5, ok6⟩ := id hk
  refine lv_aload_n hx hb dX7_triple_0 rfl (lv_at hl 0 rfl) ?_
  refine lv_iload_n hx hb dX7_triple_1 rfl (lv_at hl 1 rfl) ?_
  refine lv_iconst (v := (-1)) hx hb dX7_triple_2 (by decide) ?_
  refine lv_icmp_eq (tgt := 17) hx hb dX7_triple_3 (by decide) (fun h1 => ?_) (fun h1 => ?_)
  · exact absurd (by assumption) hm
  · refine lv_iload_n hx hb dX7_triple_6 rfl (lv_at hl 1 rfl) ?_
    refine ro_S (n := 1) ⟨hx, hb, hml, hown, hts⟩ hM hS hP (c7_isOrder_bad l D tc zb ((pp)) (by assumption)) gX7_triple_X7_isOrder rfl (by decide +kernel) ⟨Nat.le_of_ble_eq_true rfl, Nat.le_of_ble_eq_true rfl⟩ [] rfl rfl hl.1 rfl (Nat.le_of_ble_eq_true rfl) dX7_triple_7 ⟨Nat.le_refl _, Nat.le_refl _⟩ ?_
    refine lv_if_ne (tgt := 17) hx hb dX7_triple_10 (by decide) (fun h9 => False.elim (by revert h9; decide)) (fun _ => ?_)
    refine lv_iconst (v := (nI 1)) hx hb dX7_triple_13 (by decide) ?_
    refine lv_goto (tgt := 26) hx hb dX7_triple_14 (by decide) ?_
    refine ip_V (C := RX7) (n := 1) (wl' := [(b, .inr (6, [.int (nI 1), .ref b1, .ref b2, .ref b3, .int (nI n), .ref b4, .ref b5, .ref b6, .int (nI ln)])), (b1, .inl (tc 0, 60, .inl ((fun k => nI (g k))))), (b2, .inl (tc 0, 60, .inl ((fun k => nI (ga k))))), (b3, .inl (tc 0, 840, .inl ((fun k => nI (sv k))))), (b4, .inl (tc 0, 120, .inl ((fun k => nI (sl k))))), (b5, .inl (tc 3, 2, .inl ((fun k => bI (iz k))))), (b6, .inl (tc 2, 100, .inl ((fun k => byI (u k)))))]) ⟨hx, hb, hml, hown, hts⟩ hM hS hP hD (c7_holdsP l D tc zb b th (fun k9 => match k9 with | 1 => .ref b1 | 2 => .ref b2 | 3 => .ref b3 | 4 => .int (nI n) | 5 => .ref b4 | 6 => .ref b5 | 7 => .ref b6 | 8 => .int (nI ln) | _ => .null) 1 (by omega)) gX7_triple_X7_holds rfl (by decide +kernel) ⟨Nat.le_of_ble_eq_true rfl, Nat.le_of_ble_eq_true rfl⟩ [0] rfl rfl [(true, 0), (false, 1), (false, 2), (false, 3), (false, 4), (false, 5), (false, 6)] rfl rfl rfl (va_recv hM.1 hP (ci := 6) (q0 := 0) rfl rfl) rfl hl.1 rfl (Nat.le_of_ble_eq_true rfl) dX7_triple_26 ⟨Nat.le_refl _, Nat.le_refl _⟩ (fun H locs hP hD hS => ?_)
    refine W.eq (g2 := F0 m 29 ls [.int (bI (false))]) rfl ?_
    refine lv_if_ne (tgt := 34) hx hb dX7_triple_29 (by decide) (fun h9 => False.elim (by revert h9; decide)) (fun _ => ?_)
    refine lv_iconst (v := (nI 0)) hx hb dX7_triple_32 (by decide) ?_
    exact ip_iret hx hb hr hlk dX7_triple_33 hS (rfl) hP
set_option maxHeartbeats 4000000 in
set_option maxRecDepth 100000 in
theorem c7_triple_b2 (l : Launch) (D : va_G) (tc : Nat → ClassId) (zb : Nat) (b b1 b2 b3 b4 b5 b6 : Nat) (th : Int32) (g ga sv : Nat → Nat) (n : Nat) (sl : Nat → Nat) (iz : Nat → Bool) (u : Nat → Nat) (ln : Nat) (q : Nat) (pl9 : Int32) (hk : k_ok g) (hn : n ≤ 14) (hln : ln ≤ 100) (hu : ∀ k, u k < 256) (hq : q < 6) (hng : pl9 < 0) : IP l yX7_triple wsX7_triple 2 45 D tc zb (w_md tc b b1 b2 b3 b4 b5 b6 th g ga sv n sl iz u ln) (w_md tc b b1 b2 b3 b4 b5 b6 (nI 2) g ga sv n sl iz u ln) [.ref b, .int (nI q), .int (pl9)] (some (.int (nI 0))) := by
  refine IP.of (cc := cX7_triple) (maxL := 3) (ret := (some .int)) (by decide) rfl (Nat.le_of_ble_eq_true rfl) ?_
  intro p e s m args below meth c A hx hb hr hml hlk hts hown hM hS hP hD ls hl
  have hl : lv_has ls 3 [(0, .ref b), (1, .int (nI q)), (2, .int (pl9))] := hl
  obtain ⟨ok0, ok1, ok2, ok3, ok4, ok5, ok6⟩ := id hk
  refine lv_aload_n hx hb dX7_triple_0 rfl (lv_at hl 0 rfl) ?_
  refine lv_iload_n hx hb dX7_triple_1 rfl (lv_at hl 1 rfl) ?_
  refine lv_iconst (v := (-1)) hx hb dX7_triple_2 (by decide) ?_
  refine ln_eq_m1 (tgt := 17) hx hb dX7_triple_3 (by decide) (by omega) ?_
  refine lv_iload_n hx hb dX7_triple_6 rfl (lv_at hl 1 rfl) ?_
  refine ro_S (n := 1) ⟨hx, hb, hml, hown, hts⟩ hM hS hP (c7_isOrder_ok l D tc zb q (by omega)) gX7_triple_X7_isOrder rfl (by decide +kernel) ⟨Nat.le_of_ble_eq_true rfl, Nat.le_of_ble_eq_true rfl⟩ [] rfl rfl hl.1 rfl (Nat.le_of_ble_eq_true rfl) dX7_triple_7 ⟨Nat.le_refl _, Nat.le_refl _⟩ ?_
  refine lv_if_ne (tgt := 17) hx hb dX7_triple_10 (by decide) (fun _ => ?_) (fun h9 => False.elim (by revert h9; decide))
  refine lv_iload_n hx hb dX7_triple_17 rfl (lv_at hl 2 rfl) ?_
  refine lv_if_ge (tgt := 25) hx hb dX7_triple_18 (by decide) (fun h1 => ?_) (fun h1 => ?_)
  · exact (k_nn hng (by assumption)).elim
  · refine lv_iconst (v := (nI 2)) hx hb dX7_triple_21 (by decide) ?_
    refine lv_goto (tgt := 26) hx hb dX7_triple_22 (by decide) ?_
    refine ip_V (C := RX7) (n := 1) (wl' := [(b, .inr (6, [.int (nI 2), .ref b1, .ref b2, .ref b3, .int (nI n), .ref b4, .ref b5, .ref b6, .int (nI ln)])), (b1, .inl (tc 0, 60, .inl ((fun k => nI (g k))))), (b2, .inl (tc 0, 60, .inl ((fun k => nI (ga k))))), (b3, .inl (tc 0, 840, .inl ((fun k => nI (sv k))))), (b4, .inl (tc 0, 120, .inl ((fun k => nI (sl k))))), (b5, .inl (tc 3, 2, .inl ((fun k => bI (iz k))))), (b6, .inl (tc 2, 100, .inl ((fun k => byI (u k)))))]) ⟨hx, hb, hml, hown, hts⟩ hM hS hP hD (c7_holdsP l D tc zb b th (fun k9 => match k9 with | 1 => .ref b1 | 2 => .ref b2 | 3 => .ref b3 | 4 => .int (nI n) | 5 => .ref b4 | 6 => .ref b5 | 7 => .ref b6 | 8 => .int (nI ln) | _ => .null) 2 (by omega)) gX7_triple_X7_holds rfl (by decide +kernel) ⟨Nat.le_of_ble_eq_true rfl, Nat.le_of_ble_eq_true rfl⟩ [0] rfl rfl [(true, 0), (false, 1), (false, 2), (false, 3), (false, 4), (false, 5), (false, 6)] rfl rfl rfl (va_recv hM.1 hP (ci := 6) (q0 := 0) rfl rfl) rfl hl.1 rfl (Nat.le_of_ble_eq_true rfl) dX7_triple_26 ⟨Nat.le_refl _, Nat.le_refl _⟩ (fun H locs hP hD hS => ?_)
    refine W.eq (g2 := F0 m 29 ls [.int (bI (false))]) rfl ?_
    refine lv_if_ne (tgt := 34) hx hb dX7_triple_29 (by decide) (fun h9 => False.elim (by revert h9; decide)) (fun _ => ?_)
    refine lv_iconst (v := (nI 0)) hx hb dX7_triple_32 (by decide) ?_
    exact ip_iret hx hb hr hlk dX7_triple_33 hS (rfl) hP
set_option maxHeartbeats 4000000 in
set_option maxRecDepth 100000 in
theorem c7_triple_b2N (l : Launch) (D : va_G) (tc : Nat → ClassId) (zb : Nat) (b b1 b2 b3 b4 b5 b6 : Nat) (th : Int32) (g ga sv : Nat → Nat) (n : Nat) (sl : Nat → Nat) (iz : Nat → Bool) (u : Nat → Nat) (ln : Nat) (pl9 : Int32) (hk : k_ok g) (hn : n ≤ 14) (hln : ln ≤ 100) (hu : ∀ k, u k < 256) (hng : pl9 < 0) : IP l yX7_triple wsX7_triple 1 21 D tc zb (w_md tc b b1 b2 b3 b4 b5 b6 th g ga sv n sl iz u ln) (w_md tc b b1 b2 b3 b4 b5 b6 (nI 2) g ga sv n sl iz u ln) [.ref b, .int (-1), .int (pl9)] (some (.int (nI 0))) := by
  refine IP.of (cc := cX7_triple) (maxL := 3) (ret := (some .int)) (by decide) rfl (Nat.le_of_ble_eq_true rfl) ?_
  intro p e s m args below meth c A hx hb hr hml hlk hts hown hM hS hP hD ls hl
  have hl : lv_has ls 3 [(0, .ref b), (1, .int (-1)), (2, .int (pl9))] := hl
  obtain ⟨ok0, ok1, ok2, ok3, ok4, ok5, ok6⟩ := id hk
  refine lv_aload_n hx hb dX7_triple_0 rfl (lv_at hl 0 rfl) ?_
  refine lv_iload_n hx hb dX7_triple_1 rfl (lv_at hl 1 rfl) ?_
  refine lv_iconst (v := (-1)) hx hb dX7_triple_2 (by decide) ?_
  refine lv_icmp_eq (tgt := 17) hx hb dX7_triple_3 (by decide) (fun _ => ?_) (fun h9 => False.elim (by revert h9; decide))
  refine lv_iload_n hx hb dX7_triple_17 rfl (lv_at hl 2 rfl) ?_
  refine lv_if_ge (tgt := 25) hx hb dX7_triple_18 (by decide) (fun h1 => ?_) (fun h1 => ?_)
  · exact (k_nn hng (by assumption)).elim
  · refine lv_iconst (v := (nI 2)) hx hb dX7_triple_21 (by decide) ?_
    refine lv_goto (tgt := 26) hx hb dX7_triple_22 (by decide) ?_
    refine ip_V (C := RX7) (n := 1) (wl' := [(b, .inr (6, [.int (nI 2), .ref b1, .ref b2, .ref b3, .int (nI n), .ref b4, .ref b5, .ref b6, .int (nI ln)])), (b1, .inl (tc 0, 60, .inl ((fun k => nI (g k))))), (b2, .inl (tc 0, 60, .inl ((fun k => nI (ga k))))), (b3, .inl (tc 0, 840, .inl ((fun k => nI (sv k))))), (b4, .inl (tc 0, 120, .inl ((fun k => nI (sl k))))), (b5, .inl (tc 3, 2, .inl ((fun k => bI (iz k))))), (b6, .inl (tc 2, 100, .inl ((fun k => byI (u k)))))]) ⟨hx, hb, hml, hown, hts⟩ hM hS hP hD (c7_holdsP l D tc zb b th (fun k9 => match k9 with | 1 => .ref b1 | 2 => .ref b2 | 3 => .ref b3 | 4 => .int (nI n) | 5 => .ref b4 | 6 => .ref b5 | 7 => .ref b6 | 8 => .int (nI ln) | _ => .null) 2 (by omega)) gX7_triple_X7_holds rfl (by decide +kernel) ⟨Nat.le_of_ble_eq_true rfl, Nat.le_of_ble_eq_true rfl⟩ [0] rfl rfl [(true, 0), (false, 1), (false, 2), (false, 3), (false, 4), (false, 5), (false, 6)] rfl rfl rfl (va_recv hM.1 hP (ci := 6) (q0 := 0) rfl rfl) rfl hl.1 rfl (Nat.le_of_ble_eq_true rfl) dX7_triple_26 ⟨Nat.le_refl _, Nat.le_refl _⟩ (fun H locs hP hD hS => ?_)
    refine W.eq (g2 := F0 m 29 ls [.int (bI (false))]) rfl ?_
    refine lv_if_ne (tgt := 34) hx hb dX7_triple_29 (by decide) (fun h9 => False.elim (by revert h9; decide)) (fun _ => ?_)
    refine lv_iconst (v := (nI 0)) hx hb dX7_triple_32 (by decide) ?_
    exact ip_iret hx hb hr hlk dX7_triple_33 hS (rfl) hP
set_option maxHeartbeats 4000000 in
set_option maxRecDepth 100000 in
theorem c7_remembered_ok (l : Launch) (D : va_G) (tc : Nat → ClassId) (zb : Nat) (b b1 b2 b3 b4 b5 b6 : Nat) (th : Int32) (g ga sv : Nat → Nat) (n : Nat) (sl : Nat → Nat) (iz : Nat → Bool) (u : Nat → Nat) (ln : Nat) (pl : Nat) (hk : k_ok g) (hn : n ≤ 14) (hln : ln ≤ 100) (hu : ∀ k, u k < 256) (hpl : pl < 2 ^ 31) : IP l yX7_remembered wsX7_remembered 1 21 D tc zb (w_md tc b b1 b2 b3 b4 b5 b6 th g ga sv n sl iz u ln) (w_md tc b b1 b2 b3 b4 b5 b6 (nI 0) g ga sv n sl iz u ln) [.ref b, .int (nI pl)] (some (.int (oI (k_rmb g pl)))) := by
  refine IP.of (cc := cX7_remembered) (maxL := 2) (ret := (some .int)) (by decide) rfl (Nat.le_of_ble_eq_true rfl) ?_
  intro p e s m args below meth c A hx hb hr hml hlk hts hown hM hS hP hD ls hl
  have hl : lv_has ls 2 [(0, .ref b), (1, .int (nI pl))] := hl
  have hinX7 : ∀ w ∈ u_ws RX7 TX7 9, w ∈ wsX7_remembered := by decide +kernel
  obtain ⟨ok0, ok1, ok2, ok3, ok4, ok5, ok6⟩ := id hk
  refine lv_aload_n hx hb dX7_remembered_0 rfl (lv_at hl 0 rfl) ?_
  refine lv_iload_n hx hb dX7_remembered_1 rfl (lv_at hl 1 rfl) ?_
  refine ln_if_ge (tgt := 9) hx hb dX7_remembered_2 (by decide) (by omega) ?_
  refine lv_iconst (v := (nI 0)) hx hb dX7_remembered_9 (by decide) ?_
  refine ip_V (C := RX7) (n := 1) (wl' := [(b, .inr (6, [.int (nI 0), .ref b1, .ref b2, .ref b3, .int (nI n), .ref b4, .ref b5, .ref b6, .int (nI ln)])), (b1, .inl (tc 0, 60, .inl ((fun k => nI (g k))))), (b2, .inl (tc 0, 60, .inl ((fun k => nI (ga k))))), (b3, .inl (tc 0, 840, .inl ((fun k => nI (sv k))))), (b4, .inl (tc 0, 120, .inl ((fun k => nI (sl k))))), (b5, .inl (tc 3, 2, .inl ((fun k => bI (iz k))))), (b6, .inl (tc 2, 100, .inl ((fun k => byI (u k)))))]) ⟨hx, hb, hml, hown, hts⟩ hM hS hP hD (c7_holds0 l D tc zb b th (fun k9 => match k9 with | 1 => .ref b1 | 2 => .ref b2 | 3 => .ref b3 | 4 => .int (nI n) | 5 => .ref b4 | 6 => .ref b5 | 7 => .ref b6 | 8 => .int (nI ln) | _ => .null)) gX7_remembered_X7_holds rfl (by decide +kernel) ⟨Nat.le_of_ble_eq_true rfl, Nat.le_of_ble_eq_true rfl⟩ [0] rfl rfl [(true, 0), (false, 1), (false, 2), (false, 3), (false, 4), (false, 5), (false, 6)] rfl rfl rfl (va_recv hM.1 hP (ci := 6) (q0 := 0) rfl rfl) rfl hl.1 rfl (Nat.le_of_ble_eq_true rfl) dX7_remembered_10 ⟨Nat.le_refl _, Nat.le_refl _⟩ (fun H locs hP hD hS => ?_)
  refine W.eq (g2 := F0 m 13 ls [.int (bI (true))]) rfl ?_
  refine lv_if_ne (tgt := 18) hx hb dX7_remembered_13 (by decide) (fun _ => ?_) (fun h9 => False.elim (by revert h9; decide))
  refine lv_iload_n hx hb dX7_remembered_18 rfl (lv_at hl 1 rfl) ?_
  refine lv_aload_n hx hb dX7_remembered_19 rfl (lv_at hl 0 rfl) ?_
  refine va_get (D := D) (ci := 6) (v := .ref b1) (C := RX7) (T := TX7) (N := 9) hx hb hts hinX7 hown hM.1 hP 0 rfl rfl 1 (by decide) (hts (.fieldLink RX7 7 "TripleWaysModel" "s" "[I") (by decide +kernel)) (fun _ h9 => h9) rfl dX7_remembered_20 ?_
  refine lv_bipush (v := (nI 46)) hx hb dX7_remembered_23 (by decide) ?_
  refine ln_iald hx hb hM.1 hP 1 0 rfl rfl dX7_remembered_25 (by decide) (by omega) (rfl) ?_
  refine ln_icmp_ge (tgt := 51) hx hb dX7_remembered_26 (by decide) (by omega) (by omega) (fun h1 => ?_) (fun h1 => ?_)
  · refine lv_iconst (v := (-1)) hx hb dX7_remembered_51 (by decide) ?_
    exact ip_iret hx hb hr hlk dX7_remembered_52 hS (show oI none = _ from congrArg oI (by first | exact (if_pos (by assumption)).symm | exact (if_neg (by omega)).symm)) hP
  · refine lv_aload_n hx hb dX7_remembered_29 rfl (lv_at hl 0 rfl) ?_
    refine va_get (D := D) (ci := 6) (v := .ref b1) (C := RX7) (T := TX7) (N := 9) hx hb hts hinX7 hown hM.1 hP 0 rfl rfl 1 (by decide) (hts (.fieldLink RX7 7 "TripleWaysModel" "s" "[I") (by decide +kernel)) (fun _ h9 => h9) rfl dX7_remembered_30 ?_
    refine lv_bipush (v := (nI 47)) hx hb dX7_remembered_33 (by decide) ?_
    refine lv_aload_n hx hb dX7_remembered_35 rfl (lv_at hl 0 rfl) ?_
    refine va_get (D := D) (ci := 6) (v := .ref b1) (C := RX7) (T := TX7) (N := 9) hx hb hts hinX7 hown hM.1 hP 0 rfl rfl 1 (by decide) (hts (.fieldLink RX7 7 "TripleWaysModel" "s" "[I") (by decide +kernel)) (fun _ h9 => h9) rfl dX7_remembered_36 ?_
    refine lv_bipush (v := (nI 46)) hx hb dX7_remembered_39 (by decide) ?_
    refine ln_iald hx hb hM.1 hP 1 0 rfl rfl dX7_remembered_41 (by decide) (by omega) (rfl) ?_
    refine ln_iadd hx hb dX7_remembered_42 ?_
    refine lv_iconst (v := (nI 1)) hx hb dX7_remembered_43 (by decide) ?_
    refine ln_isub hx hb dX7_remembered_44 (by omega) ?_
    refine lv_iload_n hx hb dX7_remembered_45 rfl (lv_at hl 1 rfl) ?_
    refine ln_isub hx hb dX7_remembered_46 (by omega) ?_
    refine ln_iald hx hb hM.1 hP 1 0 rfl rfl dX7_remembered_47 (by decide) (by omega) (rfl) ?_
    refine lv_goto (tgt := 52) hx hb dX7_remembered_48 (by decide) ?_
    exact ip_iret hx hb hr hlk dX7_remembered_52 hS (show oI (some (g (((47 + (g 46)) - 1) - pl))) = _ from congrArg oI (by first | exact (if_pos (by assumption)).symm | exact (if_neg (by omega)).symm)) hP
set_option maxHeartbeats 4000000 in
set_option maxRecDepth 100000 in
theorem c7_remembered_b1 (l : Launch) (D : va_G) (tc : Nat → ClassId) (zb : Nat) (b b1 b2 b3 b4 b5 b6 : Nat) (th : Int32) (g ga sv : Nat → Nat) (n : Nat) (sl : Nat → Nat) (iz : Nat → Bool) (u : Nat → Nat) (ln : Nat) (pl9 : Int32) (hk : k_ok g) (hn : n ≤ 14) (hln : ln ≤ 100) (hu : ∀ k, u k < 256) (hng : pl9 < 0) : IP l yX7_remembered wsX7_remembered 1 21 D tc zb (w_md tc b b1 b2 b3 b4 b5 b6 th g ga sv n sl iz u ln) (w_md tc b b1 b2 b3 b4 b5 b6 (nI 1) g ga sv n sl iz u ln) [.ref b, .int (pl9)] (some (.int (nI 0))) := by
  refine IP.of (cc := cX7_remembered) (maxL := 2) (ret := (some .int)) (by decide) rfl (Nat.le_of_ble_eq_true rfl) ?_
  intro p e s m args below meth c A hx hb hr hml hlk hts hown hM hS hP hD ls hl
  have hl : lv_has ls 2 [(0, .ref b), (1, .int (pl9))] := hl
  obtain ⟨ok0, ok1, ok2, ok3, ok4, ok5, ok6⟩ := id hk
  refine lv_aload_n hx hb dX7_remembered_0 rfl (lv_at hl 0 rfl) ?_
  refine lv_iload_n hx hb dX7_remembered_1 rfl (lv_at hl 1 rfl) ?_
  refine lv_if_ge (tgt := 9) hx hb dX7_remembered_2 (by decide) (fun h1 => ?_) (fun h1 => ?_)
  · exact (k_nn hng (by assumption)).elim
  · refine lv_iconst (v := (nI 1)) hx hb dX7_remembered_5 (by decide) ?_
    refine lv_goto (tgt := 10) hx hb dX7_remembered_6 (by decide) ?_
    refine ip_V (C := RX7) (n := 1) (wl' := [(b, .inr (6, [.int (nI 1), .ref b1, .ref b2, .ref b3, .int (nI n), .ref b4, .ref b5, .ref b6, .int (nI ln)])), (b1, .inl (tc 0, 60, .inl ((fun k => nI (g k))))), (b2, .inl (tc 0, 60, .inl ((fun k => nI (ga k))))), (b3, .inl (tc 0, 840, .inl ((fun k => nI (sv k))))), (b4, .inl (tc 0, 120, .inl ((fun k => nI (sl k))))), (b5, .inl (tc 3, 2, .inl ((fun k => bI (iz k))))), (b6, .inl (tc 2, 100, .inl ((fun k => byI (u k)))))]) ⟨hx, hb, hml, hown, hts⟩ hM hS hP hD (c7_holdsP l D tc zb b th (fun k9 => match k9 with | 1 => .ref b1 | 2 => .ref b2 | 3 => .ref b3 | 4 => .int (nI n) | 5 => .ref b4 | 6 => .ref b5 | 7 => .ref b6 | 8 => .int (nI ln) | _ => .null) 1 (by omega)) gX7_remembered_X7_holds rfl (by decide +kernel) ⟨Nat.le_of_ble_eq_true rfl, Nat.le_of_ble_eq_true rfl⟩ [0] rfl rfl [(true, 0), (false, 1), (false, 2), (false, 3), (false, 4), (false, 5), (false, 6)] rfl rfl rfl (va_recv hM.1 hP (ci := 6) (q0 := 0) rfl rfl) rfl hl.1 rfl (Nat.le_of_ble_eq_true rfl) dX7_remembered_10 ⟨Nat.le_refl _, Nat.le_refl _⟩ (fun H locs hP hD hS => ?_)
    refine W.eq (g2 := F0 m 13 ls [.int (bI (false))]) rfl ?_
    refine lv_if_ne (tgt := 18) hx hb dX7_remembered_13 (by decide) (fun h9 => False.elim (by revert h9; decide)) (fun _ => ?_)
    refine lv_iconst (v := (nI 0)) hx hb dX7_remembered_16 (by decide) ?_
    exact ip_iret hx hb hr hlk dX7_remembered_17 hS (rfl) hP
set_option maxHeartbeats 4000000 in
set_option maxRecDepth 100000 in
theorem c7_weight (l : Launch) (D : va_G) (tc : Nat → ClassId) (zb : Nat) (b b1 b2 b3 b4 b5 b6 : Nat) (th : Int32) (g ga sv : Nat → Nat) (n : Nat) (sl : Nat → Nat) (iz : Nat → Bool) (u : Nat → Nat) (ln : Nat) (hk : k_ok g) (hn : n ≤ 14) (hln : ln ≤ 100) (hu : ∀ k, u k < 256) : IP l yX7_weight wsX7_weight 0 0 D tc zb (w_md tc b b1 b2 b3 b4 b5 b6 th g ga sv n sl iz u ln) (w_md tc b b1 b2 b3 b4 b5 b6 (nI 0) g ga sv n sl iz u ln) [.ref b] (some (.int (nI (g 59)))) := by
  refine IP.of (cc := cX7_weight) (maxL := 1) (ret := (some .int)) (by decide) rfl (Nat.le_of_ble_eq_true rfl) ?_
  intro p e s m args below meth c A hx hb hr hml hlk hts hown hM hS hP hD ls hl
  have hl : lv_has ls 1 [(0, .ref b)] := hl
  have hinX7 : ∀ w ∈ u_ws RX7 TX7 9, w ∈ wsX7_weight := by decide +kernel
  obtain ⟨ok0, ok1, ok2, ok3, ok4, ok5, ok6⟩ := id hk
  refine lv_aload_n hx hb dX7_weight_0 rfl (lv_at hl 0 rfl) ?_
  refine lv_iconst (v := (nI 0)) hx hb dX7_weight_1 (by decide) ?_
  refine va_put (D := D) (ci := 6) (v := .int (nI 0)) (ty := .int) (C := RX7) (T := TX7) (N := 9) hx hb hts hinX7 tyX7 tyX7_ok nmX7 hown hM.1 hP hD hS 0 rfl rfl 0 (by decide) (hts (.fieldLink RX7 30 "TripleWaysModel" "thrown" "I") (by decide +kernel)) (fun _ h9 => h9) rfl (by decide +kernel) rfl rfl (Nat.le_of_ble_eq_true rfl) dX7_weight_2 (fun H locs hP hD hS => ?_)
  have hP : va_P D vwCl [(b, .inr (6, [.int (nI 0), .ref b1, .ref b2, .ref b3, .int (nI n), .ref b4, .ref b5, .ref b6, .int (nI ln)])), (b1, .inl (tc 0, 60, .inl ((fun k => nI (g k))))), (b2, .inl (tc 0, 60, .inl ((fun k => nI (ga k))))), (b3, .inl (tc 0, 840, .inl ((fun k => nI (sv k))))), (b4, .inl (tc 0, 120, .inl ((fun k => nI (sl k))))), (b5, .inl (tc 3, 2, .inl ((fun k => bI (iz k))))), (b6, .inl (tc 2, 100, .inl ((fun k => byI (u k)))))] H := hP
  have hD : va_D A [(b, .inr (6, [.int (nI 0), .ref b1, .ref b2, .ref b3, .int (nI n), .ref b4, .ref b5, .ref b6, .int (nI ln)])), (b1, .inl (tc 0, 60, .inl ((fun k => nI (g k))))), (b2, .inl (tc 0, 60, .inl ((fun k => nI (ga k))))), (b3, .inl (tc 0, 840, .inl ((fun k => nI (sv k))))), (b4, .inl (tc 0, 120, .inl ((fun k => nI (sl k))))), (b5, .inl (tc 3, 2, .inl ((fun k => bI (iz k))))), (b6, .inl (tc 2, 100, .inl ((fun k => byI (u k)))))] := hD
  refine lv_aload_n hx hb dX7_weight_5 rfl (lv_at hl 0 rfl) ?_
  refine va_get (D := D) (ci := 6) (v := .ref b1) (C := RX7) (T := TX7) (N := 9) hx hb hts hinX7 hown hM.1 hP 0 rfl rfl 1 (by decide) (hts (.fieldLink RX7 7 "TripleWaysModel" "s" "[I") (by decide +kernel)) (fun _ h9 => h9) rfl dX7_weight_6 ?_
  refine lv_bipush (v := (nI 59)) hx hb dX7_weight_9 (by decide) ?_
  refine ln_iald hx hb hM.1 hP 1 0 rfl rfl dX7_weight_11 (by decide) (by omega) (rfl) ?_
  exact ip_iret hx hb hr hlk dX7_weight_12 hS (rfl) hP
set_option maxHeartbeats 4000000 in
set_option maxRecDepth 100000 in
theorem c7_count_ok (l : Launch) (D : va_G) (tc : Nat → ClassId) (zb : Nat) (b b1 b2 b3 b4 b5 b6 : Nat) (th : Int32) (g ga sv : Nat → Nat) (n : Nat) (sl : Nat → Nat) (iz : Nat → Bool) (u : Nat → Nat) (ln : Nat) (x : Nat) (hk : k_ok g) (hn : n ≤ 14) (hln : ln ≤ 100) (hu : ∀ k, u k < 256) (hx9 : x < 1331) : IP l yX7_count wsX7_count 4 88 D tc zb (w_md tc b b1 b2 b3 b4 b5 b6 th g ga sv n sl iz u ln) (w_md tc b b1 b2 b3 b4 b5 b6 (nI 0) g ga sv n sl iz u ln) [.ref b, .int (nI x)] (some (.int (nI (k_cnt g x)))) := by
  refine IP.of (cc := cX7_count) (maxL := 2) (ret := (some .int)) (by decide) rfl (Nat.le_of_ble_eq_true rfl) ?_
  intro p e s m args below meth c A hx hb hr hml hlk hts hown hM hS hP hD ls hl
  have hl : lv_has ls 2 [(0, .ref b), (1, .int (nI x))] := hl
  obtain ⟨ok0, ok1, ok2, ok3, ok4, ok5, ok6⟩ := id hk
  refine lv_aload_n hx hb dX7_count_0 rfl (lv_at hl 0 rfl) ?_
  refine lv_iload_n hx hb dX7_count_1 rfl (lv_at hl 1 rfl) ?_
  refine ro_S (n := 1) ⟨hx, hb, hml, hown, hts⟩ hM hS hP (c7_isQuestion_ok l D tc zb x (by omega)) gX7_count_X7_isQuestion rfl (by decide +kernel) ⟨Nat.le_of_ble_eq_true rfl, Nat.le_of_ble_eq_true rfl⟩ [] rfl rfl hl.1 rfl (Nat.le_of_ble_eq_true rfl) dX7_count_2 ⟨Nat.le_refl _, Nat.le_refl _⟩ ?_
  refine lv_if_eq (tgt := 12) hx hb dX7_count_5 (by decide) (fun h9 => False.elim (by revert h9; decide)) (fun _ => ?_)
  refine lv_iconst (v := (nI 0)) hx hb dX7_count_8 (by decide) ?_
  refine lv_goto (tgt := 13) hx hb dX7_count_9 (by decide) ?_
  refine ip_V (C := RX7) (n := 1) (wl' := [(b, .inr (6, [.int (nI 0), .ref b1, .ref b2, .ref b3, .int (nI n), .ref b4, .ref b5, .ref b6, .int (nI ln)])), (b1, .inl (tc 0, 60, .inl ((fun k => nI (g k))))), (b2, .inl (tc 0, 60, .inl ((fun k => nI (ga k))))), (b3, .inl (tc 0, 840, .inl ((fun k => nI (sv k))))), (b4, .inl (tc 0, 120, .inl ((fun k => nI (sl k))))), (b5, .inl (tc 3, 2, .inl ((fun k => bI (iz k))))), (b6, .inl (tc 2, 100, .inl ((fun k => byI (u k)))))]) ⟨hx, hb, hml, hown, hts⟩ hM hS hP hD (c7_holds0 l D tc zb b th (fun k9 => match k9 with | 1 => .ref b1 | 2 => .ref b2 | 3 => .ref b3 | 4 => .int (nI n) | 5 => .ref b4 | 6 => .ref b5 | 7 => .ref b6 | 8 => .int (nI ln) | _ => .null)) gX7_count_X7_holds rfl (by decide +kernel) ⟨Nat.le_of_ble_eq_true rfl, Nat.le_of_ble_eq_true rfl⟩ [0] rfl rfl [(true, 0), (false, 1), (false, 2), (false, 3), (false, 4), (false, 5), (false, 6)] rfl rfl rfl (va_recv hM.1 hP (ci := 6) (q0 := 0) rfl rfl) rfl hl.1 rfl (Nat.le_of_ble_eq_true rfl) dX7_count_13 ⟨Nat.le_refl _, Nat.le_refl _⟩ (fun H locs hP hD hS => ?_)
  refine W.eq (g2 := F0 m 16 ls [.int (bI (true))]) rfl ?_
  refine lv_if_eq (tgt := 27) hx hb dX7_count_16 (by decide) (fun h9 => False.elim (by revert h9; decide)) (fun _ => ?_)
  refine lv_aload_n hx hb dX7_count_19 rfl (lv_at hl 0 rfl) ?_
  refine lv_iload_n hx hb dX7_count_20 rfl (lv_at hl 1 rfl) ?_
  refine ro_V (C := RX7) (n := 1) ⟨hx, hb, hml, hown, hts⟩ hM hS hP (c7_answersOf l D tc zb b b1 (fun k9 => match k9 with | 0 => .int (nI 0) | 2 => .ref b2 | 3 => .ref b3 | 4 => .int (nI n) | 5 => .ref b4 | 6 => .ref b5 | 7 => .ref b6 | 8 => .int (nI ln) | _ => .null) g x hk (by first | omega | exact ok5 _ (by omega))) gX7_count_X7_answersOf rfl (by decide +kernel) ⟨Nat.le_of_ble_eq_true rfl, Nat.le_of_ble_eq_true rfl⟩ [0, 1] rfl (va_recv hM.1 hP (ci := 6) (q0 := 0) rfl rfl) rfl hl.1 rfl (Nat.le_of_ble_eq_true rfl) dX7_count_21 ⟨Nat.le_refl _, Nat.le_refl _⟩ ?_
  have hf1 := k_cnt_le g x
  refine lv_goto (tgt := 28) hx hb dX7_count_24 (by decide) ?_
  exact ip_iret hx hb hr hlk dX7_count_28 hS (rfl) hP
set_option maxHeartbeats 4000000 in
set_option maxRecDepth 100000 in
theorem c7_count_b1 (l : Launch) (D : va_G) (tc : Nat → ClassId) (zb : Nat) (b b1 b2 b3 b4 b5 b6 : Nat) (th : Int32) (g ga sv : Nat → Nat) (n : Nat) (sl : Nat → Nat) (iz : Nat → Bool) (u : Nat → Nat) (ln : Nat) (pp : Int32) (hk : k_ok g) (hn : n ≤ 14) (hln : ln ≤ 100) (hu : ∀ k, u k < 256) (hp : ¬ (nI 0 ≤ pp ∧ pp ≤ nI 1330)) : IP l yX7_count wsX7_count 2 45 D tc zb (w_md tc b b1 b2 b3 b4 b5 b6 th g ga sv n sl iz u ln) (w_md tc b b1 b2 b3 b4 b5 b6 (nI 1) g ga sv n sl iz u ln) [.ref b, .int (pp)] (some (.int (nI 0))) := by
  refine IP.of (cc := cX7_count) (maxL := 2) (ret := (some .int)) (by decide) rfl (Nat.le_of_ble_eq_true rfl) ?_
  intro p e s m args below meth c A hx hb hr hml hlk hts hown hM hS hP hD ls hl
  have hl : lv_has ls 2 [(0, .ref b), (1, .int (pp))] := hl
  obtain ⟨ok0, ok1, ok2, ok3, ok4, ok5, ok6⟩ := id hk
  refine lv_aload_n hx hb dX7_count_0 rfl (lv_at hl 0 rfl) ?_
  refine lv_iload_n hx hb dX7_count_1 rfl (lv_at hl 1 rfl) ?_
  refine ro_S (n := 1) ⟨hx, hb, hml, hown, hts⟩ hM hS hP (c7_isQuestion_bad l D tc zb ((pp)) (by assumption)) gX7_count_X7_isQuestion rfl (by decide +kernel) ⟨Nat.le_of_ble_eq_true rfl, Nat.le_of_ble_eq_true rfl⟩ [] rfl rfl hl.1 rfl (Nat.le_of_ble_eq_true rfl) dX7_count_2 ⟨Nat.le_refl _, Nat.le_refl _⟩ ?_
  refine lv_if_eq (tgt := 12) hx hb dX7_count_5 (by decide) (fun _ => ?_) (fun h9 => False.elim (by revert h9; decide))
  refine lv_iconst (v := (nI 1)) hx hb dX7_count_12 (by decide) ?_
  refine ip_V (C := RX7) (n := 1) (wl' := [(b, .inr (6, [.int (nI 1), .ref b1, .ref b2, .ref b3, .int (nI n), .ref b4, .ref b5, .ref b6, .int (nI ln)])), (b1, .inl (tc 0, 60, .inl ((fun k => nI (g k))))), (b2, .inl (tc 0, 60, .inl ((fun k => nI (ga k))))), (b3, .inl (tc 0, 840, .inl ((fun k => nI (sv k))))), (b4, .inl (tc 0, 120, .inl ((fun k => nI (sl k))))), (b5, .inl (tc 3, 2, .inl ((fun k => bI (iz k))))), (b6, .inl (tc 2, 100, .inl ((fun k => byI (u k)))))]) ⟨hx, hb, hml, hown, hts⟩ hM hS hP hD (c7_holdsP l D tc zb b th (fun k9 => match k9 with | 1 => .ref b1 | 2 => .ref b2 | 3 => .ref b3 | 4 => .int (nI n) | 5 => .ref b4 | 6 => .ref b5 | 7 => .ref b6 | 8 => .int (nI ln) | _ => .null) 1 (by omega)) gX7_count_X7_holds rfl (by decide +kernel) ⟨Nat.le_of_ble_eq_true rfl, Nat.le_of_ble_eq_true rfl⟩ [0] rfl rfl [(true, 0), (false, 1), (false, 2), (false, 3), (false, 4), (false, 5), (false, 6)] rfl rfl rfl (va_recv hM.1 hP (ci := 6) (q0 := 0) rfl rfl) rfl hl.1 rfl (Nat.le_of_ble_eq_true rfl) dX7_count_13 ⟨Nat.le_refl _, Nat.le_refl _⟩ (fun H locs hP hD hS => ?_)
  refine W.eq (g2 := F0 m 16 ls [.int (bI (false))]) rfl ?_
  refine lv_if_eq (tgt := 27) hx hb dX7_count_16 (by decide) (fun _ => ?_) (fun h9 => False.elim (by revert h9; decide))
  refine lv_iconst (v := (nI 0)) hx hb dX7_count_27 (by decide) ?_
  exact ip_iret hx hb hr hlk dX7_count_28 hS (rfl) hP
set_option maxHeartbeats 4000000 in
set_option maxRecDepth 100000 in
theorem c7_cost_ok (l : Launch) (D : va_G) (tc : Nat → ClassId) (zb : Nat) (b b1 b2 b3 b4 b5 b6 : Nat) (th : Int32) (g ga sv : Nat → Nat) (n : Nat) (sl : Nat → Nat) (iz : Nat → Bool) (u : Nat → Nat) (ln : Nat) (x q : Nat) (hk : k_ok g) (hn : n ≤ 14) (hln : ln ≤ 100) (hu : ∀ k, u k < 256) (hx9 : x < 1331) (hq : q < 6) : IP l yX7_cost wsX7_cost 5 111 D tc zb (w_md tc b b1 b2 b3 b4 b5 b6 th g ga sv n sl iz u ln) (w_md tc b b1 b2 b3 b4 b5 b6 (nI 0) g ga sv n sl iz u ln) [.ref b, .int (nI x), .int (nI q)] (some (.int (nI (k_cb g x q)))) := by
  refine IP.of (cc := cX7_cost) (maxL := 3) (ret := (some .int)) (by decide) rfl (Nat.le_of_ble_eq_true rfl) ?_
  intro p e s m args below meth c A hx hb hr hml hlk hts hown hM hS hP hD ls hl
  have hl : lv_has ls 3 [(0, .ref b), (1, .int (nI x)), (2, .int (nI q))] := hl
  obtain ⟨ok0, ok1, ok2, ok3, ok4, ok5, ok6⟩ := id hk
  refine lv_aload_n hx hb dX7_cost_0 rfl (lv_at hl 0 rfl) ?_
  refine lv_iload_n hx hb dX7_cost_1 rfl (lv_at hl 1 rfl) ?_
  refine ro_S (n := 1) ⟨hx, hb, hml, hown, hts⟩ hM hS hP (c7_isQuestion_ok l D tc zb x (by omega)) gX7_cost_X7_isQuestion rfl (by decide +kernel) ⟨Nat.le_of_ble_eq_true rfl, Nat.le_of_ble_eq_true rfl⟩ [] rfl rfl hl.1 rfl (Nat.le_of_ble_eq_true rfl) dX7_cost_2 ⟨Nat.le_refl _, Nat.le_refl _⟩ ?_
  refine lv_if_ne (tgt := 12) hx hb dX7_cost_5 (by decide) (fun _ => ?_) (fun h9 => False.elim (by revert h9; decide))
  refine lv_iload_n hx hb dX7_cost_12 rfl (lv_at hl 2 rfl) ?_
  refine lv_iconst (v := (-1)) hx hb dX7_cost_13 (by decide) ?_
  refine ln_eq_m1 (tgt := 28) hx hb dX7_cost_14 (by decide) (by omega) ?_
  refine lv_iload_n hx hb dX7_cost_17 rfl (lv_at hl 2 rfl) ?_
  refine ro_S (n := 1) ⟨hx, hb, hml, hown, hts⟩ hM hS hP (c7_isOrder_ok l D tc zb q (by omega)) gX7_cost_X7_isOrder rfl (by decide +kernel) ⟨Nat.le_of_ble_eq_true rfl, Nat.le_of_ble_eq_true rfl⟩ [] rfl rfl hl.1 rfl (Nat.le_of_ble_eq_true rfl) dX7_cost_18 ⟨Nat.le_refl _, Nat.le_refl _⟩ ?_
  refine lv_if_ne (tgt := 28) hx hb dX7_cost_21 (by decide) (fun _ => ?_) (fun h9 => False.elim (by revert h9; decide))
  refine lv_iconst (v := (nI 0)) hx hb dX7_cost_28 (by decide) ?_
  refine ip_V (C := RX7) (n := 1) (wl' := [(b, .inr (6, [.int (nI 0), .ref b1, .ref b2, .ref b3, .int (nI n), .ref b4, .ref b5, .ref b6, .int (nI ln)])), (b1, .inl (tc 0, 60, .inl ((fun k => nI (g k))))), (b2, .inl (tc 0, 60, .inl ((fun k => nI (ga k))))), (b3, .inl (tc 0, 840, .inl ((fun k => nI (sv k))))), (b4, .inl (tc 0, 120, .inl ((fun k => nI (sl k))))), (b5, .inl (tc 3, 2, .inl ((fun k => bI (iz k))))), (b6, .inl (tc 2, 100, .inl ((fun k => byI (u k)))))]) ⟨hx, hb, hml, hown, hts⟩ hM hS hP hD (c7_holds0 l D tc zb b th (fun k9 => match k9 with | 1 => .ref b1 | 2 => .ref b2 | 3 => .ref b3 | 4 => .int (nI n) | 5 => .ref b4 | 6 => .ref b5 | 7 => .ref b6 | 8 => .int (nI ln) | _ => .null)) gX7_cost_X7_holds rfl (by decide +kernel) ⟨Nat.le_of_ble_eq_true rfl, Nat.le_of_ble_eq_true rfl⟩ [0] rfl rfl [(true, 0), (false, 1), (false, 2), (false, 3), (false, 4), (false, 5), (false, 6)] rfl rfl rfl (va_recv hM.1 hP (ci := 6) (q0 := 0) rfl rfl) rfl hl.1 rfl (Nat.le_of_ble_eq_true rfl) dX7_cost_29 ⟨Nat.le_refl _, Nat.le_refl _⟩ (fun H locs hP hD hS => ?_)
  refine W.eq (g2 := F0 m 32 ls [.int (bI (true))]) rfl ?_
  refine lv_if_ne (tgt := 37) hx hb dX7_cost_32 (by decide) (fun _ => ?_) (fun h9 => False.elim (by revert h9; decide))
  refine lv_iload_n hx hb dX7_cost_37 rfl (lv_at hl 2 rfl) ?_
  refine lv_iconst (v := (-1)) hx hb dX7_cost_38 (by decide) ?_
  refine ln_ne_m1 (tgt := 57) hx hb dX7_cost_39 (by decide) (by omega) ?_
  refine lv_aload_n hx hb dX7_cost_57 rfl (lv_at hl 0 rfl) ?_
  refine lv_iload_n hx hb dX7_cost_58 rfl (lv_at hl 1 rfl) ?_
  refine lv_iload_n hx hb dX7_cost_59 rfl (lv_at hl 2 rfl) ?_
  refine ro_V (C := RX7) (n := 2) ⟨hx, hb, hml, hown, hts⟩ hM hS hP (c7_costBy l D tc zb b b1 (fun k9 => match k9 with | 0 => .int (nI 0) | 2 => .ref b2 | 3 => .ref b3 | 4 => .int (nI n) | 5 => .ref b4 | 6 => .ref b5 | 7 => .ref b6 | 8 => .int (nI ln) | _ => .null) g x q hk (by first | omega | exact ok5 _ (by omega)) (by omega)) gX7_cost_X7_costBy rfl (by decide +kernel) ⟨Nat.le_of_ble_eq_true rfl, Nat.le_of_ble_eq_true rfl⟩ [0, 1] rfl (va_recv hM.1 hP (ci := 6) (q0 := 0) rfl rfl) rfl hl.1 rfl (Nat.le_of_ble_eq_true rfl) dX7_cost_60 ⟨Nat.le_refl _, Nat.le_refl _⟩ ?_
  have hf1 := k_cb_le g x q
  exact ip_iret hx hb hr hlk dX7_cost_63 hS (rfl) hP
set_option maxHeartbeats 4000000 in
set_option maxRecDepth 100000 in
theorem c7_cost_okN (l : Launch) (D : va_G) (tc : Nat → ClassId) (zb : Nat) (b b1 b2 b3 b4 b5 b6 : Nat) (th : Int32) (g ga sv : Nat → Nat) (n : Nat) (sl : Nat → Nat) (iz : Nat → Bool) (u : Nat → Nat) (ln : Nat) (x : Nat) (hk : k_ok g) (hn : n ≤ 14) (hln : ln ≤ 100) (hu : ∀ k, u k < 256) (hx9 : x < 1331) : IP l yX7_cost wsX7_cost 7 160 D tc zb (w_md tc b b1 b2 b3 b4 b5 b6 th g ga sv n sl iz u ln) (w_md tc b b1 b2 b3 b4 b5 b6 (nI 0) g ga sv n sl iz u ln) [.ref b, .int (nI x), .int (-1)] (some (.int (nI (k_mn g x (g 41) 6)))) := by
  refine IP.of (cc := cX7_cost) (maxL := 3) (ret := (some .int)) (by decide) rfl (Nat.le_of_ble_eq_true rfl) ?_
  intro p e s m args below meth c A hx hb hr hml hlk hts hown hM hS hP hD ls hl
  have hl : lv_has ls 3 [(0, .ref b), (1, .int (nI x)), (2, .int (-1))] := hl
  have hinX7 : ∀ w ∈ u_ws RX7 TX7 9, w ∈ wsX7_cost := by decide +kernel
  obtain ⟨ok0, ok1, ok2, ok3, ok4, ok5, ok6⟩ := id hk
  have hk41 : g 41 < 64 := ok1
  refine lv_aload_n hx hb dX7_cost_0 rfl (lv_at hl 0 rfl) ?_
  refine lv_iload_n hx hb dX7_cost_1 rfl (lv_at hl 1 rfl) ?_
  refine ro_S (n := 1) ⟨hx, hb, hml, hown, hts⟩ hM hS hP (c7_isQuestion_ok l D tc zb x (by omega)) gX7_cost_X7_isQuestion rfl (by decide +kernel) ⟨Nat.le_of_ble_eq_true rfl, Nat.le_of_ble_eq_true rfl⟩ [] rfl rfl hl.1 rfl (Nat.le_of_ble_eq_true rfl) dX7_cost_2 ⟨Nat.le_refl _, Nat.le_refl _⟩ ?_
  refine lv_if_ne (tgt := 12) hx hb dX7_cost_5 (by decide) (fun _ => ?_) (fun h9 => False.elim (by revert h9; decide))
  refine lv_iload_n hx hb dX7_cost_12 rfl (lv_at hl 2 rfl) ?_
  refine lv_iconst (v := (-1)) hx hb dX7_cost_13 (by decide) ?_
  refine lv_icmp_eq (tgt := 28) hx hb dX7_cost_14 (by decide) (fun _ => ?_) (fun h9 => False.elim (by revert h9; decide))
  refine lv_iconst (v := (nI 0)) hx hb dX7_cost_28 (by decide) ?_
  refine ip_V (C := RX7) (n := 1) (wl' := [(b, .inr (6, [.int (nI 0), .ref b1, .ref b2, .ref b3, .int (nI n), .ref b4, .ref b5, .ref b6, .int (nI ln)])), (b1, .inl (tc 0, 60, .inl ((fun k => nI (g k))))), (b2, .inl (tc 0, 60, .inl ((fun k => nI (ga k))))), (b3, .inl (tc 0, 840, .inl ((fun k => nI (sv k))))), (b4, .inl (tc 0, 120, .inl ((fun k => nI (sl k))))), (b5, .inl (tc 3, 2, .inl ((fun k => bI (iz k))))), (b6, .inl (tc 2, 100, .inl ((fun k => byI (u k)))))]) ⟨hx, hb, hml, hown, hts⟩ hM hS hP hD (c7_holds0 l D tc zb b th (fun k9 => match k9 with | 1 => .ref b1 | 2 => .ref b2 | 3 => .ref b3 | 4 => .int (nI n) | 5 => .ref b4 | 6 => .ref b5 | 7 => .ref b6 | 8 => .int (nI ln) | _ => .null)) gX7_cost_X7_holds rfl (by decide +kernel) ⟨Nat.le_of_ble_eq_true rfl, Nat.le_of_ble_eq_true rfl⟩ [0] rfl rfl [(true, 0), (false, 1), (false, 2), (false, 3), (false, 4), (false, 5), (false, 6)] rfl rfl rfl (va_recv hM.1 hP (ci := 6) (q0 := 0) rfl rfl) rfl hl.1 rfl (Nat.le_of_ble_eq_true rfl) dX7_cost_29 ⟨Nat.le_refl _, Nat.le_refl _⟩ (fun H locs hP hD hS => ?_)
  refine W.eq (g2 := F0 m 32 ls [.int (bI (true))]) rfl ?_
  refine lv_if_ne (tgt := 37) hx hb dX7_cost_32 (by decide) (fun _ => ?_) (fun h9 => False.elim (by revert h9; decide))
  refine lv_iload_n hx hb dX7_cost_37 rfl (lv_at hl 2 rfl) ?_
  refine lv_iconst (v := (-1)) hx hb dX7_cost_38 (by decide) ?_
  refine lv_icmp_ne (tgt := 57) hx hb dX7_cost_39 (by decide) (fun h9 => False.elim (by revert h9; decide)) (fun _ => ?_)
  refine lv_aload_n hx hb dX7_cost_42 rfl (lv_at hl 0 rfl) ?_
  refine lv_iload_n hx hb dX7_cost_43 rfl (lv_at hl 1 rfl) ?_
  refine lv_aload_n hx hb dX7_cost_44 rfl (lv_at hl 0 rfl) ?_
  refine va_get (D := D) (ci := 6) (v := .ref b1) (C := RX7) (T := TX7) (N := 9) hx hb hts hinX7 hown hM.1 hP 0 rfl rfl 1 (by decide) (hts (.fieldLink RX7 7 "TripleWaysModel" "s" "[I") (by decide +kernel)) (fun _ h9 => h9) rfl dX7_cost_45 ?_
  refine lv_bipush (v := (nI 41)) hx hb dX7_cost_48 (by decide) ?_
  refine ln_iald hx hb hM.1 hP 1 0 rfl rfl dX7_cost_50 (by decide) (by omega) (rfl) ?_
  refine ro_V (C := RX7) (n := 2) ⟨hx, hb, hml, hown, hts⟩ hM hS hP (c7_costOf l D tc zb b b1 (fun k9 => match k9 with | 0 => .int (nI 0) | 2 => .ref b2 | 3 => .ref b3 | 4 => .int (nI n) | 5 => .ref b4 | 6 => .ref b5 | 7 => .ref b6 | 8 => .int (nI ln) | _ => .null) g x (g 41) hk (by first | omega | exact ok5 _ (by omega)) (by omega)) gX7_cost_X7_costOf rfl (by decide +kernel) ⟨Nat.le_of_ble_eq_true rfl, Nat.le_of_ble_eq_true rfl⟩ [0, 1] rfl (va_recv hM.1 hP (ci := 6) (q0 := 0) rfl rfl) rfl hl.1 rfl (Nat.le_of_ble_eq_true rfl) dX7_cost_51 ⟨Nat.le_refl _, Nat.le_refl _⟩ ?_
  have hf1 := k_mn_le g x (g 41) 6
  refine lv_goto (tgt := 63) hx hb dX7_cost_54 (by decide) ?_
  exact ip_iret hx hb hr hlk dX7_cost_63 hS (rfl) hP
set_option maxHeartbeats 4000000 in
set_option maxRecDepth 100000 in
theorem c7_cost_b1 (l : Launch) (D : va_G) (tc : Nat → ClassId) (zb : Nat) (b b1 b2 b3 b4 b5 b6 : Nat) (th : Int32) (g ga sv : Nat → Nat) (n : Nat) (sl : Nat → Nat) (iz : Nat → Bool) (u : Nat → Nat) (ln : Nat) (pp p2 : Int32) (hk : k_ok g) (hn : n ≤ 14) (hln : ln ≤ 100) (hu : ∀ k, u k < 256) (hp : ¬ (nI 0 ≤ pp ∧ pp ≤ nI 1330)) : IP l yX7_cost wsX7_cost 2 45 D tc zb (w_md tc b b1 b2 b3 b4 b5 b6 th g ga sv n sl iz u ln) (w_md tc b b1 b2 b3 b4 b5 b6 (nI 1) g ga sv n sl iz u ln) [.ref b, .int (pp), .int (p2)] (some (.int (nI 0))) := by
  refine IP.of (cc := cX7_cost) (maxL := 3) (ret := (some .int)) (by decide) rfl (Nat.le_of_ble_eq_true rfl) ?_
  intro p e s m args below meth c A hx hb hr hml hlk hts hown hM hS hP hD ls hl
  have hl : lv_has ls 3 [(0, .ref b), (1, .int (pp)), (2, .int (p2))] := hl
  obtain ⟨ok0, ok1, ok2, ok3, ok4, ok5, ok6⟩ := id hk
  refine lv_aload_n hx hb dX7_cost_0 rfl (lv_at hl 0 rfl) ?_
  refine lv_iload_n hx hb dX7_cost_1 rfl (lv_at hl 1 rfl) ?_
  refine ro_S (n := 1) ⟨hx, hb, hml, hown, hts⟩ hM hS hP (c7_isQuestion_bad l D tc zb ((pp)) (by assumption)) gX7_cost_X7_isQuestion rfl (by decide +kernel) ⟨Nat.le_of_ble_eq_true rfl, Nat.le_of_ble_eq_true rfl⟩ [] rfl rfl hl.1 rfl (Nat.le_of_ble_eq_true rfl) dX7_cost_2 ⟨Nat.le_refl _, Nat.le_refl _⟩ ?_
  refine lv_if_ne (tgt := 12) hx hb dX7_cost_5 (by decide) (fun h9 => False.elim (by revert h9; decide)) (fun _ => ?_)
  refine lv_iconst (v := (nI 1)) hx hb dX7_cost_8 (by decide) ?_
  refine lv_goto (tgt := 29) hx hb dX7_cost_9 (by decide) ?_
  refine ip_V (C := RX7) (n := 1) (wl' := [(b, .inr (6, [.int (nI 1), .ref b1, .ref b2, .ref b3, .int (nI n), .ref b4, .ref b5, .ref b6, .int (nI ln)])), (b1, .inl (tc 0, 60, .inl ((fun k => nI (g k))))), (b2, .inl (tc 0, 60, .inl ((fun k => nI (ga k))))), (b3, .inl (tc 0, 840, .inl ((fun k => nI (sv k))))), (b4, .inl (tc 0, 120, .inl ((fun k => nI (sl k))))), (b5, .inl (tc 3, 2, .inl ((fun k => bI (iz k))))), (b6, .inl (tc 2, 100, .inl ((fun k => byI (u k)))))]) ⟨hx, hb, hml, hown, hts⟩ hM hS hP hD (c7_holdsP l D tc zb b th (fun k9 => match k9 with | 1 => .ref b1 | 2 => .ref b2 | 3 => .ref b3 | 4 => .int (nI n) | 5 => .ref b4 | 6 => .ref b5 | 7 => .ref b6 | 8 => .int (nI ln) | _ => .null) 1 (by omega)) gX7_cost_X7_holds rfl (by decide +kernel) ⟨Nat.le_of_ble_eq_true rfl, Nat.le_of_ble_eq_true rfl⟩ [0] rfl rfl [(true, 0), (false, 1), (false, 2), (false, 3), (false, 4), (false, 5), (false, 6)] rfl rfl rfl (va_recv hM.1 hP (ci := 6) (q0 := 0) rfl rfl) rfl hl.1 rfl (Nat.le_of_ble_eq_true rfl) dX7_cost_29 ⟨Nat.le_refl _, Nat.le_refl _⟩ (fun H locs hP hD hS => ?_)
  refine W.eq (g2 := F0 m 32 ls [.int (bI (false))]) rfl ?_
  refine lv_if_ne (tgt := 37) hx hb dX7_cost_32 (by decide) (fun h9 => False.elim (by revert h9; decide)) (fun _ => ?_)
  refine lv_iconst (v := (nI 0)) hx hb dX7_cost_35 (by decide) ?_
  exact ip_iret hx hb hr hlk dX7_cost_36 hS (rfl) hP
set_option maxHeartbeats 4000000 in
set_option maxRecDepth 100000 in
theorem c7_cost_b2 (l : Launch) (D : va_G) (tc : Nat → ClassId) (zb : Nat) (b b1 b2 b3 b4 b5 b6 : Nat) (th : Int32) (g ga sv : Nat → Nat) (n : Nat) (sl : Nat → Nat) (iz : Nat → Bool) (u : Nat → Nat) (ln : Nat) (x : Nat) (pp : Int32) (hk : k_ok g) (hn : n ≤ 14) (hln : ln ≤ 100) (hu : ∀ k, u k < 256) (hx9 : x < 1331) (hp : ¬ (nI 0 ≤ pp ∧ pp ≤ nI 5)) (hm : ¬ pp = -1) : IP l yX7_cost wsX7_cost 2 45 D tc zb (w_md tc b b1 b2 b3 b4 b5 b6 th g ga sv n sl iz u ln) (w_md tc b b1 b2 b3 b4 b5 b6 (nI 2) g ga sv n sl iz u ln) [.ref b, .int (nI x), .int (pp)] (some (.int (nI 0))) := by
  refine IP.of (cc := cX7_cost) (maxL := 3) (ret := (some .int)) (by decide) rfl (Nat.le_of_ble_eq_true rfl) ?_
  intro p e s m args below meth c A hx hb hr hml hlk hts hown hM hS hP hD ls hl
  have hl : lv_has ls 3 [(0, .ref b), (1, .int (nI x)), (2, .int (pp))] := hl
  obtain ⟨ok0, ok1, ok2, ok3, ok4, ok5, ok6⟩ := id hk
  refine lv_aload_n hx hb dX7_cost_0 rfl (lv_at hl 0 rfl) ?_
  refine lv_iload_n hx hb dX7_cost_1 rfl (lv_at hl 1 rfl) ?_
  refine ro_S (n := 1) ⟨hx, hb, hml, hown, hts⟩ hM hS hP (c7_isQuestion_ok l D tc zb x (by omega)) gX7_cost_X7_isQuestion rfl (by decide +kernel) ⟨Nat.le_of_ble_eq_true rfl, Nat.le_of_ble_eq_true rfl⟩ [] rfl rfl hl.1 rfl (Nat.le_of_ble_eq_true rfl) dX7_cost_2 ⟨Nat.le_refl _, Nat.le_refl _⟩ ?_
  refine lv_if_ne (tgt := 12) hx hb dX7_cost_5 (by decide) (fun _ => ?_) (fun h9 => False.elim (by revert h9; decide))
  refine lv_iload_n hx hb dX7_cost_12 rfl (lv_at hl 2 rfl) ?_
  refine lv_iconst (v := (-1)) hx hb dX7_cost_13 (by decide) ?_
  refine lv_icmp_eq (tgt := 28) hx hb dX7_cost_14 (by decide) (fun h1 => ?_) (fun h1 => ?_)
  · exact absurd (by assumption) hm
  · refine lv_iload_n hx hb dX7_cost_17 rfl (lv_at hl 2 rfl) ?_
    refine ro_S (n := 1) ⟨hx, hb, hml, hown, hts⟩ hM hS hP (c7_isOrder_bad l D tc zb ((pp)) (by assumption)) gX7_cost_X7_isOrder rfl (by decide +kernel) ⟨Nat.le_of_ble_eq_true rfl, Nat.le_of_ble_eq_true rfl⟩ [] rfl rfl hl.1 rfl (Nat.le_of_ble_eq_true rfl) dX7_cost_18 ⟨Nat.le_refl _, Nat.le_refl _⟩ ?_
    refine lv_if_ne (tgt := 28) hx hb dX7_cost_21 (by decide) (fun h9 => False.elim (by revert h9; decide)) (fun _ => ?_)
    refine lv_iconst (v := (nI 2)) hx hb dX7_cost_24 (by decide) ?_
    refine lv_goto (tgt := 29) hx hb dX7_cost_25 (by decide) ?_
    refine ip_V (C := RX7) (n := 1) (wl' := [(b, .inr (6, [.int (nI 2), .ref b1, .ref b2, .ref b3, .int (nI n), .ref b4, .ref b5, .ref b6, .int (nI ln)])), (b1, .inl (tc 0, 60, .inl ((fun k => nI (g k))))), (b2, .inl (tc 0, 60, .inl ((fun k => nI (ga k))))), (b3, .inl (tc 0, 840, .inl ((fun k => nI (sv k))))), (b4, .inl (tc 0, 120, .inl ((fun k => nI (sl k))))), (b5, .inl (tc 3, 2, .inl ((fun k => bI (iz k))))), (b6, .inl (tc 2, 100, .inl ((fun k => byI (u k)))))]) ⟨hx, hb, hml, hown, hts⟩ hM hS hP hD (c7_holdsP l D tc zb b th (fun k9 => match k9 with | 1 => .ref b1 | 2 => .ref b2 | 3 => .ref b3 | 4 => .int (nI n) | 5 => .ref b4 | 6 => .ref b5 | 7 => .ref b6 | 8 => .int (nI ln) | _ => .null) 2 (by omega)) gX7_cost_X7_holds rfl (by decide +kernel) ⟨Nat.le_of_ble_eq_true rfl, Nat.le_of_ble_eq_true rfl⟩ [0] rfl rfl [(true, 0), (false, 1), (false, 2), (false, 3), (false, 4), (false, 5), (false, 6)] rfl rfl rfl (va_recv hM.1 hP (ci := 6) (q0 := 0) rfl rfl) rfl hl.1 rfl (Nat.le_of_ble_eq_true rfl) dX7_cost_29 ⟨Nat.le_refl _, Nat.le_refl _⟩ (fun H locs hP hD hS => ?_)
    refine W.eq (g2 := F0 m 32 ls [.int (bI (false))]) rfl ?_
    refine lv_if_ne (tgt := 37) hx hb dX7_cost_32 (by decide) (fun h9 => False.elim (by revert h9; decide)) (fun _ => ?_)
    refine lv_iconst (v := (nI 0)) hx hb dX7_cost_35 (by decide) ?_
    exact ip_iret hx hb hr hlk dX7_cost_36 hS (rfl) hP
set_option maxHeartbeats 4000000 in
set_option maxRecDepth 100000 in
theorem c7_by_ok (l : Launch) (D : va_G) (tc : Nat → ClassId) (zb : Nat) (b b1 b2 b3 b4 b5 b6 : Nat) (th : Int32) (g ga sv : Nat → Nat) (n : Nat) (sl : Nat → Nat) (iz : Nat → Bool) (u : Nat → Nat) (ln : Nat) (x : Nat) (hk : k_ok g) (hn : n ≤ 14) (hln : ln ≤ 100) (hu : ∀ k, u k < 256) (hx9 : x < 1331) : IP l yX7_by wsX7_by 6 137 D tc zb (w_md tc b b1 b2 b3 b4 b5 b6 th g ga sv n sl iz u ln) (w_md tc b b1 b2 b3 b4 b5 b6 (nI 0) g ga sv n sl iz u ln) [.ref b, .int (nI x)] (some (.int (oI (k_or g x (g 41) 6)))) := by
  refine IP.of (cc := cX7_by) (maxL := 2) (ret := (some .int)) (by decide) rfl (Nat.le_of_ble_eq_true rfl) ?_
  intro p e s m args below meth c A hx hb hr hml hlk hts hown hM hS hP hD ls hl
  have hl : lv_has ls 2 [(0, .ref b), (1, .int (nI x))] := hl
  have hinX7 : ∀ w ∈ u_ws RX7 TX7 9, w ∈ wsX7_by := by decide +kernel
  obtain ⟨ok0, ok1, ok2, ok3, ok4, ok5, ok6⟩ := id hk
  have hk41 : g 41 < 64 := ok1
  refine lv_aload_n hx hb dX7_by_0 rfl (lv_at hl 0 rfl) ?_
  refine lv_iload_n hx hb dX7_by_1 rfl (lv_at hl 1 rfl) ?_
  refine ro_S (n := 1) ⟨hx, hb, hml, hown, hts⟩ hM hS hP (c7_isQuestion_ok l D tc zb x (by omega)) gX7_by_X7_isQuestion rfl (by decide +kernel) ⟨Nat.le_of_ble_eq_true rfl, Nat.le_of_ble_eq_true rfl⟩ [] rfl rfl hl.1 rfl (Nat.le_of_ble_eq_true rfl) dX7_by_2 ⟨Nat.le_refl _, Nat.le_refl _⟩ ?_
  refine lv_if_eq (tgt := 12) hx hb dX7_by_5 (by decide) (fun h9 => False.elim (by revert h9; decide)) (fun _ => ?_)
  refine lv_iconst (v := (nI 0)) hx hb dX7_by_8 (by decide) ?_
  refine lv_goto (tgt := 13) hx hb dX7_by_9 (by decide) ?_
  refine ip_V (C := RX7) (n := 1) (wl' := [(b, .inr (6, [.int (nI 0), .ref b1, .ref b2, .ref b3, .int (nI n), .ref b4, .ref b5, .ref b6, .int (nI ln)])), (b1, .inl (tc 0, 60, .inl ((fun k => nI (g k))))), (b2, .inl (tc 0, 60, .inl ((fun k => nI (ga k))))), (b3, .inl (tc 0, 840, .inl ((fun k => nI (sv k))))), (b4, .inl (tc 0, 120, .inl ((fun k => nI (sl k))))), (b5, .inl (tc 3, 2, .inl ((fun k => bI (iz k))))), (b6, .inl (tc 2, 100, .inl ((fun k => byI (u k)))))]) ⟨hx, hb, hml, hown, hts⟩ hM hS hP hD (c7_holds0 l D tc zb b th (fun k9 => match k9 with | 1 => .ref b1 | 2 => .ref b2 | 3 => .ref b3 | 4 => .int (nI n) | 5 => .ref b4 | 6 => .ref b5 | 7 => .ref b6 | 8 => .int (nI ln) | _ => .null)) gX7_by_X7_holds rfl (by decide +kernel) ⟨Nat.le_of_ble_eq_true rfl, Nat.le_of_ble_eq_true rfl⟩ [0] rfl rfl [(true, 0), (false, 1), (false, 2), (false, 3), (false, 4), (false, 5), (false, 6)] rfl rfl rfl (va_recv hM.1 hP (ci := 6) (q0 := 0) rfl rfl) rfl hl.1 rfl (Nat.le_of_ble_eq_true rfl) dX7_by_13 ⟨Nat.le_refl _, Nat.le_refl _⟩ (fun H locs hP hD hS => ?_)
  refine W.eq (g2 := F0 m 16 ls [.int (bI (true))]) rfl ?_
  refine lv_if_eq (tgt := 34) hx hb dX7_by_16 (by decide) (fun h9 => False.elim (by revert h9; decide)) (fun _ => ?_)
  refine lv_aload_n hx hb dX7_by_19 rfl (lv_at hl 0 rfl) ?_
  refine lv_iload_n hx hb dX7_by_20 rfl (lv_at hl 1 rfl) ?_
  refine lv_aload_n hx hb dX7_by_21 rfl (lv_at hl 0 rfl) ?_
  refine va_get (D := D) (ci := 6) (v := .ref b1) (C := RX7) (T := TX7) (N := 9) hx hb hts hinX7 hown hM.1 hP 0 rfl rfl 1 (by decide) (hts (.fieldLink RX7 7 "TripleWaysModel" "s" "[I") (by decide +kernel)) (fun _ h9 => h9) rfl dX7_by_22 ?_
  refine lv_bipush (v := (nI 41)) hx hb dX7_by_25 (by decide) ?_
  refine ln_iald hx hb hM.1 hP 1 0 rfl rfl dX7_by_27 (by decide) (by omega) (rfl) ?_
  refine ro_V (C := RX7) (n := 2) ⟨hx, hb, hml, hown, hts⟩ hM hS hP (c7_orderOf l D tc zb b b1 (fun k9 => match k9 with | 0 => .int (nI 0) | 2 => .ref b2 | 3 => .ref b3 | 4 => .int (nI n) | 5 => .ref b4 | 6 => .ref b5 | 7 => .ref b6 | 8 => .int (nI ln) | _ => .null) g x (g 41) hk (by first | omega | exact ok5 _ (by omega)) (by omega)) gX7_by_X7_orderOf rfl (by decide +kernel) ⟨Nat.le_of_ble_eq_true rfl, Nat.le_of_ble_eq_true rfl⟩ [0, 1] rfl (va_recv hM.1 hP (ci := 6) (q0 := 0) rfl rfl) rfl hl.1 rfl (Nat.le_of_ble_eq_true rfl) dX7_by_28 ⟨Nat.le_refl _, Nat.le_refl _⟩ ?_
  cases ho28 : k_or g x (g 41) 6 with
  | none =>
    refine ln_eq (x' := -1) rfl ?_
    refine lv_goto (tgt := 35) hx hb dX7_by_31 (by decide) ?_
    exact ip_iret hx hb hr hlk dX7_by_35 hS (show oI none = _ from congrArg oI (by rfl)) hP
  | some r28 =>
    refine ln_eq (x' := nI r28) rfl ?_
    refine lv_goto (tgt := 35) hx hb dX7_by_31 (by decide) ?_
    exact ip_iret hx hb hr hlk dX7_by_35 hS (show oI (some r28) = _ from congrArg oI (by rfl)) hP
set_option maxHeartbeats 4000000 in
set_option maxRecDepth 100000 in
theorem c7_by_b1 (l : Launch) (D : va_G) (tc : Nat → ClassId) (zb : Nat) (b b1 b2 b3 b4 b5 b6 : Nat) (th : Int32) (g ga sv : Nat → Nat) (n : Nat) (sl : Nat → Nat) (iz : Nat → Bool) (u : Nat → Nat) (ln : Nat) (pp : Int32) (hk : k_ok g) (hn : n ≤ 14) (hln : ln ≤ 100) (hu : ∀ k, u k < 256) (hp : ¬ (nI 0 ≤ pp ∧ pp ≤ nI 1330)) : IP l yX7_by wsX7_by 2 45 D tc zb (w_md tc b b1 b2 b3 b4 b5 b6 th g ga sv n sl iz u ln) (w_md tc b b1 b2 b3 b4 b5 b6 (nI 1) g ga sv n sl iz u ln) [.ref b, .int (pp)] (some (.int (nI 0))) := by
  refine IP.of (cc := cX7_by) (maxL := 2) (ret := (some .int)) (by decide) rfl (Nat.le_of_ble_eq_true rfl) ?_
  intro p e s m args below meth c A hx hb hr hml hlk hts hown hM hS hP hD ls hl
  have hl : lv_has ls 2 [(0, .ref b), (1, .int (pp))] := hl
  obtain ⟨ok0, ok1, ok2, ok3, ok4, ok5, ok6⟩ := id hk
  refine lv_aload_n hx hb dX7_by_0 rfl (lv_at hl 0 rfl) ?_
  refine lv_iload_n hx hb dX7_by_1 rfl (lv_at hl 1 rfl) ?_
  refine ro_S (n := 1) ⟨hx, hb, hml, hown, hts⟩ hM hS hP (c7_isQuestion_bad l D tc zb ((pp)) (by assumption)) gX7_by_X7_isQuestion rfl (by decide +kernel) ⟨Nat.le_of_ble_eq_true rfl, Nat.le_of_ble_eq_true rfl⟩ [] rfl rfl hl.1 rfl (Nat.le_of_ble_eq_true rfl) dX7_by_2 ⟨Nat.le_refl _, Nat.le_refl _⟩ ?_
  refine lv_if_eq (tgt := 12) hx hb dX7_by_5 (by decide) (fun _ => ?_) (fun h9 => False.elim (by revert h9; decide))
  refine lv_iconst (v := (nI 1)) hx hb dX7_by_12 (by decide) ?_
  refine ip_V (C := RX7) (n := 1) (wl' := [(b, .inr (6, [.int (nI 1), .ref b1, .ref b2, .ref b3, .int (nI n), .ref b4, .ref b5, .ref b6, .int (nI ln)])), (b1, .inl (tc 0, 60, .inl ((fun k => nI (g k))))), (b2, .inl (tc 0, 60, .inl ((fun k => nI (ga k))))), (b3, .inl (tc 0, 840, .inl ((fun k => nI (sv k))))), (b4, .inl (tc 0, 120, .inl ((fun k => nI (sl k))))), (b5, .inl (tc 3, 2, .inl ((fun k => bI (iz k))))), (b6, .inl (tc 2, 100, .inl ((fun k => byI (u k)))))]) ⟨hx, hb, hml, hown, hts⟩ hM hS hP hD (c7_holdsP l D tc zb b th (fun k9 => match k9 with | 1 => .ref b1 | 2 => .ref b2 | 3 => .ref b3 | 4 => .int (nI n) | 5 => .ref b4 | 6 => .ref b5 | 7 => .ref b6 | 8 => .int (nI ln) | _ => .null) 1 (by omega)) gX7_by_X7_holds rfl (by decide +kernel) ⟨Nat.le_of_ble_eq_true rfl, Nat.le_of_ble_eq_true rfl⟩ [0] rfl rfl [(true, 0), (false, 1), (false, 2), (false, 3), (false, 4), (false, 5), (false, 6)] rfl rfl rfl (va_recv hM.1 hP (ci := 6) (q0 := 0) rfl rfl) rfl hl.1 rfl (Nat.le_of_ble_eq_true rfl) dX7_by_13 ⟨Nat.le_refl _, Nat.le_refl _⟩ (fun H locs hP hD hS => ?_)
  refine W.eq (g2 := F0 m 16 ls [.int (bI (false))]) rfl ?_
  refine lv_if_eq (tgt := 34) hx hb dX7_by_16 (by decide) (fun _ => ?_) (fun h9 => False.elim (by revert h9; decide))
  refine lv_iconst (v := (nI 0)) hx hb dX7_by_34 (by decide) ?_
  exact ip_iret hx hb hr hlk dX7_by_35 hS (rfl) hP
set_option maxHeartbeats 4000000 in
set_option maxRecDepth 100000 in
theorem c7_reach_ok (l : Launch) (D : va_G) (tc : Nat → ClassId) (zb : Nat) (b b1 b2 b3 b4 b5 b6 : Nat) (th : Int32) (g ga sv : Nat → Nat) (n : Nat) (sl : Nat → Nat) (iz : Nat → Bool) (u : Nat → Nat) (ln : Nat) (x q : Nat) (hk : k_ok g) (hn : n ≤ 14) (hln : ln ≤ 100) (hu : ∀ k, u k < 256) (hx9 : x < 1331) (hq : q < 6) : IP l yX7_reach wsX7_reach 3 64 D tc zb (w_md tc b b1 b2 b3 b4 b5 b6 th g ga sv n sl iz u ln) (w_md tc b b1 b2 b3 b4 b5 b6 (nI 0) g ga sv n sl iz u ln) [.ref b, .int (nI x), .int (nI q)] (some (.int (nI (k_rch x q)))) := by
  refine IP.of (cc := cX7_reach) (maxL := 3) (ret := (some .int)) (by decide) rfl (Nat.le_of_ble_eq_true rfl) ?_
  intro p e s m args below meth c A hx hb hr hml hlk hts hown hM hS hP hD ls hl
  have hl : lv_has ls 3 [(0, .ref b), (1, .int (nI x)), (2, .int (nI q))] := hl
  obtain ⟨ok0, ok1, ok2, ok3, ok4, ok5, ok6⟩ := id hk
  refine lv_aload_n hx hb dX7_reach_0 rfl (lv_at hl 0 rfl) ?_
  refine lv_iload_n hx hb dX7_reach_1 rfl (lv_at hl 1 rfl) ?_
  refine ro_S (n := 1) ⟨hx, hb, hml, hown, hts⟩ hM hS hP (c7_isQuestion_ok l D tc zb x (by omega)) gX7_reach_X7_isQuestion rfl (by decide +kernel) ⟨Nat.le_of_ble_eq_true rfl, Nat.le_of_ble_eq_true rfl⟩ [] rfl rfl hl.1 rfl (Nat.le_of_ble_eq_true rfl) dX7_reach_2 ⟨Nat.le_refl _, Nat.le_refl _⟩ ?_
  refine lv_if_ne (tgt := 12) hx hb dX7_reach_5 (by decide) (fun _ => ?_) (fun h9 => False.elim (by revert h9; decide))
  refine lv_iload_n hx hb dX7_reach_12 rfl (lv_at hl 2 rfl) ?_
  refine ro_S (n := 1) ⟨hx, hb, hml, hown, hts⟩ hM hS hP (c7_isOrder_ok l D tc zb q (by omega)) gX7_reach_X7_isOrder rfl (by decide +kernel) ⟨Nat.le_of_ble_eq_true rfl, Nat.le_of_ble_eq_true rfl⟩ [] rfl rfl hl.1 rfl (Nat.le_of_ble_eq_true rfl) dX7_reach_13 ⟨Nat.le_refl _, Nat.le_refl _⟩ ?_
  refine lv_if_ne (tgt := 23) hx hb dX7_reach_16 (by decide) (fun _ => ?_) (fun h9 => False.elim (by revert h9; decide))
  refine lv_iconst (v := (nI 0)) hx hb dX7_reach_23 (by decide) ?_
  refine ip_V (C := RX7) (n := 1) (wl' := [(b, .inr (6, [.int (nI 0), .ref b1, .ref b2, .ref b3, .int (nI n), .ref b4, .ref b5, .ref b6, .int (nI ln)])), (b1, .inl (tc 0, 60, .inl ((fun k => nI (g k))))), (b2, .inl (tc 0, 60, .inl ((fun k => nI (ga k))))), (b3, .inl (tc 0, 840, .inl ((fun k => nI (sv k))))), (b4, .inl (tc 0, 120, .inl ((fun k => nI (sl k))))), (b5, .inl (tc 3, 2, .inl ((fun k => bI (iz k))))), (b6, .inl (tc 2, 100, .inl ((fun k => byI (u k)))))]) ⟨hx, hb, hml, hown, hts⟩ hM hS hP hD (c7_holds0 l D tc zb b th (fun k9 => match k9 with | 1 => .ref b1 | 2 => .ref b2 | 3 => .ref b3 | 4 => .int (nI n) | 5 => .ref b4 | 6 => .ref b5 | 7 => .ref b6 | 8 => .int (nI ln) | _ => .null)) gX7_reach_X7_holds rfl (by decide +kernel) ⟨Nat.le_of_ble_eq_true rfl, Nat.le_of_ble_eq_true rfl⟩ [0] rfl rfl [(true, 0), (false, 1), (false, 2), (false, 3), (false, 4), (false, 5), (false, 6)] rfl rfl rfl (va_recv hM.1 hP (ci := 6) (q0 := 0) rfl rfl) rfl hl.1 rfl (Nat.le_of_ble_eq_true rfl) dX7_reach_24 ⟨Nat.le_refl _, Nat.le_refl _⟩ (fun H locs hP hD hS => ?_)
  refine W.eq (g2 := F0 m 27 ls [.int (bI (true))]) rfl ?_
  refine lv_if_eq (tgt := 38) hx hb dX7_reach_27 (by decide) (fun h9 => False.elim (by revert h9; decide)) (fun _ => ?_)
  refine lv_iload_n hx hb dX7_reach_30 rfl (lv_at hl 1 rfl) ?_
  refine lv_iload_n hx hb dX7_reach_31 rfl (lv_at hl 2 rfl) ?_
  refine ro_S (n := 2) ⟨hx, hb, hml, hown, hts⟩ hM hS hP (c7_reachOf l D tc zb x q (by first | omega | exact ok5 _ (by omega)) (by omega)) gX7_reach_X7_reachOf rfl (by decide +kernel) ⟨Nat.le_of_ble_eq_true rfl, Nat.le_of_ble_eq_true rfl⟩ [] rfl rfl hl.1 rfl (Nat.le_of_ble_eq_true rfl) dX7_reach_32 ⟨Nat.le_refl _, Nat.le_refl _⟩ ?_
  have hf1 := k_rch_le x q
  refine lv_goto (tgt := 39) hx hb dX7_reach_35 (by decide) ?_
  exact ip_iret hx hb hr hlk dX7_reach_39 hS (rfl) hP
set_option maxHeartbeats 4000000 in
set_option maxRecDepth 100000 in
theorem c7_reach_b1 (l : Launch) (D : va_G) (tc : Nat → ClassId) (zb : Nat) (b b1 b2 b3 b4 b5 b6 : Nat) (th : Int32) (g ga sv : Nat → Nat) (n : Nat) (sl : Nat → Nat) (iz : Nat → Bool) (u : Nat → Nat) (ln : Nat) (pp p2 : Int32) (hk : k_ok g) (hn : n ≤ 14) (hln : ln ≤ 100) (hu : ∀ k, u k < 256) (hp : ¬ (nI 0 ≤ pp ∧ pp ≤ nI 1330)) : IP l yX7_reach wsX7_reach 2 45 D tc zb (w_md tc b b1 b2 b3 b4 b5 b6 th g ga sv n sl iz u ln) (w_md tc b b1 b2 b3 b4 b5 b6 (nI 1) g ga sv n sl iz u ln) [.ref b, .int (pp), .int (p2)] (some (.int (nI 0))) := by
  refine IP.of (cc := cX7_reach) (maxL := 3) (ret := (some .int)) (by decide) rfl (Nat.le_of_ble_eq_true rfl) ?_
  intro p e s m args below meth c A hx hb hr hml hlk hts hown hM hS hP hD ls hl
  have hl : lv_has ls 3 [(0, .ref b), (1, .int (pp)), (2, .int (p2))] := hl
  obtain ⟨ok0, ok1, ok2, ok3, ok4, ok5, ok6⟩ := id hk
  refine lv_aload_n hx hb dX7_reach_0 rfl (lv_at hl 0 rfl) ?_
  refine lv_iload_n hx hb dX7_reach_1 rfl (lv_at hl 1 rfl) ?_
  refine ro_S (n := 1) ⟨hx, hb, hml, hown, hts⟩ hM hS hP (c7_isQuestion_bad l D tc zb ((pp)) (by assumption)) gX7_reach_X7_isQuestion rfl (by decide +kernel) ⟨Nat.le_of_ble_eq_true rfl, Nat.le_of_ble_eq_true rfl⟩ [] rfl rfl hl.1 rfl (Nat.le_of_ble_eq_true rfl) dX7_reach_2 ⟨Nat.le_refl _, Nat.le_refl _⟩ ?_
  refine lv_if_ne (tgt := 12) hx hb dX7_reach_5 (by decide) (fun h9 => False.elim (by revert h9; decide)) (fun _ => ?_)
  refine lv_iconst (v := (nI 1)) hx hb dX7_reach_8 (by decide) ?_
  refine lv_goto (tgt := 24) hx hb dX7_reach_9 (by decide) ?_
  refine ip_V (C := RX7) (n := 1) (wl' := [(b, .inr (6, [.int (nI 1), .ref b1, .ref b2, .ref b3, .int (nI n), .ref b4, .ref b5, .ref b6, .int (nI ln)])), (b1, .inl (tc 0, 60, .inl ((fun k => nI (g k))))), (b2, .inl (tc 0, 60, .inl ((fun k => nI (ga k))))), (b3, .inl (tc 0, 840, .inl ((fun k => nI (sv k))))), (b4, .inl (tc 0, 120, .inl ((fun k => nI (sl k))))), (b5, .inl (tc 3, 2, .inl ((fun k => bI (iz k))))), (b6, .inl (tc 2, 100, .inl ((fun k => byI (u k)))))]) ⟨hx, hb, hml, hown, hts⟩ hM hS hP hD (c7_holdsP l D tc zb b th (fun k9 => match k9 with | 1 => .ref b1 | 2 => .ref b2 | 3 => .ref b3 | 4 => .int (nI n) | 5 => .ref b4 | 6 => .ref b5 | 7 => .ref b6 | 8 => .int (nI ln) | _ => .null) 1 (by omega)) gX7_reach_X7_holds rfl (by decide +kernel) ⟨Nat.le_of_ble_eq_true rfl, Nat.le_of_ble_eq_true rfl⟩ [0] rfl rfl [(true, 0), (false, 1), (false, 2), (false, 3), (false, 4), (false, 5), (false, 6)] rfl rfl rfl (va_recv hM.1 hP (ci := 6) (q0 := 0) rfl rfl) rfl hl.1 rfl (Nat.le_of_ble_eq_true rfl) dX7_reach_24 ⟨Nat.le_refl _, Nat.le_refl _⟩ (fun H locs hP hD hS => ?_)
  refine W.eq (g2 := F0 m 27 ls [.int (bI (false))]) rfl ?_
  refine lv_if_eq (tgt := 38) hx hb dX7_reach_27 (by decide) (fun _ => ?_) (fun h9 => False.elim (by revert h9; decide))
  refine lv_iconst (v := (nI 0)) hx hb dX7_reach_38 (by decide) ?_
  exact ip_iret hx hb hr hlk dX7_reach_39 hS (rfl) hP
set_option maxHeartbeats 4000000 in
set_option maxRecDepth 100000 in
theorem c7_reach_b2 (l : Launch) (D : va_G) (tc : Nat → ClassId) (zb : Nat) (b b1 b2 b3 b4 b5 b6 : Nat) (th : Int32) (g ga sv : Nat → Nat) (n : Nat) (sl : Nat → Nat) (iz : Nat → Bool) (u : Nat → Nat) (ln : Nat) (x : Nat) (pp : Int32) (hk : k_ok g) (hn : n ≤ 14) (hln : ln ≤ 100) (hu : ∀ k, u k < 256) (hx9 : x < 1331) (hp : ¬ (nI 0 ≤ pp ∧ pp ≤ nI 5)) : IP l yX7_reach wsX7_reach 2 45 D tc zb (w_md tc b b1 b2 b3 b4 b5 b6 th g ga sv n sl iz u ln) (w_md tc b b1 b2 b3 b4 b5 b6 (nI 2) g ga sv n sl iz u ln) [.ref b, .int (nI x), .int (pp)] (some (.int (nI 0))) := by
  refine IP.of (cc := cX7_reach) (maxL := 3) (ret := (some .int)) (by decide) rfl (Nat.le_of_ble_eq_true rfl) ?_
  intro p e s m args below meth c A hx hb hr hml hlk hts hown hM hS hP hD ls hl
  have hl : lv_has ls 3 [(0, .ref b), (1, .int (nI x)), (2, .int (pp))] := hl
  obtain ⟨ok0, ok1, ok2, ok3, ok4, ok5, ok6⟩ := id hk
  refine lv_aload_n hx hb dX7_reach_0 rfl (lv_at hl 0 rfl) ?_
  refine lv_iload_n hx hb dX7_reach_1 rfl (lv_at hl 1 rfl) ?_
  refine ro_S (n := 1) ⟨hx, hb, hml, hown, hts⟩ hM hS hP (c7_isQuestion_ok l D tc zb x (by omega)) gX7_reach_X7_isQuestion rfl (by decide +kernel) ⟨Nat.le_of_ble_eq_true rfl, Nat.le_of_ble_eq_true rfl⟩ [] rfl rfl hl.1 rfl (Nat.le_of_ble_eq_true rfl) dX7_reach_2 ⟨Nat.le_refl _, Nat.le_refl _⟩ ?_
  refine lv_if_ne (tgt := 12) hx hb dX7_reach_5 (by decide) (fun _ => ?_) (fun h9 => False.elim (by revert h9; decide))
  refine lv_iload_n hx hb dX7_reach_12 rfl (lv_at hl 2 rfl) ?_
  refine ro_S (n := 1) ⟨hx, hb, hml, hown, hts⟩ hM hS hP (c7_isOrder_bad l D tc zb ((pp)) (by assumption)) gX7_reach_X7_isOrder rfl (by decide +kernel) ⟨Nat.le_of_ble_eq_true rfl, Nat.le_of_ble_eq_true rfl⟩ [] rfl rfl hl.1 rfl (Nat.le_of_ble_eq_true rfl) dX7_reach_13 ⟨Nat.le_refl _, Nat.le_refl _⟩ ?_
  refine lv_if_ne (tgt := 23) hx hb dX7_reach_16 (by decide) (fun h9 => False.elim (by revert h9; decide)) (fun _ => ?_)
  refine lv_iconst (v := (nI 2)) hx hb dX7_reach_19 (by decide) ?_
  refine lv_goto (tgt := 24) hx hb dX7_reach_20 (by decide) ?_
  refine ip_V (C := RX7) (n := 1) (wl' := [(b, .inr (6, [.int (nI 2), .ref b1, .ref b2, .ref b3, .int (nI n), .ref b4, .ref b5, .ref b6, .int (nI ln)])), (b1, .inl (tc 0, 60, .inl ((fun k => nI (g k))))), (b2, .inl (tc 0, 60, .inl ((fun k => nI (ga k))))), (b3, .inl (tc 0, 840, .inl ((fun k => nI (sv k))))), (b4, .inl (tc 0, 120, .inl ((fun k => nI (sl k))))), (b5, .inl (tc 3, 2, .inl ((fun k => bI (iz k))))), (b6, .inl (tc 2, 100, .inl ((fun k => byI (u k)))))]) ⟨hx, hb, hml, hown, hts⟩ hM hS hP hD (c7_holdsP l D tc zb b th (fun k9 => match k9 with | 1 => .ref b1 | 2 => .ref b2 | 3 => .ref b3 | 4 => .int (nI n) | 5 => .ref b4 | 6 => .ref b5 | 7 => .ref b6 | 8 => .int (nI ln) | _ => .null) 2 (by omega)) gX7_reach_X7_holds rfl (by decide +kernel) ⟨Nat.le_of_ble_eq_true rfl, Nat.le_of_ble_eq_true rfl⟩ [0] rfl rfl [(true, 0), (false, 1), (false, 2), (false, 3), (false, 4), (false, 5), (false, 6)] rfl rfl rfl (va_recv hM.1 hP (ci := 6) (q0 := 0) rfl rfl) rfl hl.1 rfl (Nat.le_of_ble_eq_true rfl) dX7_reach_24 ⟨Nat.le_refl _, Nat.le_refl _⟩ (fun H locs hP hD hS => ?_)
  refine W.eq (g2 := F0 m 27 ls [.int (bI (false))]) rfl ?_
  refine lv_if_eq (tgt := 38) hx hb dX7_reach_27 (by decide) (fun _ => ?_) (fun h9 => False.elim (by revert h9; decide))
  refine lv_iconst (v := (nI 0)) hx hb dX7_reach_38 (by decide) ?_
  exact ip_iret hx hb hr hlk dX7_reach_39 hS (rfl) hP
set_option maxHeartbeats 4000000 in
set_option maxRecDepth 100000 in
theorem c7_answer_ok (l : Launch) (D : va_G) (tc : Nat → ClassId) (zb : Nat) (b b1 b2 b3 b4 b5 b6 : Nat) (th : Int32) (g ga sv : Nat → Nat) (n : Nat) (sl : Nat → Nat) (iz : Nat → Bool) (u : Nat → Nat) (ln : Nat) (x pl : Nat) (hk : k_ok g) (hn : n ≤ 14) (hln : ln ≤ 100) (hu : ∀ k, u k < 256) (hx9 : x < 1331) (hpl : pl < 2 ^ 31) : IP l yX7_answer wsX7_answer 6 137 D tc zb (w_md tc b b1 b2 b3 b4 b5 b6 th g ga sv n sl iz u ln) (w_md tc b b1 b2 b3 b4 b5 b6 (nI 0) g ga sv n sl iz u ln) [.ref b, .int (nI x), .int (nI pl)] (some (.int (oI (k_aa g x (k_or g x (g 41) 6) pl (g 0))))) := by
  refine IP.of (cc := cX7_answer) (maxL := 3) (ret := (some .int)) (by decide) rfl (Nat.le_of_ble_eq_true rfl) ?_
  intro p e s m args below meth c A hx hb hr hml hlk hts hown hM hS hP hD ls hl
  have hl : lv_has ls 3 [(0, .ref b), (1, .int (nI x)), (2, .int (nI pl))] := hl
  have hinX7 : ∀ w ∈ u_ws RX7 TX7 9, w ∈ wsX7_answer := by decide +kernel
  obtain ⟨ok0, ok1, ok2, ok3, ok4, ok5, ok6⟩ := id hk
  have hk41 : g 41 < 64 := ok1
  refine lv_aload_n hx hb dX7_answer_0 rfl (lv_at hl 0 rfl) ?_
  refine lv_iload_n hx hb dX7_answer_1 rfl (lv_at hl 1 rfl) ?_
  refine ro_S (n := 1) ⟨hx, hb, hml, hown, hts⟩ hM hS hP (c7_isQuestion_ok l D tc zb x (by omega)) gX7_answer_X7_isQuestion rfl (by decide +kernel) ⟨Nat.le_of_ble_eq_true rfl, Nat.le_of_ble_eq_true rfl⟩ [] rfl rfl hl.1 rfl (Nat.le_of_ble_eq_true rfl) dX7_answer_2 ⟨Nat.le_refl _, Nat.le_refl _⟩ ?_
  refine lv_if_eq (tgt := 16) hx hb dX7_answer_5 (by decide) (fun h9 => False.elim (by revert h9; decide)) (fun _ => ?_)
  refine lv_iload_n hx hb dX7_answer_8 rfl (lv_at hl 2 rfl) ?_
  refine ln_if_lt (tgt := 16) hx hb dX7_answer_9 (by decide) (by omega) ?_
  refine lv_iconst (v := (nI 0)) hx hb dX7_answer_12 (by decide) ?_
  refine lv_goto (tgt := 17) hx hb dX7_answer_13 (by decide) ?_
  refine ip_V (C := RX7) (n := 1) (wl' := [(b, .inr (6, [.int (nI 0), .ref b1, .ref b2, .ref b3, .int (nI n), .ref b4, .ref b5, .ref b6, .int (nI ln)])), (b1, .inl (tc 0, 60, .inl ((fun k => nI (g k))))), (b2, .inl (tc 0, 60, .inl ((fun k => nI (ga k))))), (b3, .inl (tc 0, 840, .inl ((fun k => nI (sv k))))), (b4, .inl (tc 0, 120, .inl ((fun k => nI (sl k))))), (b5, .inl (tc 3, 2, .inl ((fun k => bI (iz k))))), (b6, .inl (tc 2, 100, .inl ((fun k => byI (u k)))))]) ⟨hx, hb, hml, hown, hts⟩ hM hS hP hD (c7_holds0 l D tc zb b th (fun k9 => match k9 with | 1 => .ref b1 | 2 => .ref b2 | 3 => .ref b3 | 4 => .int (nI n) | 5 => .ref b4 | 6 => .ref b5 | 7 => .ref b6 | 8 => .int (nI ln) | _ => .null)) gX7_answer_X7_holds rfl (by decide +kernel) ⟨Nat.le_of_ble_eq_true rfl, Nat.le_of_ble_eq_true rfl⟩ [0] rfl rfl [(true, 0), (false, 1), (false, 2), (false, 3), (false, 4), (false, 5), (false, 6)] rfl rfl rfl (va_recv hM.1 hP (ci := 6) (q0 := 0) rfl rfl) rfl hl.1 rfl (Nat.le_of_ble_eq_true rfl) dX7_answer_17 ⟨Nat.le_refl _, Nat.le_refl _⟩ (fun H locs hP hD hS => ?_)
  refine W.eq (g2 := F0 m 20 ls [.int (bI (true))]) rfl ?_
  refine lv_if_eq (tgt := 44) hx hb dX7_answer_20 (by decide) (fun h9 => False.elim (by revert h9; decide)) (fun _ => ?_)
  refine lv_aload_n hx hb dX7_answer_23 rfl (lv_at hl 0 rfl) ?_
  refine lv_iload_n hx hb dX7_answer_24 rfl (lv_at hl 1 rfl) ?_
  refine lv_aload_n hx hb dX7_answer_25 rfl (lv_at hl 0 rfl) ?_
  refine lv_iload_n hx hb dX7_answer_26 rfl (lv_at hl 1 rfl) ?_
  refine lv_aload_n hx hb dX7_answer_27 rfl (lv_at hl 0 rfl) ?_
  refine va_get (D := D) (ci := 6) (v := .ref b1) (C := RX7) (T := TX7) (N := 9) hx hb hts hinX7 hown hM.1 hP 0 rfl rfl 1 (by decide) (hts (.fieldLink RX7 7 "TripleWaysModel" "s" "[I") (by decide +kernel)) (fun _ h9 => h9) rfl dX7_answer_28 ?_
  refine lv_bipush (v := (nI 41)) hx hb dX7_answer_31 (by decide) ?_
  refine ln_iald hx hb hM.1 hP 1 0 rfl rfl dX7_answer_33 (by decide) (by omega) (rfl) ?_
  refine ro_V (C := RX7) (n := 2) ⟨hx, hb, hml, hown, hts⟩ hM hS hP (c7_orderOf l D tc zb b b1 (fun k9 => match k9 with | 0 => .int (nI 0) | 2 => .ref b2 | 3 => .ref b3 | 4 => .int (nI n) | 5 => .ref b4 | 6 => .ref b5 | 7 => .ref b6 | 8 => .int (nI ln) | _ => .null) g x (g 41) hk (by first | omega | exact ok5 _ (by omega)) (by omega)) gX7_answer_X7_orderOf rfl (by decide +kernel) ⟨Nat.le_of_ble_eq_true rfl, Nat.le_of_ble_eq_true rfl⟩ [0, 1] rfl (va_recv hM.1 hP (ci := 6) (q0 := 0) rfl rfl) rfl hl.1 rfl (Nat.le_of_ble_eq_true rfl) dX7_answer_34 ⟨Nat.le_refl _, Nat.le_refl _⟩ ?_
  cases ho34 : k_or g x (g 41) 6 with
  | none =>
    refine ln_eq (x' := -1) rfl ?_
    refine lv_iload_n hx hb dX7_answer_37 rfl (lv_at hl 2 rfl) ?_
    refine ro_V (C := RX7) (n := 3) ⟨hx, hb, hml, hown, hts⟩ hM hS hP (c7_ithN l D tc zb b b1 (fun k9 => match k9 with | 0 => .int (nI 0) | 2 => .ref b2 | 3 => .ref b3 | 4 => .int (nI n) | 5 => .ref b4 | 6 => .ref b5 | 7 => .ref b6 | 8 => .int (nI ln) | _ => .null) g x pl hk (by first | omega | exact ok5 _ (by omega)) (by omega)) gX7_answer_X7_ith rfl (by decide +kernel) ⟨Nat.le_of_ble_eq_true rfl, Nat.le_of_ble_eq_true rfl⟩ [0, 1] rfl (va_recv hM.1 hP (ci := 6) (q0 := 0) rfl rfl) rfl hl.1 rfl (Nat.le_of_ble_eq_true rfl) dX7_answer_38 ⟨Nat.le_refl _, Nat.le_refl _⟩ ?_
    cases ho38 : k_aa g x none pl (g 0) with
    | none =>
      refine ln_eq (x' := -1) rfl ?_
      refine lv_goto (tgt := 45) hx hb dX7_answer_41 (by decide) ?_
      exact ip_iret hx hb hr hlk dX7_answer_45 hS (show oI none = _ from congrArg oI (by rfl)) hP
    | some r38 =>
      refine ln_eq (x' := nI r38) rfl ?_
      refine lv_goto (tgt := 45) hx hb dX7_answer_41 (by decide) ?_
      exact ip_iret hx hb hr hlk dX7_answer_45 hS (show oI (some r38) = _ from congrArg oI (by rfl)) hP
  | some r34 =>
    refine ln_eq (x' := nI r34) rfl ?_
    have hr9 := (k_or_lt ho34).1
    refine lv_iload_n hx hb dX7_answer_37 rfl (lv_at hl 2 rfl) ?_
    refine ro_V (C := RX7) (n := 3) ⟨hx, hb, hml, hown, hts⟩ hM hS hP (c7_ith l D tc zb b b1 (fun k9 => match k9 with | 0 => .int (nI 0) | 2 => .ref b2 | 3 => .ref b3 | 4 => .int (nI n) | 5 => .ref b4 | 6 => .ref b5 | 7 => .ref b6 | 8 => .int (nI ln) | _ => .null) g x r34 pl hk (by first | omega | exact ok5 _ (by omega)) (by omega) (by omega)) gX7_answer_X7_ith rfl (by decide +kernel) ⟨Nat.le_of_ble_eq_true rfl, Nat.le_of_ble_eq_true rfl⟩ [0, 1] rfl (va_recv hM.1 hP (ci := 6) (q0 := 0) rfl rfl) rfl hl.1 rfl (Nat.le_of_ble_eq_true rfl) dX7_answer_38 ⟨Nat.le_refl _, Nat.le_refl _⟩ ?_
    cases ho38 : k_aa g x (some r34) pl (g 0) with
    | none =>
      refine ln_eq (x' := -1) rfl ?_
      refine lv_goto (tgt := 45) hx hb dX7_answer_41 (by decide) ?_
      exact ip_iret hx hb hr hlk dX7_answer_45 hS (show oI none = _ from congrArg oI (by rfl)) hP
    | some r38 =>
      refine ln_eq (x' := nI r38) rfl ?_
      refine lv_goto (tgt := 45) hx hb dX7_answer_41 (by decide) ?_
      exact ip_iret hx hb hr hlk dX7_answer_45 hS (show oI (some r38) = _ from congrArg oI (by rfl)) hP
set_option maxHeartbeats 4000000 in
set_option maxRecDepth 100000 in
theorem c7_answer_b1 (l : Launch) (D : va_G) (tc : Nat → ClassId) (zb : Nat) (b b1 b2 b3 b4 b5 b6 : Nat) (th : Int32) (g ga sv : Nat → Nat) (n : Nat) (sl : Nat → Nat) (iz : Nat → Bool) (u : Nat → Nat) (ln : Nat) (pp p2 : Int32) (hk : k_ok g) (hn : n ≤ 14) (hln : ln ≤ 100) (hu : ∀ k, u k < 256) (hp : ¬ (nI 0 ≤ pp ∧ pp ≤ nI 1330)) : IP l yX7_answer wsX7_answer 2 45 D tc zb (w_md tc b b1 b2 b3 b4 b5 b6 th g ga sv n sl iz u ln) (w_md tc b b1 b2 b3 b4 b5 b6 (nI 1) g ga sv n sl iz u ln) [.ref b, .int (pp), .int (p2)] (some (.int (nI 0))) := by
  refine IP.of (cc := cX7_answer) (maxL := 3) (ret := (some .int)) (by decide) rfl (Nat.le_of_ble_eq_true rfl) ?_
  intro p e s m args below meth c A hx hb hr hml hlk hts hown hM hS hP hD ls hl
  have hl : lv_has ls 3 [(0, .ref b), (1, .int (pp)), (2, .int (p2))] := hl
  obtain ⟨ok0, ok1, ok2, ok3, ok4, ok5, ok6⟩ := id hk
  refine lv_aload_n hx hb dX7_answer_0 rfl (lv_at hl 0 rfl) ?_
  refine lv_iload_n hx hb dX7_answer_1 rfl (lv_at hl 1 rfl) ?_
  refine ro_S (n := 1) ⟨hx, hb, hml, hown, hts⟩ hM hS hP (c7_isQuestion_bad l D tc zb ((pp)) (by assumption)) gX7_answer_X7_isQuestion rfl (by decide +kernel) ⟨Nat.le_of_ble_eq_true rfl, Nat.le_of_ble_eq_true rfl⟩ [] rfl rfl hl.1 rfl (Nat.le_of_ble_eq_true rfl) dX7_answer_2 ⟨Nat.le_refl _, Nat.le_refl _⟩ ?_
  refine lv_if_eq (tgt := 16) hx hb dX7_answer_5 (by decide) (fun _ => ?_) (fun h9 => False.elim (by revert h9; decide))
  refine lv_iconst (v := (nI 1)) hx hb dX7_answer_16 (by decide) ?_
  refine ip_V (C := RX7) (n := 1) (wl' := [(b, .inr (6, [.int (nI 1), .ref b1, .ref b2, .ref b3, .int (nI n), .ref b4, .ref b5, .ref b6, .int (nI ln)])), (b1, .inl (tc 0, 60, .inl ((fun k => nI (g k))))), (b2, .inl (tc 0, 60, .inl ((fun k => nI (ga k))))), (b3, .inl (tc 0, 840, .inl ((fun k => nI (sv k))))), (b4, .inl (tc 0, 120, .inl ((fun k => nI (sl k))))), (b5, .inl (tc 3, 2, .inl ((fun k => bI (iz k))))), (b6, .inl (tc 2, 100, .inl ((fun k => byI (u k)))))]) ⟨hx, hb, hml, hown, hts⟩ hM hS hP hD (c7_holdsP l D tc zb b th (fun k9 => match k9 with | 1 => .ref b1 | 2 => .ref b2 | 3 => .ref b3 | 4 => .int (nI n) | 5 => .ref b4 | 6 => .ref b5 | 7 => .ref b6 | 8 => .int (nI ln) | _ => .null) 1 (by omega)) gX7_answer_X7_holds rfl (by decide +kernel) ⟨Nat.le_of_ble_eq_true rfl, Nat.le_of_ble_eq_true rfl⟩ [0] rfl rfl [(true, 0), (false, 1), (false, 2), (false, 3), (false, 4), (false, 5), (false, 6)] rfl rfl rfl (va_recv hM.1 hP (ci := 6) (q0 := 0) rfl rfl) rfl hl.1 rfl (Nat.le_of_ble_eq_true rfl) dX7_answer_17 ⟨Nat.le_refl _, Nat.le_refl _⟩ (fun H locs hP hD hS => ?_)
  refine W.eq (g2 := F0 m 20 ls [.int (bI (false))]) rfl ?_
  refine lv_if_eq (tgt := 44) hx hb dX7_answer_20 (by decide) (fun _ => ?_) (fun h9 => False.elim (by revert h9; decide))
  refine lv_iconst (v := (nI 0)) hx hb dX7_answer_44 (by decide) ?_
  exact ip_iret hx hb hr hlk dX7_answer_45 hS (rfl) hP
set_option maxHeartbeats 4000000 in
set_option maxRecDepth 100000 in
theorem c7_answer_b2 (l : Launch) (D : va_G) (tc : Nat → ClassId) (zb : Nat) (b b1 b2 b3 b4 b5 b6 : Nat) (th : Int32) (g ga sv : Nat → Nat) (n : Nat) (sl : Nat → Nat) (iz : Nat → Bool) (u : Nat → Nat) (ln : Nat) (x : Nat) (pl9 : Int32) (hk : k_ok g) (hn : n ≤ 14) (hln : ln ≤ 100) (hu : ∀ k, u k < 256) (hx9 : x < 1331) (hng : pl9 < 0) : IP l yX7_answer wsX7_answer 2 45 D tc zb (w_md tc b b1 b2 b3 b4 b5 b6 th g ga sv n sl iz u ln) (w_md tc b b1 b2 b3 b4 b5 b6 (nI 1) g ga sv n sl iz u ln) [.ref b, .int (nI x), .int (pl9)] (some (.int (nI 0))) := by
  refine IP.of (cc := cX7_answer) (maxL := 3) (ret := (some .int)) (by decide) rfl (Nat.le_of_ble_eq_true rfl) ?_
  intro p e s m args below meth c A hx hb hr hml hlk hts hown hM hS hP hD ls hl
  have hl : lv_has ls 3 [(0, .ref b), (1, .int (nI x)), (2, .int (pl9))] := hl
  obtain ⟨ok0, ok1, ok2, ok3, ok4, ok5, ok6⟩ := id hk
  refine lv_aload_n hx hb dX7_answer_0 rfl (lv_at hl 0 rfl) ?_
  refine lv_iload_n hx hb dX7_answer_1 rfl (lv_at hl 1 rfl) ?_
  refine ro_S (n := 1) ⟨hx, hb, hml, hown, hts⟩ hM hS hP (c7_isQuestion_ok l D tc zb x (by omega)) gX7_answer_X7_isQuestion rfl (by decide +kernel) ⟨Nat.le_of_ble_eq_true rfl, Nat.le_of_ble_eq_true rfl⟩ [] rfl rfl hl.1 rfl (Nat.le_of_ble_eq_true rfl) dX7_answer_2 ⟨Nat.le_refl _, Nat.le_refl _⟩ ?_
  refine lv_if_eq (tgt := 16) hx hb dX7_answer_5 (by decide) (fun h9 => False.elim (by revert h9; decide)) (fun _ => ?_)
  refine lv_iload_n hx hb dX7_answer_8 rfl (lv_at hl 2 rfl) ?_
  refine lv_if_lt (tgt := 16) hx hb dX7_answer_9 (by decide) (fun h1 => ?_) (fun h1 => ?_)
  · refine lv_iconst (v := (nI 1)) hx hb dX7_answer_16 (by decide) ?_
    refine ip_V (C := RX7) (n := 1) (wl' := [(b, .inr (6, [.int (nI 1), .ref b1, .ref b2, .ref b3, .int (nI n), .ref b4, .ref b5, .ref b6, .int (nI ln)])), (b1, .inl (tc 0, 60, .inl ((fun k => nI (g k))))), (b2, .inl (tc 0, 60, .inl ((fun k => nI (ga k))))), (b3, .inl (tc 0, 840, .inl ((fun k => nI (sv k))))), (b4, .inl (tc 0, 120, .inl ((fun k => nI (sl k))))), (b5, .inl (tc 3, 2, .inl ((fun k => bI (iz k))))), (b6, .inl (tc 2, 100, .inl ((fun k => byI (u k)))))]) ⟨hx, hb, hml, hown, hts⟩ hM hS hP hD (c7_holdsP l D tc zb b th (fun k9 => match k9 with | 1 => .ref b1 | 2 => .ref b2 | 3 => .ref b3 | 4 => .int (nI n) | 5 => .ref b4 | 6 => .ref b5 | 7 => .ref b6 | 8 => .int (nI ln) | _ => .null) 1 (by omega)) gX7_answer_X7_holds rfl (by decide +kernel) ⟨Nat.le_of_ble_eq_true rfl, Nat.le_of_ble_eq_true rfl⟩ [0] rfl rfl [(true, 0), (false, 1), (false, 2), (false, 3), (false, 4), (false, 5), (false, 6)] rfl rfl rfl (va_recv hM.1 hP (ci := 6) (q0 := 0) rfl rfl) rfl hl.1 rfl (Nat.le_of_ble_eq_true rfl) dX7_answer_17 ⟨Nat.le_refl _, Nat.le_refl _⟩ (fun H locs hP hD hS => ?_)
    refine W.eq (g2 := F0 m 20 ls [.int (bI (false))]) rfl ?_
    refine lv_if_eq (tgt := 44) hx hb dX7_answer_20 (by decide) (fun _ => ?_) (fun h9 => False.elim (by revert h9; decide))
    refine lv_iconst (v := (nI 0)) hx hb dX7_answer_44 (by decide) ?_
    exact ip_iret hx hb hr hlk dX7_answer_45 hS (rfl) hP
  · exact absurd hng (by assumption)
set_option maxHeartbeats 4000000 in
set_option maxRecDepth 100000 in
theorem c7_value_ok (l : Launch) (D : va_G) (tc : Nat → ClassId) (zb : Nat) (b b1 b2 b3 b4 b5 b6 : Nat) (th : Int32) (g ga sv : Nat → Nat) (n : Nat) (sl : Nat → Nat) (iz : Nat → Bool) (u : Nat → Nat) (ln : Nat) (q : Nat) (hk : k_ok g) (hn : n ≤ 14) (hln : ln ≤ 100) (hu : ∀ k, u k < 256) (hq : q < 6) : IP l yX7_value wsX7_value 9 205 D tc zb (w_md tc b b1 b2 b3 b4 b5 b6 th g ga sv n sl iz u ln) (w_md tc b b1 b2 b3 b4 b5 b6 (nI 0) g ga sv n sl iz u ln) [.ref b, .int (nI q)] (some (.int (zI (k_val g q)))) := by
  refine IP.of (cc := cX7_value) (maxL := 2) (ret := (some .int)) (by decide) rfl (Nat.le_of_ble_eq_true rfl) ?_
  intro p e s m args below meth c A hx hb hr hml hlk hts hown hM hS hP hD ls hl
  have hl : lv_has ls 2 [(0, .ref b), (1, .int (nI q))] := hl
  obtain ⟨ok0, ok1, ok2, ok3, ok4, ok5, ok6⟩ := id hk
  refine lv_aload_n hx hb dX7_value_0 rfl (lv_at hl 0 rfl) ?_
  refine lv_iload_n hx hb dX7_value_1 rfl (lv_at hl 1 rfl) ?_
  refine ro_S (n := 1) ⟨hx, hb, hml, hown, hts⟩ hM hS hP (c7_isOrder_ok l D tc zb q (by omega)) gX7_value_X7_isOrder rfl (by decide +kernel) ⟨Nat.le_of_ble_eq_true rfl, Nat.le_of_ble_eq_true rfl⟩ [] rfl rfl hl.1 rfl (Nat.le_of_ble_eq_true rfl) dX7_value_2 ⟨Nat.le_refl _, Nat.le_refl _⟩ ?_
  refine lv_if_eq (tgt := 12) hx hb dX7_value_5 (by decide) (fun h9 => False.elim (by revert h9; decide)) (fun _ => ?_)
  refine lv_iconst (v := (nI 0)) hx hb dX7_value_8 (by decide) ?_
  refine lv_goto (tgt := 13) hx hb dX7_value_9 (by decide) ?_
  refine ip_V (C := RX7) (n := 1) (wl' := [(b, .inr (6, [.int (nI 0), .ref b1, .ref b2, .ref b3, .int (nI n), .ref b4, .ref b5, .ref b6, .int (nI ln)])), (b1, .inl (tc 0, 60, .inl ((fun k => nI (g k))))), (b2, .inl (tc 0, 60, .inl ((fun k => nI (ga k))))), (b3, .inl (tc 0, 840, .inl ((fun k => nI (sv k))))), (b4, .inl (tc 0, 120, .inl ((fun k => nI (sl k))))), (b5, .inl (tc 3, 2, .inl ((fun k => bI (iz k))))), (b6, .inl (tc 2, 100, .inl ((fun k => byI (u k)))))]) ⟨hx, hb, hml, hown, hts⟩ hM hS hP hD (c7_holds0 l D tc zb b th (fun k9 => match k9 with | 1 => .ref b1 | 2 => .ref b2 | 3 => .ref b3 | 4 => .int (nI n) | 5 => .ref b4 | 6 => .ref b5 | 7 => .ref b6 | 8 => .int (nI ln) | _ => .null)) gX7_value_X7_holds rfl (by decide +kernel) ⟨Nat.le_of_ble_eq_true rfl, Nat.le_of_ble_eq_true rfl⟩ [0] rfl rfl [(true, 0), (false, 1), (false, 2), (false, 3), (false, 4), (false, 5), (false, 6)] rfl rfl rfl (va_recv hM.1 hP (ci := 6) (q0 := 0) rfl rfl) rfl hl.1 rfl (Nat.le_of_ble_eq_true rfl) dX7_value_13 ⟨Nat.le_refl _, Nat.le_refl _⟩ (fun H locs hP hD hS => ?_)
  refine W.eq (g2 := F0 m 16 ls [.int (bI (true))]) rfl ?_
  refine lv_if_eq (tgt := 27) hx hb dX7_value_16 (by decide) (fun h9 => False.elim (by revert h9; decide)) (fun _ => ?_)
  refine lv_aload_n hx hb dX7_value_19 rfl (lv_at hl 0 rfl) ?_
  refine lv_iload_n hx hb dX7_value_20 rfl (lv_at hl 1 rfl) ?_
  refine ro_V (C := RX7) (n := 1) ⟨hx, hb, hml, hown, hts⟩ hM hS hP (c7_valueOf l D tc zb b b1 (fun k9 => match k9 with | 0 => .int (nI 0) | 2 => .ref b2 | 3 => .ref b3 | 4 => .int (nI n) | 5 => .ref b4 | 6 => .ref b5 | 7 => .ref b6 | 8 => .int (nI ln) | _ => .null) g q hk (by omega)) gX7_value_X7_valueOf rfl (by decide +kernel) ⟨Nat.le_of_ble_eq_true rfl, Nat.le_of_ble_eq_true rfl⟩ [0, 1] rfl (va_recv hM.1 hP (ci := 6) (q0 := 0) rfl rfl) rfl hl.1 rfl (Nat.le_of_ble_eq_true rfl) dX7_value_21 ⟨Nat.le_refl _, Nat.le_refl _⟩ ?_
  have hf1 := k_val_bd hk q
  refine lv_goto (tgt := 28) hx hb dX7_value_24 (by decide) ?_
  exact ip_iret hx hb hr hlk dX7_value_28 hS (by rfl) hP
set_option maxHeartbeats 4000000 in
set_option maxRecDepth 100000 in
theorem c7_value_b1 (l : Launch) (D : va_G) (tc : Nat → ClassId) (zb : Nat) (b b1 b2 b3 b4 b5 b6 : Nat) (th : Int32) (g ga sv : Nat → Nat) (n : Nat) (sl : Nat → Nat) (iz : Nat → Bool) (u : Nat → Nat) (ln : Nat) (pp : Int32) (hk : k_ok g) (hn : n ≤ 14) (hln : ln ≤ 100) (hu : ∀ k, u k < 256) (hp : ¬ (nI 0 ≤ pp ∧ pp ≤ nI 5)) : IP l yX7_value wsX7_value 2 45 D tc zb (w_md tc b b1 b2 b3 b4 b5 b6 th g ga sv n sl iz u ln) (w_md tc b b1 b2 b3 b4 b5 b6 (nI 1) g ga sv n sl iz u ln) [.ref b, .int (pp)] (some (.int (nI 0))) := by
  refine IP.of (cc := cX7_value) (maxL := 2) (ret := (some .int)) (by decide) rfl (Nat.le_of_ble_eq_true rfl) ?_
  intro p e s m args below meth c A hx hb hr hml hlk hts hown hM hS hP hD ls hl
  have hl : lv_has ls 2 [(0, .ref b), (1, .int (pp))] := hl
  obtain ⟨ok0, ok1, ok2, ok3, ok4, ok5, ok6⟩ := id hk
  refine lv_aload_n hx hb dX7_value_0 rfl (lv_at hl 0 rfl) ?_
  refine lv_iload_n hx hb dX7_value_1 rfl (lv_at hl 1 rfl) ?_
  refine ro_S (n := 1) ⟨hx, hb, hml, hown, hts⟩ hM hS hP (c7_isOrder_bad l D tc zb ((pp)) (by assumption)) gX7_value_X7_isOrder rfl (by decide +kernel) ⟨Nat.le_of_ble_eq_true rfl, Nat.le_of_ble_eq_true rfl⟩ [] rfl rfl hl.1 rfl (Nat.le_of_ble_eq_true rfl) dX7_value_2 ⟨Nat.le_refl _, Nat.le_refl _⟩ ?_
  refine lv_if_eq (tgt := 12) hx hb dX7_value_5 (by decide) (fun _ => ?_) (fun h9 => False.elim (by revert h9; decide))
  refine lv_iconst (v := (nI 1)) hx hb dX7_value_12 (by decide) ?_
  refine ip_V (C := RX7) (n := 1) (wl' := [(b, .inr (6, [.int (nI 1), .ref b1, .ref b2, .ref b3, .int (nI n), .ref b4, .ref b5, .ref b6, .int (nI ln)])), (b1, .inl (tc 0, 60, .inl ((fun k => nI (g k))))), (b2, .inl (tc 0, 60, .inl ((fun k => nI (ga k))))), (b3, .inl (tc 0, 840, .inl ((fun k => nI (sv k))))), (b4, .inl (tc 0, 120, .inl ((fun k => nI (sl k))))), (b5, .inl (tc 3, 2, .inl ((fun k => bI (iz k))))), (b6, .inl (tc 2, 100, .inl ((fun k => byI (u k)))))]) ⟨hx, hb, hml, hown, hts⟩ hM hS hP hD (c7_holdsP l D tc zb b th (fun k9 => match k9 with | 1 => .ref b1 | 2 => .ref b2 | 3 => .ref b3 | 4 => .int (nI n) | 5 => .ref b4 | 6 => .ref b5 | 7 => .ref b6 | 8 => .int (nI ln) | _ => .null) 1 (by omega)) gX7_value_X7_holds rfl (by decide +kernel) ⟨Nat.le_of_ble_eq_true rfl, Nat.le_of_ble_eq_true rfl⟩ [0] rfl rfl [(true, 0), (false, 1), (false, 2), (false, 3), (false, 4), (false, 5), (false, 6)] rfl rfl rfl (va_recv hM.1 hP (ci := 6) (q0 := 0) rfl rfl) rfl hl.1 rfl (Nat.le_of_ble_eq_true rfl) dX7_value_13 ⟨Nat.le_refl _, Nat.le_refl _⟩ (fun H locs hP hD hS => ?_)
  refine W.eq (g2 := F0 m 16 ls [.int (bI (false))]) rfl ?_
  refine lv_if_eq (tgt := 27) hx hb dX7_value_16 (by decide) (fun _ => ?_) (fun h9 => False.elim (by revert h9; decide))
  refine lv_iconst (v := (nI 0)) hx hb dX7_value_27 (by decide) ?_
  exact ip_iret hx hb hr hlk dX7_value_28 hS (rfl) hP
set_option maxHeartbeats 4000000 in
set_option maxRecDepth 100000 in
theorem c7_advised (l : Launch) (D : va_G) (tc : Nat → ClassId) (zb : Nat) (b b1 b2 b3 b4 b5 b6 : Nat) (th : Int32) (g ga sv : Nat → Nat) (n : Nat) (sl : Nat → Nat) (iz : Nat → Bool) (u : Nat → Nat) (ln : Nat) (hk : k_ok g) (hn : n ≤ 14) (hln : ln ≤ 100) (hu : ∀ k, u k < 256) : IP l yX7_advised wsX7_advised 10 231 D tc zb (w_md tc b b1 b2 b3 b4 b5 b6 th g ga sv n sl iz u ln) (w_md tc b b1 b2 b3 b4 b5 b6 (nI 0) g ga sv n sl iz u ln) [.ref b] (some (.int (oI (k_go g 6)))) := by
  refine IP.of (cc := cX7_advised) (maxL := 1) (ret := (some .int)) (by decide) rfl (Nat.le_of_ble_eq_true rfl) ?_
  intro p e s m args below meth c A hx hb hr hml hlk hts hown hM hS hP hD ls hl
  have hl : lv_has ls 1 [(0, .ref b)] := hl
  have hinX7 : ∀ w ∈ u_ws RX7 TX7 9, w ∈ wsX7_advised := by decide +kernel
  obtain ⟨ok0, ok1, ok2, ok3, ok4, ok5, ok6⟩ := id hk
  refine lv_aload_n hx hb dX7_advised_0 rfl (lv_at hl 0 rfl) ?_
  refine lv_iconst (v := (nI 0)) hx hb dX7_advised_1 (by decide) ?_
  refine va_put (D := D) (ci := 6) (v := .int (nI 0)) (ty := .int) (C := RX7) (T := TX7) (N := 9) hx hb hts hinX7 tyX7 tyX7_ok nmX7 hown hM.1 hP hD hS 0 rfl rfl 0 (by decide) (hts (.fieldLink RX7 30 "TripleWaysModel" "thrown" "I") (by decide +kernel)) (fun _ h9 => h9) rfl (by decide +kernel) rfl rfl (Nat.le_of_ble_eq_true rfl) dX7_advised_2 (fun H locs hP hD hS => ?_)
  have hP : va_P D vwCl [(b, .inr (6, [.int (nI 0), .ref b1, .ref b2, .ref b3, .int (nI n), .ref b4, .ref b5, .ref b6, .int (nI ln)])), (b1, .inl (tc 0, 60, .inl ((fun k => nI (g k))))), (b2, .inl (tc 0, 60, .inl ((fun k => nI (ga k))))), (b3, .inl (tc 0, 840, .inl ((fun k => nI (sv k))))), (b4, .inl (tc 0, 120, .inl ((fun k => nI (sl k))))), (b5, .inl (tc 3, 2, .inl ((fun k => bI (iz k))))), (b6, .inl (tc 2, 100, .inl ((fun k => byI (u k)))))] H := hP
  have hD : va_D A [(b, .inr (6, [.int (nI 0), .ref b1, .ref b2, .ref b3, .int (nI n), .ref b4, .ref b5, .ref b6, .int (nI ln)])), (b1, .inl (tc 0, 60, .inl ((fun k => nI (g k))))), (b2, .inl (tc 0, 60, .inl ((fun k => nI (ga k))))), (b3, .inl (tc 0, 840, .inl ((fun k => nI (sv k))))), (b4, .inl (tc 0, 120, .inl ((fun k => nI (sl k))))), (b5, .inl (tc 3, 2, .inl ((fun k => bI (iz k))))), (b6, .inl (tc 2, 100, .inl ((fun k => byI (u k)))))] := hD
  refine lv_aload_n hx hb dX7_advised_5 rfl (lv_at hl 0 rfl) ?_
  refine lv_iconst (v := (nI 1)) hx hb dX7_advised_6 (by decide) ?_
  refine ro_V (C := RX7) (n := 1) ⟨hx, hb, hml, hown, hts⟩ hM hS hP (c7_adviceU l D tc zb b b1 (fun k9 => match k9 with | 0 => .int (nI 0) | 2 => .ref b2 | 3 => .ref b3 | 4 => .int (nI n) | 5 => .ref b4 | 6 => .ref b5 | 7 => .ref b6 | 8 => .int (nI ln) | _ => .null) g hk) gX7_advised_X7_advice rfl (by decide +kernel) ⟨Nat.le_of_ble_eq_true rfl, Nat.le_of_ble_eq_true rfl⟩ [0, 1] rfl (va_recv hM.1 hP (ci := 6) (q0 := 0) rfl rfl) rfl hl.1 rfl (Nat.le_of_ble_eq_true rfl) dX7_advised_7 ⟨Nat.le_refl _, Nat.le_refl _⟩ ?_
  exact ip_iret hx hb hr hlk dX7_advised_10 hS (rfl) hP
set_option maxHeartbeats 4000000 in
set_option maxRecDepth 100000 in
theorem c7_spare (l : Launch) (D : va_G) (tc : Nat → ClassId) (zb : Nat) (b b1 b2 b3 b4 b5 b6 : Nat) (th : Int32) (g ga sv : Nat → Nat) (n : Nat) (sl : Nat → Nat) (iz : Nat → Bool) (u : Nat → Nat) (ln : Nat) (hk : k_ok g) (hn : n ≤ 14) (hln : ln ≤ 100) (hu : ∀ k, u k < 256) : IP l yX7_spare wsX7_spare 10 231 D tc zb (w_md tc b b1 b2 b3 b4 b5 b6 th g ga sv n sl iz u ln) (w_md tc b b1 b2 b3 b4 b5 b6 (nI 0) g ga sv n sl iz u ln) [.ref b] (some (.int (oI (k_lo g 6)))) := by
  refine IP.of (cc := cX7_spare) (maxL := 1) (ret := (some .int)) (by decide) rfl (Nat.le_of_ble_eq_true rfl) ?_
  intro p e s m args below meth c A hx hb hr hml hlk hts hown hM hS hP hD ls hl
  have hl : lv_has ls 1 [(0, .ref b)] := hl
  have hinX7 : ∀ w ∈ u_ws RX7 TX7 9, w ∈ wsX7_spare := by decide +kernel
  obtain ⟨ok0, ok1, ok2, ok3, ok4, ok5, ok6⟩ := id hk
  refine lv_aload_n hx hb dX7_spare_0 rfl (lv_at hl 0 rfl) ?_
  refine lv_iconst (v := (nI 0)) hx hb dX7_spare_1 (by decide) ?_
  refine va_put (D := D) (ci := 6) (v := .int (nI 0)) (ty := .int) (C := RX7) (T := TX7) (N := 9) hx hb hts hinX7 tyX7 tyX7_ok nmX7 hown hM.1 hP hD hS 0 rfl rfl 0 (by decide) (hts (.fieldLink RX7 30 "TripleWaysModel" "thrown" "I") (by decide +kernel)) (fun _ h9 => h9) rfl (by decide +kernel) rfl rfl (Nat.le_of_ble_eq_true rfl) dX7_spare_2 (fun H locs hP hD hS => ?_)
  have hP : va_P D vwCl [(b, .inr (6, [.int (nI 0), .ref b1, .ref b2, .ref b3, .int (nI n), .ref b4, .ref b5, .ref b6, .int (nI ln)])), (b1, .inl (tc 0, 60, .inl ((fun k => nI (g k))))), (b2, .inl (tc 0, 60, .inl ((fun k => nI (ga k))))), (b3, .inl (tc 0, 840, .inl ((fun k => nI (sv k))))), (b4, .inl (tc 0, 120, .inl ((fun k => nI (sl k))))), (b5, .inl (tc 3, 2, .inl ((fun k => bI (iz k))))), (b6, .inl (tc 2, 100, .inl ((fun k => byI (u k)))))] H := hP
  have hD : va_D A [(b, .inr (6, [.int (nI 0), .ref b1, .ref b2, .ref b3, .int (nI n), .ref b4, .ref b5, .ref b6, .int (nI ln)])), (b1, .inl (tc 0, 60, .inl ((fun k => nI (g k))))), (b2, .inl (tc 0, 60, .inl ((fun k => nI (ga k))))), (b3, .inl (tc 0, 840, .inl ((fun k => nI (sv k))))), (b4, .inl (tc 0, 120, .inl ((fun k => nI (sl k))))), (b5, .inl (tc 3, 2, .inl ((fun k => bI (iz k))))), (b6, .inl (tc 2, 100, .inl ((fun k => byI (u k)))))] := hD
  refine lv_aload_n hx hb dX7_spare_5 rfl (lv_at hl 0 rfl) ?_
  refine lv_iconst (v := (nI 0)) hx hb dX7_spare_6 (by decide) ?_
  refine ro_V (C := RX7) (n := 1) ⟨hx, hb, hml, hown, hts⟩ hM hS hP (c7_adviceD l D tc zb b b1 (fun k9 => match k9 with | 0 => .int (nI 0) | 2 => .ref b2 | 3 => .ref b3 | 4 => .int (nI n) | 5 => .ref b4 | 6 => .ref b5 | 7 => .ref b6 | 8 => .int (nI ln) | _ => .null) g hk) gX7_spare_X7_advice rfl (by decide +kernel) ⟨Nat.le_of_ble_eq_true rfl, Nat.le_of_ble_eq_true rfl⟩ [0, 1] rfl (va_recv hM.1 hP (ci := 6) (q0 := 0) rfl rfl) rfl hl.1 rfl (Nat.le_of_ble_eq_true rfl) dX7_spare_7 ⟨Nat.le_refl _, Nat.le_refl _⟩ ?_
  exact ip_iret hx hb hr hlk dX7_spare_10 hS (rfl) hP
set_option maxHeartbeats 4000000 in
set_option maxRecDepth 100000 in
theorem c7_ifKept_ok (l : Launch) (D : va_G) (tc : Nat → ClassId) (zb : Nat) (b b1 b2 b3 b4 b5 b6 : Nat) (th : Int32) (g ga sv : Nat → Nat) (n : Nat) (sl : Nat → Nat) (iz : Nat → Bool) (u : Nat → Nat) (ln : Nat) (x : Nat) (hk : k_ok g) (hn : n ≤ 14) (hln : ln ≤ 100) (hu : ∀ k, u k < 256) (hx9 : x ≤ 63) : IP l yX7_ifKept wsX7_ifKept 8 183 D tc zb (w_md tc b b1 b2 b3 b4 b5 b6 th g ga sv n sl iz u ln) (w_md tc b b1 b2 b3 b4 b5 b6 (nI 0) g ga sv n sl iz u ln) [.ref b, .int (nI x)] (some (.int (nI (k_sum g x)))) := by
  refine IP.of (cc := cX7_ifKept) (maxL := 2) (ret := (some .int)) (by decide) rfl (Nat.le_of_ble_eq_true rfl) ?_
  intro p e s m args below meth c A hx hb hr hml hlk hts hown hM hS hP hD ls hl
  have hl : lv_has ls 2 [(0, .ref b), (1, .int (nI x))] := hl
  obtain ⟨ok0, ok1, ok2, ok3, ok4, ok5, ok6⟩ := id hk
  refine lv_aload_n hx hb dX7_ifKept_0 rfl (lv_at hl 0 rfl) ?_
  refine lv_iload_n hx hb dX7_ifKept_1 rfl (lv_at hl 1 rfl) ?_
  refine lv_i2l (v := ((nI x)).toInt64) hx hb dX7_ifKept_2 rfl ?_
  refine lv_lconst (v := (0 : Int64)) hx hb dX7_ifKept_3 rfl ?_
  refine lv_ldc2 (v := (63 : Int64)) hx hb hown (hts (.constantLong RX7 187 (63)) (by decide +kernel)) dX7_ifKept_4 ?_
  refine ro_S (n := 3) ⟨hx, hb, hml, hown, hts⟩ hM hS hP (c7_in_ok l D tc zb x 0 63 (by omega) (by decide)) gX7_ifKept_X7_in rfl (by decide +kernel) ⟨Nat.le_of_ble_eq_true rfl, Nat.le_of_ble_eq_true rfl⟩ [] rfl rfl hl.1 rfl (Nat.le_of_ble_eq_true rfl) dX7_ifKept_7 ⟨Nat.le_refl _, Nat.le_refl _⟩ ?_
  refine lv_if_eq (tgt := 17) hx hb dX7_ifKept_10 (by decide) (fun h9 => False.elim (by revert h9; decide)) (fun _ => ?_)
  refine lv_iconst (v := (nI 0)) hx hb dX7_ifKept_13 (by decide) ?_
  refine lv_goto (tgt := 18) hx hb dX7_ifKept_14 (by decide) ?_
  refine ip_V (C := RX7) (n := 1) (wl' := [(b, .inr (6, [.int (nI 0), .ref b1, .ref b2, .ref b3, .int (nI n), .ref b4, .ref b5, .ref b6, .int (nI ln)])), (b1, .inl (tc 0, 60, .inl ((fun k => nI (g k))))), (b2, .inl (tc 0, 60, .inl ((fun k => nI (ga k))))), (b3, .inl (tc 0, 840, .inl ((fun k => nI (sv k))))), (b4, .inl (tc 0, 120, .inl ((fun k => nI (sl k))))), (b5, .inl (tc 3, 2, .inl ((fun k => bI (iz k))))), (b6, .inl (tc 2, 100, .inl ((fun k => byI (u k)))))]) ⟨hx, hb, hml, hown, hts⟩ hM hS hP hD (c7_holds0 l D tc zb b th (fun k9 => match k9 with | 1 => .ref b1 | 2 => .ref b2 | 3 => .ref b3 | 4 => .int (nI n) | 5 => .ref b4 | 6 => .ref b5 | 7 => .ref b6 | 8 => .int (nI ln) | _ => .null)) gX7_ifKept_X7_holds rfl (by decide +kernel) ⟨Nat.le_of_ble_eq_true rfl, Nat.le_of_ble_eq_true rfl⟩ [0] rfl rfl [(true, 0), (false, 1), (false, 2), (false, 3), (false, 4), (false, 5), (false, 6)] rfl rfl rfl (va_recv hM.1 hP (ci := 6) (q0 := 0) rfl rfl) rfl hl.1 rfl (Nat.le_of_ble_eq_true rfl) dX7_ifKept_18 ⟨Nat.le_refl _, Nat.le_refl _⟩ (fun H locs hP hD hS => ?_)
  refine W.eq (g2 := F0 m 21 ls [.int (bI (true))]) rfl ?_
  refine lv_if_eq (tgt := 32) hx hb dX7_ifKept_21 (by decide) (fun h9 => False.elim (by revert h9; decide)) (fun _ => ?_)
  refine lv_aload_n hx hb dX7_ifKept_24 rfl (lv_at hl 0 rfl) ?_
  refine lv_iload_n hx hb dX7_ifKept_25 rfl (lv_at hl 1 rfl) ?_
  refine ro_V (C := RX7) (n := 1) ⟨hx, hb, hml, hown, hts⟩ hM hS hP (c7_sumBy l D tc zb b b1 (fun k9 => match k9 with | 0 => .int (nI 0) | 2 => .ref b2 | 3 => .ref b3 | 4 => .int (nI n) | 5 => .ref b4 | 6 => .ref b5 | 7 => .ref b6 | 8 => .int (nI ln) | _ => .null) g x hk (by omega)) gX7_ifKept_X7_sumBy rfl (by decide +kernel) ⟨Nat.le_of_ble_eq_true rfl, Nat.le_of_ble_eq_true rfl⟩ [0, 1] rfl (va_recv hM.1 hP (ci := 6) (q0 := 0) rfl rfl) rfl hl.1 rfl (Nat.le_of_ble_eq_true rfl) dX7_ifKept_26 ⟨Nat.le_refl _, Nat.le_refl _⟩ ?_
  have hf1 := show k_sum g x ≤ 480 from k_sum_le hk
  refine lv_goto (tgt := 33) hx hb dX7_ifKept_29 (by decide) ?_
  exact ip_iret hx hb hr hlk dX7_ifKept_33 hS (rfl) hP
set_option maxHeartbeats 4000000 in
set_option maxRecDepth 100000 in
theorem c7_ifKept_b1 (l : Launch) (D : va_G) (tc : Nat → ClassId) (zb : Nat) (b b1 b2 b3 b4 b5 b6 : Nat) (th : Int32) (g ga sv : Nat → Nat) (n : Nat) (sl : Nat → Nat) (iz : Nat → Bool) (u : Nat → Nat) (ln : Nat) (pp : Int32) (hk : k_ok g) (hn : n ≤ 14) (hln : ln ≤ 100) (hu : ∀ k, u k < 256) (hp : ¬ (nI 0 ≤ pp ∧ pp ≤ nI 63)) : IP l yX7_ifKept wsX7_ifKept 1 25 D tc zb (w_md tc b b1 b2 b3 b4 b5 b6 th g ga sv n sl iz u ln) (w_md tc b b1 b2 b3 b4 b5 b6 (nI 1) g ga sv n sl iz u ln) [.ref b, .int (pp)] (some (.int (nI 0))) := by
  refine IP.of (cc := cX7_ifKept) (maxL := 2) (ret := (some .int)) (by decide) rfl (Nat.le_of_ble_eq_true rfl) ?_
  intro p e s m args below meth c A hx hb hr hml hlk hts hown hM hS hP hD ls hl
  have hl : lv_has ls 2 [(0, .ref b), (1, .int (pp))] := hl
  obtain ⟨ok0, ok1, ok2, ok3, ok4, ok5, ok6⟩ := id hk
  refine lv_aload_n hx hb dX7_ifKept_0 rfl (lv_at hl 0 rfl) ?_
  refine lv_iload_n hx hb dX7_ifKept_1 rfl (lv_at hl 1 rfl) ?_
  refine lv_i2l (v := ((pp)).toInt64) hx hb dX7_ifKept_2 rfl ?_
  refine lv_lconst (v := (0 : Int64)) hx hb dX7_ifKept_3 rfl ?_
  refine lv_ldc2 (v := (63 : Int64)) hx hb hown (hts (.constantLong RX7 187 (63)) (by decide +kernel)) dX7_ifKept_4 ?_
  refine ro_S (n := 3) ⟨hx, hb, hml, hown, hts⟩ hM hS hP (c7_in_bad l D tc zb pp 0 63 (by assumption) (by decide) (by decide)) gX7_ifKept_X7_in rfl (by decide +kernel) ⟨Nat.le_of_ble_eq_true rfl, Nat.le_of_ble_eq_true rfl⟩ [] rfl rfl hl.1 rfl (Nat.le_of_ble_eq_true rfl) dX7_ifKept_7 ⟨Nat.le_refl _, Nat.le_refl _⟩ ?_
  refine lv_if_eq (tgt := 17) hx hb dX7_ifKept_10 (by decide) (fun _ => ?_) (fun h9 => False.elim (by revert h9; decide))
  refine lv_iconst (v := (nI 1)) hx hb dX7_ifKept_17 (by decide) ?_
  refine ip_V (C := RX7) (n := 1) (wl' := [(b, .inr (6, [.int (nI 1), .ref b1, .ref b2, .ref b3, .int (nI n), .ref b4, .ref b5, .ref b6, .int (nI ln)])), (b1, .inl (tc 0, 60, .inl ((fun k => nI (g k))))), (b2, .inl (tc 0, 60, .inl ((fun k => nI (ga k))))), (b3, .inl (tc 0, 840, .inl ((fun k => nI (sv k))))), (b4, .inl (tc 0, 120, .inl ((fun k => nI (sl k))))), (b5, .inl (tc 3, 2, .inl ((fun k => bI (iz k))))), (b6, .inl (tc 2, 100, .inl ((fun k => byI (u k)))))]) ⟨hx, hb, hml, hown, hts⟩ hM hS hP hD (c7_holdsP l D tc zb b th (fun k9 => match k9 with | 1 => .ref b1 | 2 => .ref b2 | 3 => .ref b3 | 4 => .int (nI n) | 5 => .ref b4 | 6 => .ref b5 | 7 => .ref b6 | 8 => .int (nI ln) | _ => .null) 1 (by omega)) gX7_ifKept_X7_holds rfl (by decide +kernel) ⟨Nat.le_of_ble_eq_true rfl, Nat.le_of_ble_eq_true rfl⟩ [0] rfl rfl [(true, 0), (false, 1), (false, 2), (false, 3), (false, 4), (false, 5), (false, 6)] rfl rfl rfl (va_recv hM.1 hP (ci := 6) (q0 := 0) rfl rfl) rfl hl.1 rfl (Nat.le_of_ble_eq_true rfl) dX7_ifKept_18 ⟨Nat.le_refl _, Nat.le_refl _⟩ (fun H locs hP hD hS => ?_)
  refine W.eq (g2 := F0 m 21 ls [.int (bI (false))]) rfl ?_
  refine lv_if_eq (tgt := 32) hx hb dX7_ifKept_21 (by decide) (fun _ => ?_) (fun h9 => False.elim (by revert h9; decide))
  refine lv_iconst (v := (nI 0)) hx hb dX7_ifKept_32 (by decide) ?_
  exact ip_iret hx hb hr hlk dX7_ifKept_33 hS (rfl) hP
