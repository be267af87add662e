set_option maxHeartbeats 4000000 in
set_option maxRecDepth 100000 in
theorem c7_addAll_ok (l : Launch) (D : va_G) (tc : Nat → ClassId) (zb : Nat) (b b1 b2 b3 b4 b5 b6 : Nat) (th : Int32) (g ga sv : Nat → Nat) (n : Nat) (sl : Nat → Nat) (iz : Nat → Bool) (u : Nat → Nat) (ln : Nat) (hk : k_ok g) (hn : n ≤ 14) (hln : ln ≤ 100) (hu : ∀ k, u k < 256) (hft : k_ft u ln = none) : IP l yX7_addAll wsX7_addAll 3 63 D tc zb (w_md tc b b1 b2 b3 b4 b5 b6 th g ga sv n sl iz u ln) (w_md tc b b1 b2 b3 b4 b5 b6 (nI 0) ((m_all g u ((ln + 1) / 4))) ga ((k_rem sv n g)) (k_n1 n + 1) sl iz u ln) [.ref b] (some (.int (nI (k_all g u ((ln + 1) / 4))))) := by
  refine IP.of (cc := cX7_addAll) (maxL := 4) (ret := (some .int)) (by decide) rfl (Nat.le_of_ble_eq_true rfl) ?_
  intro p e s m args below meth c A hx hb hr hml hlk hts hown hM hS hP hD ls hl
  have hl : lv_has ls 4 [(0, .ref b)] := hl
  have hinX7 : ∀ w ∈ u_ws RX7 TX7 9, w ∈ wsX7_addAll := by decide +kernel
  obtain ⟨ok0, ok1, ok2, ok3, ok4, ok5, ok6⟩ := id hk
  have hfd := k_ft_none hft
  have hf4 := hfd.1
  refine lv_aload_n hx hb dX7_addAll_0 rfl (lv_at hl 0 rfl) ?_
  refine lv_aload_n hx hb dX7_addAll_1 rfl (lv_at hl 0 rfl) ?_
  refine lv_iconst (v := (nI 0)) hx hb dX7_addAll_2 (by decide) ?_
  refine ro_V (C := RX7) (n := 1) ⟨hx, hb, hml, hown, hts⟩ hM hS hP (c7_faultT l D tc zb b b6 (fun k9 => match k9 with | 0 => .int (th) | 1 => .ref b1 | 2 => .ref b2 | 3 => .ref b3 | 4 => .int (nI n) | 5 => .ref b4 | 6 => .ref b5 | _ => .null) u ln (by first | assumption | omega) (by assumption)) gX7_addAll_X7_faultOf rfl (by decide +kernel) ⟨Nat.le_of_ble_eq_true rfl, Nat.le_of_ble_eq_true rfl⟩ [0, 6] rfl (va_recv hM.1 hP (ci := 6) (q0 := 0) rfl rfl) rfl hl.1 rfl (Nat.le_of_ble_eq_true rfl) dX7_addAll_3 ⟨Nat.le_refl _, Nat.le_refl _⟩ ?_
  refine ln_eq (x' := (-1)) (congrArg oI hft) ?_
  refine lv_iconst (v := (-1)) hx hb dX7_addAll_6 (by decide) ?_
  refine lv_icmp_ne (tgt := 14) hx hb dX7_addAll_7 (by decide) (fun h9 => False.elim (by revert h9; decide)) (fun _ => ?_)
  refine lv_iconst (v := (nI 0)) hx hb dX7_addAll_10 (by decide) ?_
  refine lv_goto (tgt := 15) hx hb dX7_addAll_11 (by decide) ?_
  refine ip_V (C := RX7) (n := 1) (wl' := [(b, .inr (6, [.int (nI 0), .ref b1, .ref b2, .ref b3, .int (nI n), .ref b4, .ref b5, .ref b6, .int (nI ln)])), (b1, .inl (tc 0, 60, .inl ((fun k => nI (g k))))), (b2, .inl (tc 0, 60, .inl ((fun k => nI (ga k))))), (b3, .inl (tc 0, 840, .inl ((fun k => nI (sv k))))), (b4, .inl (tc 0, 120, .inl ((fun k => nI (sl k))))), (b5, .inl (tc 3, 2, .inl ((fun k => bI (iz k))))), (b6, .inl (tc 2, 100, .inl ((fun k => byI (u k)))))]) ⟨hx, hb, hml, hown, hts⟩ hM hS hP hD (c7_holds0 l D tc zb b th (fun k9 => match k9 with | 1 => .ref b1 | 2 => .ref b2 | 3 => .ref b3 | 4 => .int (nI n) | 5 => .ref b4 | 6 => .ref b5 | 7 => .ref b6 | 8 => .int (nI ln) | _ => .null)) gX7_addAll_X7_holds rfl (by decide +kernel) ⟨Nat.le_of_ble_eq_true rfl, Nat.le_of_ble_eq_true rfl⟩ [0] rfl rfl [(true, 0), (false, 1), (false, 2), (false, 3), (false, 4), (false, 5), (false, 6)] rfl rfl rfl (va_recv hM.1 hP (ci := 6) (q0 := 0) rfl rfl) rfl hl.1 rfl (Nat.le_of_ble_eq_true rfl) dX7_addAll_15 ⟨Nat.le_refl _, Nat.le_refl _⟩ (fun H locs hP hD hS => ?_)
  refine W.eq (g2 := F0 m 18 ls [.int (bI (true))]) rfl ?_
  refine lv_if_ne (tgt := 23) hx hb dX7_addAll_18 (by decide) (fun _ => ?_) (fun h9 => False.elim (by revert h9; decide))
  refine lv_aload_n hx hb dX7_addAll_23 rfl (lv_at hl 0 rfl) ?_
  refine ip_V (C := RX7) (n := 0) (wl' := [(b, .inr (6, [.int (nI 0), .ref b1, .ref b2, .ref b3, .int (nI (k_n1 n + 1)), .ref b4, .ref b5, .ref b6, .int (nI ln)])), (b1, .inl (tc 0, 60, .inl ((fun k => nI (g k))))), (b2, .inl (tc 0, 60, .inl ((fun k => nI (ga k))))), (b3, .inl (tc 0, 840, .inl ((fun k => nI ((k_rem sv n g) k))))), (b4, .inl (tc 0, 120, .inl ((fun k => nI (sl k))))), (b5, .inl (tc 3, 2, .inl ((fun k => bI (iz k))))), (b6, .inl (tc 2, 100, .inl ((fun k => byI (u k)))))]) ⟨hx, hb, hml, hown, hts⟩ hM hS hP hD (c7_remember l D tc zb b b1 b3 (fun k9 => match k9 with | 0 => .int (nI 0) | 2 => .ref b2 | 5 => .ref b4 | 6 => .ref b5 | 7 => .ref b6 | 8 => .int (nI ln) | _ => .null) g sv n (by omega)) gX7_addAll_X7_remember rfl (by decide +kernel) ⟨Nat.le_of_ble_eq_true rfl, Nat.le_of_ble_eq_true rfl⟩ [0, 1, 3] rfl rfl [(true, 0), (true, 1), (false, 2), (true, 2), (false, 4), (false, 5), (false, 6)] rfl rfl rfl (va_recv hM.1 hP (ci := 6) (q0 := 0) rfl rfl) rfl hl.1 rfl (Nat.le_of_ble_eq_true rfl) dX7_addAll_24 ⟨Nat.le_refl _, Nat.le_refl _⟩ (fun H locs hP hD hS => ?_)
  refine W.eq (g2 := F0 m 27 ls []) rfl ?_
  refine lv_iconst (v := (nI 0)) hx hb dX7_addAll_27 (by decide) ?_
  refine lv_istore_n (lv' := [(1, .int (nI 0)), (0, .ref b)]) hx hb dX7_addAll_28 rfl hl (by decide) rfl (fun ls hl => ?_)
  refine lv_iconst (v := (nI 0)) hx hb dX7_addAll_29 (by decide) ?_
  refine lv_istore_n (lv' := [(2, .int (nI 0)), (1, .int (nI 0)), (0, .ref b)]) hx hb dX7_addAll_30 rfl hl (by decide) rfl (fun ls hl => ?_)
  have lp31 : ∀ (n9 : Nat) (gf : Nat → Nat) (acc : Nat) (j9 : Nat), (ln + 1 - j9) < n9 → (j9 ≤ ln + 1) → (j9 % 4 = 0) → (gf = m_all g u (j9 / 4)) → (acc = k_all g u (j9 / 4)) → (k_ok gf) → ∀ (H : Heap) (locs : List Loc), va_P D vwCl [(b, .inr (6, [.int (nI 0), .ref b1, .ref b2, .ref b3, .int (nI (k_n1 n + 1)), .ref b4, .ref b5, .ref b6, .int (nI ln)])), (b1, .inl (tc 0, 60, .inl ((fun k => nI (gf k))))), (b2, .inl (tc 0, 60, .inl ((fun k => nI (ga k))))), (b3, .inl (tc 0, 840, .inl ((fun k => nI ((k_rem sv n g) k))))), (b4, .inl (tc 0, 120, .inl ((fun k => nI (sl k))))), (b5, .inl (tc 3, 2, .inl ((fun k => bI (iz k))))), (b6, .inl (tc 2, 100, .inl ((fun k => byI (u k)))))] H → va_D A [(b, .inr (6, [.int (nI 0), .ref b1, .ref b2, .ref b3, .int (nI (k_n1 n + 1)), .ref b4, .ref b5, .ref b6, .int (nI ln)])), (b1, .inl (tc 0, 60, .inl ((fun k => nI (gf k))))), (b2, .inl (tc 0, 60, .inl ((fun k => nI (ga k))))), (b3, .inl (tc 0, 840, .inl ((fun k => nI ((k_rem sv n g) k))))), (b4, .inl (tc 0, 120, .inl ((fun k => nI (sl k))))), (b5, .inl (tc 3, 2, .inl ((fun k => bI (iz k))))), (b6, .inl (tc 2, 100, .inl ((fun k => byI (u k)))))] → va_S A s.heap H locs → ∀ ls : Array Slot, lv_has ls 4 [(2, .int (nI j9)), (1, .int (nI acc)), (0, .ref b)] → W p l e ({ frames := 3, cells := 0, slots := 0, locals := 63 } : Room) s m args below meth c H locs 0 0 (MQ below (ipQ D A (w_md tc b b1 b2 b3 b4 b5 b6 (nI 0) ((m_all g u ((ln + 1) / 4))) ga ((k_rem sv n g)) (k_n1 n + 1) sl iz u ln) (some (.int (nI (k_all g u ((ln + 1) / 4)))))) args s 0 0 A) (F0 m 31 ls []) := by
    intro n9
    induction n9 with
    | zero => intro gf acc j9 hmu; exact absurd hmu (Nat.not_lt_zero _)
    | succ n9 ih31 =>
      intro gf acc j9 hmu hk9 hk4 hgf hac hkg H locs hP hD hS ls hl
      have okg := hkg.1
      refine lv_iload_n hx hb dX7_addAll_31 rfl (lv_at hl 0 rfl) ?_
      refine lv_aload_n hx hb dX7_addAll_32 rfl (lv_at hl 2 rfl) ?_
      refine va_get (D := D) (ci := 6) (v := .int (nI ln)) (C := RX7) (T := TX7) (N := 9) hx hb hts hinX7 hown hM.1 hP 0 rfl rfl 8 (by decide) (hts (.fieldLink RX7 86 "TripleWaysModel" "length" "I") (by decide +kernel)) (fun _ h9 => h9) rfl dX7_addAll_33 ?_
      refine ln_icmp_ge (tgt := 105) hx hb dX7_addAll_36 (by decide) (by omega) (by omega) (fun h1 => ?_) (fun h1 => ?_)
      · refine lv_iload_n hx hb dX7_addAll_105 rfl (lv_at hl 1 rfl) ?_
        exact ip_iret hx hb hr hlk dX7_addAll_106 hS (congrArg nI (by (have ei : j9 / 4 = (ln + 1) / 4 := by omega); rw [← ei]; exact hac)) (by (have ei : j9 / 4 = (ln + 1) / 4 := by omega); rw [ei] at hgf; rw [← hgf]; exact hP)
      · have hd0 := hfd.2 j9 (by omega)
        have hd1 := hfd.2 (j9 + 1) (by omega)
        have hd2 := hfd.2 (j9 + 2) (by omega)
        refine lv_bipush (v := (nI 100)) hx hb dX7_addAll_39 (by decide) ?_
        refine lv_aload_n hx hb dX7_addAll_41 rfl (lv_at hl 2 rfl) ?_
        refine va_get (D := D) (ci := 6) (v := .ref b6) (C := RX7) (T := TX7) (N := 9) hx hb hts hinX7 hown hM.1 hP 0 rfl rfl 7 (by decide) (hts (.fieldLink RX7 26 "TripleWaysModel" "text" "[B") (by decide +kernel)) (fun _ h9 => h9) rfl dX7_addAll_42 ?_
        refine lv_iload_n hx hb dX7_addAll_45 rfl (lv_at hl 0 rfl) ?_
        refine ln_bald hx hb hM.1 hP 6 2 rfl rfl dX7_addAll_46 (by decide) (by omega) (rfl) ?_
        refine ln_eq (x' := nI (u j9)) (k_by_sm _ (by omega)) ?_
        refine lv_bipush (v := (nI 48)) hx hb dX7_addAll_47 (by decide) ?_
        refine ln_isub hx hb dX7_addAll_49 (by omega) ?_
        refine ln_imul hx hb dX7_addAll_50 ?_
        refine lv_bipush (v := (nI 10)) hx hb dX7_addAll_51 (by decide) ?_
        refine lv_aload_n hx hb dX7_addAll_53 rfl (lv_at hl 2 rfl) ?_
        refine va_get (D := D) (ci := 6) (v := .ref b6) (C := RX7) (T := TX7) (N := 9) hx hb hts hinX7 hown hM.1 hP 0 rfl rfl 7 (by decide) (hts (.fieldLink RX7 26 "TripleWaysModel" "text" "[B") (by decide +kernel)) (fun _ h9 => h9) rfl dX7_addAll_54 ?_
        refine lv_iload_n hx hb dX7_addAll_57 rfl (lv_at hl 0 rfl) ?_
        refine lv_iconst (v := (nI 1)) hx hb dX7_addAll_58 (by decide) ?_
        refine ln_iadd hx hb dX7_addAll_59 ?_
        refine ln_bald hx hb hM.1 hP 6 2 rfl rfl dX7_addAll_60 (by decide) (by omega) (rfl) ?_
        refine ln_eq (x' := nI (u (j9 + 1))) (k_by_sm _ (by omega)) ?_
        refine lv_bipush (v := (nI 48)) hx hb dX7_addAll_61 (by decide) ?_
        refine ln_isub hx hb dX7_addAll_63 (by omega) ?_
        refine ln_imul hx hb dX7_addAll_64 ?_
        refine ln_iadd hx hb dX7_addAll_65 ?_
        refine lv_aload_n hx hb dX7_addAll_66 rfl (lv_at hl 2 rfl) ?_
        refine va_get (D := D) (ci := 6) (v := .ref b6) (C := RX7) (T := TX7) (N := 9) hx hb hts hinX7 hown hM.1 hP 0 rfl rfl 7 (by decide) (hts (.fieldLink RX7 26 "TripleWaysModel" "text" "[B") (by decide +kernel)) (fun _ h9 => h9) rfl dX7_addAll_67 ?_
        refine lv_iload_n hx hb dX7_addAll_70 rfl (lv_at hl 0 rfl) ?_
        refine lv_iconst (v := (nI 2)) hx hb dX7_addAll_71 (by decide) ?_
        refine ln_iadd hx hb dX7_addAll_72 ?_
        refine ln_bald hx hb hM.1 hP 6 2 rfl rfl dX7_addAll_73 (by decide) (by omega) (rfl) ?_
        refine ln_eq (x' := nI (u (j9 + 2))) (k_by_sm _ (by omega)) ?_
        refine ln_iadd hx hb dX7_addAll_74 ?_
        refine lv_bipush (v := (nI 48)) hx hb dX7_addAll_75 (by decide) ?_
        refine ln_isub hx hb dX7_addAll_77 (by omega) ?_
        refine ln_eq (x' := (nI (k_tt u (j9 / 4)))) (congrArg nI (show _ = k_tt u (j9 / 4) by unfold k_tt; rw [show 4 * (j9 / 4) = j9 by omega]; omega)) ?_
        have htt9 : k_tt u (j9 / 4) < 1000 := k_tt_lt hft (by omega)
        have e44 : (j9 + 4) / 4 = j9 / 4 + 1 := by omega
        clear hd0 hd1 hd2
        refine lv_istore_n (lv' := [(3, .int (nI (k_tt u (j9 / 4)))), (2, .int (nI j9)), (1, .int (nI acc)), (0, .ref b)]) hx hb dX7_addAll_78 rfl hl (by decide) rfl (fun ls hl => ?_)
        refine lv_iload_n hx hb dX7_addAll_79 rfl (lv_at hl 2 rfl) ?_
        refine lv_aload_n hx hb dX7_addAll_80 rfl (lv_at hl 3 rfl) ?_
        refine lv_iload_n hx hb dX7_addAll_81 rfl (lv_at hl 0 rfl) ?_
        refine ro_V (C := RX7) (n := 1) ⟨hx, hb, hml, hown, hts⟩ hM hS hP (c7_addFault l D tc zb b b1 (fun k9 => match k9 with | 0 => .int (nI 0) | 2 => .ref b2 | 3 => .ref b3 | 4 => .int (nI (k_n1 n + 1)) | 5 => .ref b4 | 6 => .ref b5 | 7 => .ref b6 | 8 => .int (nI ln) | _ => .null) gf (k_tt u (j9 / 4)) hkg (by first | omega | exact ok4 _ (by omega))) gX7_addAll_X7_addFault rfl (by decide +kernel) ⟨Nat.le_of_ble_eq_true rfl, Nat.le_of_ble_eq_true rfl⟩ [0, 1] rfl (va_recv hM.1 hP (ci := 6) (q0 := 0) rfl rfl) rfl hl.1 rfl (Nat.le_of_ble_eq_true rfl) dX7_addAll_82 ⟨Nat.le_refl _, Nat.le_refl _⟩ ?_
        have hf2 := k_af_le gf (k_tt u (j9 / 4))
        refine ln_if_ne (tgt := 96) hx hb dX7_addAll_85 (by decide) (by omega) (fun h3 => ?_) (fun h3 => ?_)
        · have hful9 := k_af_put (g := gf) (t := k_tt u (j9 / 4)) (by omega)
          refine lv_iconst (v := (nI 0)) hx hb dX7_addAll_96 (by decide) ?_
          refine ln_iadd hx hb dX7_addAll_97 ?_
          refine lv_istore_n (lv' := [(1, .int (nI (acc + 0))), (3, .int (nI (k_tt u (j9 / 4)))), (2, .int (nI j9)), (0, .ref b)]) hx hb dX7_addAll_98 rfl hl (by decide) rfl (fun ls hl => ?_)
          refine lv_iinc (v := (nI (j9 + 4))) (lv' := [(2, .int (nI (j9 + 4))), (1, .int (nI (acc + 0))), (3, .int (nI (k_tt u (j9 / 4)))), (0, .ref b)]) hx hb dX7_addAll_99 hl (k := 2) rfl (nI_add j9 4) (by decide) rfl (fun ls hl => ?_)
          refine lv_goto (tgt := 31) hx hb dX7_addAll_102 (by decide) ?_
          exact ih31 gf (acc + 0) (j9 + 4) (by omega) (by omega) (by omega) (by first | (rw [e44, m_all, ← hgf]; done) | (rw [e44, m_all, ← hgf]; exact hful9.1.symm)) (by first | (rw [e44, k_all, ← hgf, ← hac]; done) | (rw [e44, k_all, ← hgf, ← hac, hful9.2]; done)) (by first | exact ok_put hkg htt9 | assumption) _ _ hP hD hS _ (lv_sub hl [0, 1, 3] rfl)
        · have hroom9 := k_af_0 (t := k_tt u (j9 / 4)) hkg (by omega)
          refine lv_aload_n hx hb dX7_addAll_88 rfl (lv_at hl 3 rfl) ?_
          refine lv_iload_n hx hb dX7_addAll_89 rfl (lv_at hl 0 rfl) ?_
          refine ip_V (C := RX7) (n := 1) (wl' := [(b, .inr (6, [.int (nI 0), .ref b1, .ref b2, .ref b3, .int (nI (k_n1 n + 1)), .ref b4, .ref b5, .ref b6, .int (nI ln)])), (b1, .inl (tc 0, 60, .inl ((fun k => nI ((m_put gf (k_tt u (j9 / 4))) k))))), (b2, .inl (tc 0, 60, .inl ((fun k => nI (ga k))))), (b3, .inl (tc 0, 840, .inl ((fun k => nI ((k_rem sv n g) k))))), (b4, .inl (tc 0, 120, .inl ((fun k => nI (sl k))))), (b5, .inl (tc 3, 2, .inl ((fun k => bI (iz k))))), (b6, .inl (tc 2, 100, .inl ((fun k => byI (u k)))))]) ⟨hx, hb, hml, hown, hts⟩ hM hS hP hD (c7_adds l D tc zb b b1 (fun k9 => match k9 with | 0 => .int (nI 0) | 2 => .ref b2 | 3 => .ref b3 | 4 => .int (nI (k_n1 n + 1)) | 5 => .ref b4 | 6 => .ref b5 | 7 => .ref b6 | 8 => .int (nI ln) | _ => .null) gf (k_tt u (j9 / 4)) hkg (by first | omega | exact ok4 _ (by omega)) (by assumption)) gX7_addAll_X7_adds rfl (by decide +kernel) ⟨Nat.le_of_ble_eq_true rfl, Nat.le_of_ble_eq_true rfl⟩ [0, 1] rfl rfl [(true, 0), (true, 1), (false, 2), (false, 3), (false, 4), (false, 5), (false, 6)] rfl rfl rfl (va_recv hM.1 hP (ci := 6) (q0 := 0) rfl rfl) rfl hl.1 rfl (Nat.le_of_ble_eq_true rfl) dX7_addAll_90 ⟨Nat.le_refl _, Nat.le_refl _⟩ (fun H locs hP hD hS => ?_)
          refine W.eq (g2 := F0 m 93 ls [.int (nI (k_pv gf (k_tt u (j9 / 4)))), .int (nI acc)]) rfl ?_
          refine lv_goto (tgt := 97) hx hb dX7_addAll_93 (by decide) ?_
          refine ln_iadd hx hb dX7_addAll_97 ?_
          refine lv_istore_n (lv' := [(1, .int (nI (acc + (k_pv gf (k_tt u (j9 / 4)))))), (3, .int (nI (k_tt u (j9 / 4)))), (2, .int (nI j9)), (0, .ref b)]) hx hb dX7_addAll_98 rfl hl (by decide) rfl (fun ls hl => ?_)
          refine lv_iinc (v := (nI (j9 + 4))) (lv' := [(2, .int (nI (j9 + 4))), (1, .int (nI (acc + (k_pv gf (k_tt u (j9 / 4)))))), (3, .int (nI (k_tt u (j9 / 4)))), (0, .ref b)]) hx hb dX7_addAll_99 hl (k := 2) rfl (nI_add j9 4) (by decide) rfl (fun ls hl => ?_)
          refine lv_goto (tgt := 31) hx hb dX7_addAll_102 (by decide) ?_
          exact ih31 ((m_put gf (k_tt u (j9 / 4)))) (acc + (k_pv gf (k_tt u (j9 / 4)))) (j9 + 4) (by omega) (by omega) (by omega) (by first | (rw [e44, m_all, ← hgf]; done) | (rw [e44, m_all, ← hgf]; exact hful9.1.symm)) (by first | (rw [e44, k_all, ← hgf, ← hac]; done) | (rw [e44, k_all, ← hgf, ← hac, hful9.2]; done)) (by first | exact ok_put hkg htt9 | assumption) _ _ hP hD hS _ (lv_sub hl [0, 1, 3] rfl)
  exact lp31 _ g 0 0 (Nat.lt_succ_self _) (by omega) (by omega) (by rfl) (by rfl) (by exact hk) _ _ hP hD hS _ (lv_sub hl [0, 1, 2] rfl)
set_option maxHeartbeats 4000000 in
set_option maxRecDepth 100000 in
theorem c7_addAll_b1 (l : Launch) (D : va_G) (tc : Nat → ClassId) (zb : Nat) (b b1 b2 b3 b4 b5 b6 : Nat) (th : Int32) (g ga sv : Nat → Nat) (n : Nat) (sl : Nat → Nat) (iz : Nat → Bool) (u : Nat → Nat) (ln : Nat) (r : Nat) (hk : k_ok g) (hn : n ≤ 14) (hln : ln ≤ 100) (hu : ∀ k, u k < 256) (hf : k_ft u ln = some r) (hr : r < 2 ^ 31) : IP l yX7_addAll wsX7_addAll 2 49 D tc zb (w_md tc b b1 b2 b3 b4 b5 b6 th g ga sv n sl iz u ln) (w_md tc b b1 b2 b3 b4 b5 b6 (nI 1) g ga sv n sl iz u ln) [.ref b] (some (.int (nI 0))) := by
  refine IP.of (cc := cX7_addAll) (maxL := 4) (ret := (some .int)) (by decide) rfl (Nat.le_of_ble_eq_true rfl) ?_
  intro p e s m args below meth c A hx hb hr hml hlk hts hown hM hS hP hD ls hl
  have hl : lv_has ls 4 [(0, .ref b)] := hl
  obtain ⟨ok0, ok1, ok2, ok3, ok4, ok5, ok6⟩ := id hk
  refine lv_aload_n hx hb dX7_addAll_0 rfl (lv_at hl 0 rfl) ?_
  refine lv_aload_n hx hb dX7_addAll_1 rfl (lv_at hl 0 rfl) ?_
  refine lv_iconst (v := (nI 0)) hx hb dX7_addAll_2 (by decide) ?_
  refine ro_V (C := RX7) (n := 1) ⟨hx, hb, hml, hown, hts⟩ hM hS hP (c7_faultT l D tc zb b b6 (fun k9 => match k9 with | 0 => .int (th) | 1 => .ref b1 | 2 => .ref b2 | 3 => .ref b3 | 4 => .int (nI n) | 5 => .ref b4 | 6 => .ref b5 | _ => .null) u ln (by first | assumption | omega) (by assumption)) gX7_addAll_X7_faultOf rfl (by decide +kernel) ⟨Nat.le_of_ble_eq_true rfl, Nat.le_of_ble_eq_true rfl⟩ [0, 6] rfl (va_recv hM.1 hP (ci := 6) (q0 := 0) rfl rfl) rfl hl.1 rfl (Nat.le_of_ble_eq_true rfl) dX7_addAll_3 ⟨Nat.le_refl _, Nat.le_refl _⟩ ?_
  refine ln_eq (x' := (nI r)) (congrArg oI hf) ?_
  refine lv_iconst (v := (-1)) hx hb dX7_addAll_6 (by decide) ?_
  refine ln_ne_m1 (tgt := 14) hx hb dX7_addAll_7 (by decide) (by omega) ?_
  refine lv_iconst (v := (nI 1)) hx hb dX7_addAll_14 (by decide) ?_
  refine ip_V (C := RX7) (n := 1) (wl' := [(b, .inr (6, [.int (nI 1), .ref b1, .ref b2, .ref b3, .int (nI n), .ref b4, .ref b5, .ref b6, .int (nI ln)])), (b1, .inl (tc 0, 60, .inl ((fun k => nI (g k))))), (b2, .inl (tc 0, 60, .inl ((fun k => nI (ga k))))), (b3, .inl (tc 0, 840, .inl ((fun k => nI (sv k))))), (b4, .inl (tc 0, 120, .inl ((fun k => nI (sl k))))), (b5, .inl (tc 3, 2, .inl ((fun k => bI (iz k))))), (b6, .inl (tc 2, 100, .inl ((fun k => byI (u k)))))]) ⟨hx, hb, hml, hown, hts⟩ hM hS hP hD (c7_holdsP l D tc zb b th (fun k9 => match k9 with | 1 => .ref b1 | 2 => .ref b2 | 3 => .ref b3 | 4 => .int (nI n) | 5 => .ref b4 | 6 => .ref b5 | 7 => .ref b6 | 8 => .int (nI ln) | _ => .null) 1 (by omega)) gX7_addAll_X7_holds rfl (by decide +kernel) ⟨Nat.le_of_ble_eq_true rfl, Nat.le_of_ble_eq_true rfl⟩ [0] rfl rfl [(true, 0), (false, 1), (false, 2), (false, 3), (false, 4), (false, 5), (false, 6)] rfl rfl rfl (va_recv hM.1 hP (ci := 6) (q0 := 0) rfl rfl) rfl hl.1 rfl (Nat.le_of_ble_eq_true rfl) dX7_addAll_15 ⟨Nat.le_refl _, Nat.le_refl _⟩ (fun H locs hP hD hS => ?_)
  refine W.eq (g2 := F0 m 18 ls [.int (bI (false))]) rfl ?_
  refine lv_if_ne (tgt := 23) hx hb dX7_addAll_18 (by decide) (fun h9 => False.elim (by revert h9; decide)) (fun _ => ?_)
  refine lv_iconst (v := (nI 0)) hx hb dX7_addAll_21 (by decide) ?_
  exact ip_iret hx hb hr hlk dX7_addAll_22 hS (rfl) hP
