theorem c7_in_big (l : Launch) (D : va_G) (tc : Nat → ClassId) (zb : Nat) (x9 lo hi : Nat) (h1 : lo ≤ x9 ∧ x9 ≤ hi) (h3 : hi < 2 ^ 63) : RO l yX7_in wsX7_in 0 0 D tc zb [] [.long (lN x9), .long (lN lo), .long (lN hi)] (.int (bI true)) := by
  have h := c7_in l D tc zb (lN x9) (lN lo) (lN hi)
  rw [decide_eq_true (show lN lo ≤ lN x9 ∧ lN x9 ≤ lN hi from ⟨(lN_le63 (by omega) (by omega)).mpr h1.1, (lN_le63 (by omega) h3).mpr h1.2⟩)] at h
  exact h

set_option maxHeartbeats 4000000 in
set_option maxRecDepth 100000 in
theorem c7_succeeds (l : Launch) (D : va_G) (tc : Nat → ClassId) (zb : Nat) (b b1 : Nat) (o : Nat → Value) (g : Nat → Nat) (grp : Nat) (hk : k_ok g) (hg9 : grp < 100000) : IP l yX7_succeeds wsX7_succeeds 11 254 D tc zb (w_ms tc b b1 o g) (w_ms tc b b1 o (m_sg g grp)) [.ref b, .int (nI grp)] (some (.int (bI (k_sg g grp)))) := by
  refine IP.of (cc := cX7_succeeds) (maxL := 13) (ret := (some .boolean)) (by decide) rfl (Nat.le_of_ble_eq_true rfl) ?_
  intro p e s m args below meth c A hx hb hr hml hlk hts hown hM hS hP hD ls hl
  have hl : lv_has ls 13 [(0, .ref b), (1, .int (nI grp))] := hl
  have hinX7 : ∀ w ∈ u_ws RX7 TX7 9, w ∈ wsX7_succeeds := by decide +kernel
  obtain ⟨ok0, ok1, ok2, ok3, ok4, ok5, ok6⟩ := id hk
  obtain ⟨cc9, hcc⟩ : ∃ cc9, cc9 = grp / 10000 := ⟨_, rfl⟩
  obtain ⟨fi, hfi⟩ : ∃ fi, fi = grp / 1000 % 10 := ⟨_, rfl⟩
  obtain ⟨re, hre⟩ : ∃ re, re = grp % 1000 := ⟨_, rfl⟩
  obtain ⟨fo, hfo⟩ : ∃ fo, fo = grp % 10000 := ⟨_, rfl⟩
  have hf4 : fo = 1000 * fi + re := by omega
  have hb1 : fi < 10 := by omega
  have hb2 : re < 1000 := by omega
  have hk41 : g 41 < 64 := ok1
  refine lv_iload_n hx hb dX7_succeeds_0 rfl (lv_at hl 1 rfl) ?_
  refine lv_sipush (v := (nI 1000)) hx hb dX7_succeeds_1 (by decide) ?_
  refine ln_idiv hx hb dX7_succeeds_4 (by omega) (by decide) (by decide) ?_
  refine lv_bipush (v := (nI 10)) hx hb dX7_succeeds_5 (by decide) ?_
  refine ln_irem hx hb dX7_succeeds_7 (by omega) (by decide) (by decide) ?_
  refine ln_eq (x' := (nI fi)) (congrArg nI hfi.symm) ?_
  refine lv_istore_n (lv' := [(2, .int (nI fi)), (0, .ref b), (1, .int (nI grp))]) hx hb dX7_succeeds_8 rfl hl (by decide) rfl (fun ls hl => ?_)
  refine lv_iload_n hx hb dX7_succeeds_9 rfl (lv_at hl 2 rfl) ?_
  refine lv_sipush (v := (nI 1000)) hx hb dX7_succeeds_10 (by decide) ?_
  refine ln_irem hx hb dX7_succeeds_13 (by omega) (by decide) (by decide) ?_
  refine ln_eq (x' := (nI re)) (congrArg nI hre.symm) ?_
  refine lv_istore_n (lv' := [(3, .int (nI re)), (2, .int (nI fi)), (0, .ref b), (1, .int (nI grp))]) hx hb dX7_succeeds_14 rfl hl (by decide) rfl (fun ls hl => ?_)
  refine lv_iload_n hx hb dX7_succeeds_15 rfl (lv_at hl 3 rfl) ?_
  refine lv_sipush (v := (nI 10000)) hx hb dX7_succeeds_16 (by decide) ?_
  refine ln_irem hx hb dX7_succeeds_19 (by omega) (by decide) (by decide) ?_
  refine ln_eq (x' := (nI fo)) (congrArg nI hfo.symm) ?_
  refine lv_istore (lv' := [(4, .int (nI fo)), (3, .int (nI re)), (2, .int (nI fi)), (0, .ref b), (1, .int (nI grp))]) hx hb dX7_succeeds_20 hl (by decide) rfl (fun ls hl => ?_)
  refine lv_iload_n hx hb dX7_succeeds_22 rfl (lv_at hl 4 rfl) ?_
  refine lv_sipush (v := (nI 10000)) hx hb dX7_succeeds_23 (by decide) ?_
  refine ln_idiv hx hb dX7_succeeds_26 (by omega) (by decide) (by decide) ?_
  refine ln_eq (x' := (nI cc9)) (congrArg nI hcc.symm) ?_
  rcases (show cc9 = 0 ∨ cc9 = 1 ∨ cc9 = 2 ∨ cc9 = 3 ∨ cc9 = 4 ∨ cc9 = 5 ∨ cc9 = 6 ∨ cc9 = 7 ∨ cc9 = 8 ∨ cc9 = 9 by omega) with hsw | hsw | hsw | hsw | hsw | hsw | hsw | hsw | hsw | hsw
  · refine ln_eq (x' := nI 0) (congrArg nI hsw) ?_
    refine lv_tableOut (tgt := 367) hx hb dX7_succeeds_27 (by decide) (by decide) ?_
    refine lv_iconst (v := (nI 0)) hx hb dX7_succeeds_367 (by decide) ?_
    exact ip_zret hx hb hr hlk dX7_succeeds_368 hS (show bI false = _ from congrArg bI (by unfold k_sg; rw [← hcc, ← hfi, ← hre, hsw]; rfl)) (by unfold m_sg; rw [← hcc, ← hfi, ← hre, hsw]; exact hP)
  · refine ln_eq (x' := nI 1) (congrArg nI hsw) ?_
    refine lv_tableIn (off := 49) (tgt := 76) hx hb dX7_succeeds_27 (by decide) (by decide) (by decide) (by decide) ?_
    refine lv_iload_n hx hb dX7_succeeds_76 rfl (lv_at hl 2 rfl) ?_
    refine ln_if_ne (tgt := 92) hx hb dX7_succeeds_77 (by decide) (by omega) (fun h1 => ?_) (fun h1 => ?_)
    · refine lv_iconst (v := (nI 0)) hx hb dX7_succeeds_92 (by decide) ?_
      refine lv_istore (lv' := [(5, .int (nI 0)), (4, .int (nI fo)), (3, .int (nI re)), (2, .int (nI fi)), (0, .ref b), (1, .int (nI grp))]) hx hb dX7_succeeds_93 hl (by decide) rfl (fun ls hl => ?_)
      refine lv_iload hx hb dX7_succeeds_95 (lv_at hl 0 rfl) ?_
      refine lv_if_eq (tgt := 108) hx hb dX7_succeeds_97 (by decide) (fun _ => ?_) (fun h9 => False.elim (by revert h9; decide))
      refine lv_iconst (v := (nI 0)) hx hb dX7_succeeds_108 (by decide) ?_
      refine lv_istore (lv' := [(6, .int (nI 0)), (5, .int (nI 0)), (4, .int (nI fo)), (3, .int (nI re)), (2, .int (nI fi)), (0, .ref b), (1, .int (nI grp))]) hx hb dX7_succeeds_109 hl (by decide) rfl (fun ls hl => ?_)
      refine lv_iload hx hb dX7_succeeds_111 (lv_at hl 1 rfl) ?_
      exact ip_zret hx hb hr hlk dX7_succeeds_113 hS (show bI false = _ from congrArg bI (by unfold k_sg; rw [← hcc, ← hfi, ← hre, hsw]; show _ = decide (fi = 0 ∧ k_af g re = 0); exact (decide_eq_false (fun h9 => by (have h8 := h9.1); (have h7 := h9.2); omega)).symm)) (by unfold m_sg; rw [← hcc, ← hfi, ← hre, hsw]; first | (rw [show m_sc g 1 fi re = g from if_neg (by omega)]; exact hP) | (rw [show m_sc g 1 fi re = g from (if_pos (by omega)).trans (k_af_put (g := g) (t := re) (by omega)).1]; exact hP))
    · refine lv_aload_n hx hb dX7_succeeds_80 rfl (lv_at hl 3 rfl) ?_
      refine lv_iload_n hx hb dX7_succeeds_81 rfl (lv_at hl 1 rfl) ?_
      refine ro_V (C := RX7) (n := 1) ⟨hx, hb, hml, hown, hts⟩ hM hS hP (c7_addFault l D tc zb b b1 o g re hk (by first | omega | exact ok4 _ (by omega))) gX7_succeeds_X7_addFault rfl (by decide +kernel) ⟨Nat.le_of_ble_eq_true rfl, Nat.le_of_ble_eq_true rfl⟩ [0, 1] rfl (va_recv hM.1 hP (ci := 6) (q0 := 0) rfl rfl) rfl hl.1 rfl (Nat.le_of_ble_eq_true rfl) dX7_succeeds_82 ⟨Nat.le_refl _, Nat.le_refl _⟩ ?_
      have hf2 := k_af_le g re
      refine ln_if_ne (tgt := 92) hx hb dX7_succeeds_85 (by decide) (by omega) (fun h3 => ?_) (fun h3 => ?_)
      · refine lv_iconst (v := (nI 0)) hx hb dX7_succeeds_92 (by decide) ?_
        refine lv_istore (lv' := [(5, .int (nI 0)), (4, .int (nI fo)), (3, .int (nI re)), (2, .int (nI fi)), (0, .ref b), (1, .int (nI grp))]) hx hb dX7_succeeds_93 hl (by decide) rfl (fun ls hl => ?_)
        refine lv_iload hx hb dX7_succeeds_95 (lv_at hl 0 rfl) ?_
        refine lv_if_eq (tgt := 108) hx hb dX7_succeeds_97 (by decide) (fun _ => ?_) (fun h9 => False.elim (by revert h9; decide))
        refine lv_iconst (v := (nI 0)) hx hb dX7_succeeds_108 (by decide) ?_
        refine lv_istore (lv' := [(6, .int (nI 0)), (5, .int (nI 0)), (4, .int (nI fo)), (3, .int (nI re)), (2, .int (nI fi)), (0, .ref b), (1, .int (nI grp))]) hx hb dX7_succeeds_109 hl (by decide) rfl (fun ls hl => ?_)
        refine lv_iload hx hb dX7_succeeds_111 (lv_at hl 1 rfl) ?_
        exact ip_zret hx hb hr hlk dX7_succeeds_113 hS (show bI false = _ from congrArg bI (by unfold k_sg; rw [← hcc, ← hfi, ← hre, hsw]; show _ = decide (fi = 0 ∧ k_af g re = 0); exact (decide_eq_false (fun h9 => by (have h8 := h9.1); (have h7 := h9.2); omega)).symm)) (by unfold m_sg; rw [← hcc, ← hfi, ← hre, hsw]; first | (rw [show m_sc g 1 fi re = g from if_neg (by omega)]; exact hP) | (rw [show m_sc g 1 fi re = g from (if_pos (by omega)).trans (k_af_put (g := g) (t := re) (by omega)).1]; exact hP))
      · refine lv_iconst (v := (nI 1)) hx hb dX7_succeeds_88 (by decide) ?_
        refine lv_goto (tgt := 93) hx hb dX7_succeeds_89 (by decide) ?_
        refine lv_istore (lv' := [(5, .int (nI 1)), (4, .int (nI fo)), (3, .int (nI re)), (2, .int (nI fi)), (0, .ref b), (1, .int (nI grp))]) hx hb dX7_succeeds_93 hl (by decide) rfl (fun ls hl => ?_)
        refine lv_iload hx hb dX7_succeeds_95 (lv_at hl 0 rfl) ?_
        refine lv_if_eq (tgt := 108) hx hb dX7_succeeds_97 (by decide) (fun h9 => False.elim (by revert h9; decide)) (fun _ => ?_)
        have hroom9 := k_af_0 (t := re) hk (by omega)
        refine lv_aload_n hx hb dX7_succeeds_100 rfl (lv_at hl 4 rfl) ?_
        refine lv_iload_n hx hb dX7_succeeds_101 rfl (lv_at hl 2 rfl) ?_
        refine ip_V (C := RX7) (n := 1) (wl' := [(b, .inr (6, [o 0, .ref b1, o 2, o 3, o 4, o 5, o 6, o 7, o 8])), (b1, .inl (tc 0, 60, .inl ((fun k => nI ((m_put g re) k)))))]) ⟨hx, hb, hml, hown, hts⟩ hM hS hP hD (c7_adds l D tc zb b b1 o g re hk (by first | omega | exact ok4 _ (by omega)) (by assumption)) gX7_succeeds_X7_adds rfl (by decide +kernel) ⟨Nat.le_of_ble_eq_true rfl, Nat.le_of_ble_eq_true rfl⟩ [0, 1] rfl rfl [(true, 0), (true, 1)] rfl rfl rfl (va_recv hM.1 hP (ci := 6) (q0 := 0) rfl rfl) rfl hl.1 rfl (Nat.le_of_ble_eq_true rfl) dX7_succeeds_102 ⟨Nat.le_refl _, Nat.le_refl _⟩ (fun H locs hP hD hS => ?_)
        refine W.eq (g2 := F0 m 105 ls [.int (nI (k_pv g re))]) rfl ?_
        refine lv_goto (tgt := 109) hx hb dX7_succeeds_105 (by decide) ?_
        refine lv_istore (lv' := [(6, .int (nI (k_pv g re))), (5, .int (nI 1)), (4, .int (nI fo)), (3, .int (nI re)), (2, .int (nI fi)), (0, .ref b), (1, .int (nI grp))]) hx hb dX7_succeeds_109 hl (by decide) rfl (fun ls hl => ?_)
        refine lv_iload hx hb dX7_succeeds_111 (lv_at hl 1 rfl) ?_
        exact ip_zret hx hb hr hlk dX7_succeeds_113 hS (show bI true = _ from congrArg bI (by unfold k_sg; rw [← hcc, ← hfi, ← hre, hsw]; show _ = decide (fi = 0 ∧ k_af g re = 0); exact (decide_eq_true (by omega)).symm)) (by unfold m_sg; rw [← hcc, ← hfi, ← hre, hsw]; rw [show m_sc g 1 fi re = m_put g re from if_pos (by first | omega | exact ⟨by omega, by omega, by assumption⟩)]; exact hP)
  · refine ln_eq (x' := nI 2) (congrArg nI hsw) ?_
    refine lv_tableIn (off := 87) (tgt := 114) hx hb dX7_succeeds_27 (by decide) (by decide) (by decide) (by decide) ?_
    refine lv_iload_n hx hb dX7_succeeds_114 rfl (lv_at hl 2 rfl) ?_
    refine ln_if_ne (tgt := 126) hx hb dX7_succeeds_115 (by decide) (by omega) (fun h4 => ?_) (fun h4 => ?_)
    · refine lv_iconst (v := (nI 0)) hx hb dX7_succeeds_126 (by decide) ?_
      refine lv_istore (lv' := [(7, .int (nI 0)), (4, .int (nI fo)), (3, .int (nI re)), (2, .int (nI fi)), (0, .ref b), (1, .int (nI grp))]) hx hb dX7_succeeds_127 hl (by decide) rfl (fun ls hl => ?_)
      refine lv_iload_n hx hb dX7_succeeds_129 rfl (lv_at hl 3 rfl) ?_
      refine ln_if_ne (tgt := 137) hx hb dX7_succeeds_130 (by decide) (by omega) (fun h5 => ?_) (fun h5 => ?_)
      · refine lv_iconst (v := (nI 0)) hx hb dX7_succeeds_137 (by decide) ?_
        exact ip_zret hx hb hr hlk dX7_succeeds_138 hS (show bI false = _ from congrArg bI (by unfold k_sg; rw [← hcc, ← hfi, ← hre, hsw]; exact (decide_eq_false (fun h9 => by omega)).symm)) (by unfold m_sg; rw [← hcc, ← hfi, ← hre, hsw]; rw [show m_sc g 2 fi re = g from if_neg (by first | omega | (intro h9; simp_all; done) | (intro h9; omega))]; exact hP)
      · refine lv_iconst (v := (nI 1)) hx hb dX7_succeeds_133 (by decide) ?_
        refine lv_goto (tgt := 138) hx hb dX7_succeeds_134 (by decide) ?_
        exact ip_zret hx hb hr hlk dX7_succeeds_138 hS (show bI true = _ from congrArg bI (by unfold k_sg; rw [← hcc, ← hfi, ← hre, hsw]; exact (decide_eq_true (by omega)).symm)) (by unfold m_sg; rw [← hcc, ← hfi, ← hre, hsw]; rw [show m_sc g 2 fi re = g from if_neg (by first | omega | (intro h9; simp_all; done) | (intro h9; omega))]; exact hP)
    · refine lv_aload_n hx hb dX7_succeeds_118 rfl (lv_at hl 3 rfl) ?_
      refine lv_iload_n hx hb dX7_succeeds_119 rfl (lv_at hl 1 rfl) ?_
      refine ip_V (C := RX7) (n := 1) (wl' := [(b, .inr (6, [o 0, .ref b1, o 2, o 3, o 4, o 5, o 6, o 7, o 8])), (b1, .inl (tc 0, 60, .inl ((fun k => nI ((m_rem g re) k)))))]) ⟨hx, hb, hml, hown, hts⟩ hM hS hP hD (c7_removes l D tc zb b b1 o g re hk (by first | omega | exact ok4 _ (by omega))) gX7_succeeds_X7_removes rfl (by decide +kernel) ⟨Nat.le_of_ble_eq_true rfl, Nat.le_of_ble_eq_true rfl⟩ [0, 1] rfl rfl [(true, 0), (true, 1)] rfl rfl rfl (va_recv hM.1 hP (ci := 6) (q0 := 0) rfl rfl) rfl hl.1 rfl (Nat.le_of_ble_eq_true rfl) dX7_succeeds_120 ⟨Nat.le_refl _, Nat.le_refl _⟩ (fun H locs hP hD hS => ?_)
      refine W.eq (g2 := F0 m 123 ls [.int (nI (k_rv g re))]) rfl ?_
      refine lv_goto (tgt := 127) hx hb dX7_succeeds_123 (by decide) ?_
      refine lv_istore (lv' := [(7, .int (nI (k_rv g re))), (4, .int (nI fo)), (3, .int (nI re)), (2, .int (nI fi)), (0, .ref b), (1, .int (nI grp))]) hx hb dX7_succeeds_127 hl (by decide) rfl (fun ls hl => ?_)
      refine lv_iload_n hx hb dX7_succeeds_129 rfl (lv_at hl 3 rfl) ?_
      refine ln_if_ne (tgt := 137) hx hb dX7_succeeds_130 (by decide) (by omega) (fun h6 => ?_) (fun h6 => ?_)
      · refine lv_iconst (v := (nI 0)) hx hb dX7_succeeds_137 (by decide) ?_
        exact ip_zret hx hb hr hlk dX7_succeeds_138 hS (show bI false = _ from congrArg bI (by unfold k_sg; rw [← hcc, ← hfi, ← hre, hsw]; exact (decide_eq_false (fun h9 => by omega)).symm)) (by unfold m_sg; rw [← hcc, ← hfi, ← hre, hsw]; rw [show m_sc g 2 fi re = m_rem g re from if_pos (by first | omega | exact ⟨by omega, by omega, by assumption⟩)]; exact hP)
      · refine lv_iconst (v := (nI 1)) hx hb dX7_succeeds_133 (by decide) ?_
        refine lv_goto (tgt := 138) hx hb dX7_succeeds_134 (by decide) ?_
        exact ip_zret hx hb hr hlk dX7_succeeds_138 hS (show bI true = _ from congrArg bI (by unfold k_sg; rw [← hcc, ← hfi, ← hre, hsw]; exact (decide_eq_true (by omega)).symm)) (by unfold m_sg; rw [← hcc, ← hfi, ← hre, hsw]; rw [show m_sc g 2 fi re = m_rem g re from if_pos (by first | omega | exact ⟨by omega, by omega, by assumption⟩)]; exact hP)
  · refine ln_eq (x' := nI 3) (congrArg nI hsw) ?_
    refine lv_tableIn (off := 112) (tgt := 139) hx hb dX7_succeeds_27 (by decide) (by decide) (by decide) (by decide) ?_
    refine lv_iload hx hb dX7_succeeds_139 (lv_at hl 0 rfl) ?_
    refine ro_S (n := 1) ⟨hx, hb, hml, hown, hts⟩ hM hS hP (c7_isQuestion_g l D tc zb fo (by omega)) gX7_succeeds_X7_isQuestion rfl (by decide +kernel) ⟨Nat.le_of_ble_eq_true rfl, Nat.le_of_ble_eq_true rfl⟩ [] rfl rfl hl.1 rfl (Nat.le_of_ble_eq_true rfl) dX7_succeeds_141 ⟨Nat.le_refl _, Nat.le_refl _⟩ ?_
    refine ln_if_eqB (tgt := 156) hx hb dX7_succeeds_144 (by decide) (fun h7 => ?_) (fun h7 => ?_)
    · have h7 := of_decide_eq_false h7
      refine lv_iconst (v := (nI 0)) hx hb dX7_succeeds_156 (by decide) ?_
      refine lv_istore (lv' := [(8, .int (nI 0)), (4, .int (nI fo)), (3, .int (nI re)), (2, .int (nI fi)), (0, .ref b), (1, .int (nI grp))]) hx hb dX7_succeeds_157 hl (by decide) rfl (fun ls hl => ?_)
      refine lv_iload hx hb dX7_succeeds_159 (lv_at hl 1 rfl) ?_
      refine ro_S (n := 1) ⟨hx, hb, hml, hown, hts⟩ hM hS hP (c7_isQuestion_g l D tc zb fo (by omega)) gX7_succeeds_X7_isQuestion rfl (by decide +kernel) ⟨Nat.le_of_ble_eq_true rfl, Nat.le_of_ble_eq_true rfl⟩ [] rfl rfl hl.1 rfl (Nat.le_of_ble_eq_true rfl) dX7_succeeds_161 ⟨Nat.le_refl _, Nat.le_refl _⟩ ?_
      exact ip_zret hx hb hr hlk dX7_succeeds_164 hS (congrArg bI (by unfold k_sg; rw [← hcc, ← hfi, ← hre, hsw]; show _ = decide (1000 * fi + re < 1331); rw [hf4]; exact decide_eq_decide.mpr (by omega))) (by unfold m_sg; rw [← hcc, ← hfi, ← hre, hsw]; rw [show m_sc g 3 fi re = g from if_neg (by first | omega | (intro h9; simp_all; done) | (intro h9; omega))]; exact hP)
    · have h7 := of_decide_eq_true h7
      refine lv_aload_n hx hb dX7_succeeds_147 rfl (lv_at hl 3 rfl) ?_
      refine lv_iload hx hb dX7_succeeds_148 (lv_at hl 0 rfl) ?_
      refine ip_V (C := RX7) (n := 1) (wl' := [(b, .inr (6, [o 0, .ref b1, o 2, o 3, o 4, o 5, o 6, o 7, o 8])), (b1, .inl (tc 0, 60, .inl ((fun k => nI ((m_ask g fo) k)))))]) ⟨hx, hb, hml, hown, hts⟩ hM hS hP hD (c7_asks l D tc zb b b1 o g fo hk (by first | omega | exact ok5 _ (by omega))) gX7_succeeds_X7_asks rfl (by decide +kernel) ⟨Nat.le_of_ble_eq_true rfl, Nat.le_of_ble_eq_true rfl⟩ [0, 1] rfl rfl [(true, 0), (true, 1)] rfl rfl rfl (va_recv hM.1 hP (ci := 6) (q0 := 0) rfl rfl) rfl hl.1 rfl (Nat.le_of_ble_eq_true rfl) dX7_succeeds_150 ⟨Nat.le_refl _, Nat.le_refl _⟩ (fun H locs hP hD hS => ?_)
      refine W.eq (g2 := F0 m 153 ls [.int (nI (k_cnt g fo))]) rfl ?_
      refine lv_goto (tgt := 157) hx hb dX7_succeeds_153 (by decide) ?_
      refine lv_istore (lv' := [(8, .int (nI (k_cnt g fo))), (4, .int (nI fo)), (3, .int (nI re)), (2, .int (nI fi)), (0, .ref b), (1, .int (nI grp))]) hx hb dX7_succeeds_157 hl (by decide) rfl (fun ls hl => ?_)
      refine lv_iload hx hb dX7_succeeds_159 (lv_at hl 1 rfl) ?_
      refine ro_S (n := 1) ⟨hx, hb, hml, hown, hts⟩ hM hS hP (c7_isQuestion_g l D tc zb fo (by omega)) gX7_succeeds_X7_isQuestion rfl (by decide +kernel) ⟨Nat.le_of_ble_eq_true rfl, Nat.le_of_ble_eq_true rfl⟩ [] rfl rfl hl.1 rfl (Nat.le_of_ble_eq_true rfl) dX7_succeeds_161 ⟨Nat.le_refl _, Nat.le_refl _⟩ ?_
      exact ip_zret hx hb hr hlk dX7_succeeds_164 hS (congrArg bI (by unfold k_sg; rw [← hcc, ← hfi, ← hre, hsw]; show _ = decide (1000 * fi + re < 1331); rw [hf4]; exact decide_eq_decide.mpr (by omega))) (by unfold m_sg; rw [← hcc, ← hfi, ← hre, hsw]; rw [show m_sc g 3 fi re = m_ask g (1000 * fi + re) from if_pos (by first | omega | exact ⟨by omega, by omega, by assumption⟩)]; rw [← hf4]; exact hP)
  · refine ln_eq (x' := nI 4) (congrArg nI hsw) ?_
    refine lv_tableIn (off := 138) (tgt := 165) hx hb dX7_succeeds_27 (by decide) (by decide) (by decide) (by decide) ?_
    refine lv_iload_n hx hb dX7_succeeds_165 rfl (lv_at hl 1 rfl) ?_
    refine ln_if_ne (tgt := 194) hx hb dX7_succeeds_166 (by decide) (by omega) (fun h8 => ?_) (fun h8 => ?_)
    · refine lv_iconst (v := (nI 0)) hx hb dX7_succeeds_194 (by decide) ?_
      refine lv_istore (lv' := [(9, .int (nI 0)), (4, .int (nI fo)), (3, .int (nI re)), (2, .int (nI fi)), (0, .ref b), (1, .int (nI grp))]) hx hb dX7_succeeds_195 hl (by decide) rfl (fun ls hl => ?_)
      refine lv_iload hx hb dX7_succeeds_197 (lv_at hl 0 rfl) ?_
      refine lv_if_eq (tgt := 210) hx hb dX7_succeeds_199 (by decide) (fun _ => ?_) (fun h9 => False.elim (by revert h9; decide))
      refine lv_iconst (v := (nI 0)) hx hb dX7_succeeds_210 (by decide) ?_
      refine lv_istore (lv' := [(10, .int (nI 0)), (9, .int (nI 0)), (4, .int (nI fo)), (3, .int (nI re)), (2, .int (nI fi)), (0, .ref b), (1, .int (nI grp))]) hx hb dX7_succeeds_211 hl (by decide) rfl (fun ls hl => ?_)
      refine lv_iload hx hb dX7_succeeds_213 (lv_at hl 1 rfl) ?_
      exact ip_zret hx hb hr hlk dX7_succeeds_215 hS (show bI false = _ from congrArg bI (by unfold k_sg; rw [← hcc, ← hfi, ← hre, hsw]; exact (decide_eq_false (fun h9 => by first | omega | (have h8 := h9.2.2; simp_all; done))).symm)) (by unfold m_sg; rw [← hcc, ← hfi, ← hre, hsw]; rw [show m_sc g 4 fi re = g from if_neg (by first | omega | (intro h9; simp_all; done) | (intro h9; omega))]; exact hP)
    · refine lv_iload_n hx hb dX7_succeeds_169 rfl (lv_at hl 2 rfl) ?_
      refine ro_S (n := 1) ⟨hx, hb, hml, hown, hts⟩ hM hS hP (c7_isOrder_g l D tc zb fi (by omega)) gX7_succeeds_X7_isOrder rfl (by decide +kernel) ⟨Nat.le_of_ble_eq_true rfl, Nat.le_of_ble_eq_true rfl⟩ [] rfl rfl hl.1 rfl (Nat.le_of_ble_eq_true rfl) dX7_succeeds_170 ⟨Nat.le_refl _, Nat.le_refl _⟩ ?_
      refine ln_if_eqB (tgt := 194) hx hb dX7_succeeds_173 (by decide) (fun h9 => ?_) (fun h9 => ?_)
      · have h9 := of_decide_eq_false h9
        refine lv_iconst (v := (nI 0)) hx hb dX7_succeeds_194 (by decide) ?_
        refine lv_istore (lv' := [(9, .int (nI 0)), (4, .int (nI fo)), (3, .int (nI re)), (2, .int (nI fi)), (0, .ref b), (1, .int (nI grp))]) hx hb dX7_succeeds_195 hl (by decide) rfl (fun ls hl => ?_)
        refine lv_iload hx hb dX7_succeeds_197 (lv_at hl 0 rfl) ?_
        refine lv_if_eq (tgt := 210) hx hb dX7_succeeds_199 (by decide) (fun _ => ?_) (fun h9 => False.elim (by revert h9; decide))
        refine lv_iconst (v := (nI 0)) hx hb dX7_succeeds_210 (by decide) ?_
        refine lv_istore (lv' := [(10, .int (nI 0)), (9, .int (nI 0)), (4, .int (nI fo)), (3, .int (nI re)), (2, .int (nI fi)), (0, .ref b), (1, .int (nI grp))]) hx hb dX7_succeeds_211 hl (by decide) rfl (fun ls hl => ?_)
        refine lv_iload hx hb dX7_succeeds_213 (lv_at hl 1 rfl) ?_
        exact ip_zret hx hb hr hlk dX7_succeeds_215 hS (show bI false = _ from congrArg bI (by unfold k_sg; rw [← hcc, ← hfi, ← hre, hsw]; exact (decide_eq_false (fun h9 => by first | omega | (have h8 := h9.2.2; simp_all; done))).symm)) (by unfold m_sg; rw [← hcc, ← hfi, ← hre, hsw]; rw [show m_sc g 4 fi re = g from if_neg (by first | omega | (intro h9; simp_all; done) | (intro h9; omega))]; exact hP)
      · have h9 := of_decide_eq_true h9
        refine lv_aload_n hx hb dX7_succeeds_176 rfl (lv_at hl 3 rfl) ?_
        refine va_get (D := D) (ci := 6) (v := .ref b1) (C := RX7) (T := TX7) (N := 9) hx hb hts hinX7 hown hM.1 hP 0 rfl rfl 1 (by decide) (hts (.fieldLink RX7 7 "TripleWaysModel" "s" "[I") (by decide +kernel)) (fun _ h9 => h9) rfl dX7_succeeds_177 ?_
        refine lv_bipush (v := (nI 41)) hx hb dX7_succeeds_180 (by decide) ?_
        refine ln_iald hx hb hM.1 hP 1 0 rfl rfl dX7_succeeds_182 (by decide) (by omega) (rfl) ?_
        refine lv_iload_n hx hb dX7_succeeds_183 rfl (lv_at hl 2 rfl) ?_
        refine ro_S (n := 2) ⟨hx, hb, hml, hown, hts⟩ hM hS hP (c7_isIn l D tc zb (g 41) fi (by omega) (by omega)) gX7_succeeds_X7_isIn rfl (by decide +kernel) ⟨Nat.le_of_ble_eq_true rfl, Nat.le_of_ble_eq_true rfl⟩ [] rfl rfl hl.1 rfl (Nat.le_of_ble_eq_true rfl) dX7_succeeds_184 ⟨Nat.le_refl _, Nat.le_refl _⟩ ?_
        refine ln_if_neB (tgt := 194) hx hb dX7_succeeds_187 (by decide) (fun h10 => ?_) (fun h10 => ?_)
        · refine lv_iconst (v := (nI 0)) hx hb dX7_succeeds_194 (by decide) ?_
          refine lv_istore (lv' := [(9, .int (nI 0)), (4, .int (nI fo)), (3, .int (nI re)), (2, .int (nI fi)), (0, .ref b), (1, .int (nI grp))]) hx hb dX7_succeeds_195 hl (by decide) rfl (fun ls hl => ?_)
          refine lv_iload hx hb dX7_succeeds_197 (lv_at hl 0 rfl) ?_
          refine lv_if_eq (tgt := 210) hx hb dX7_succeeds_199 (by decide) (fun _ => ?_) (fun h9 => False.elim (by revert h9; decide))
          refine lv_iconst (v := (nI 0)) hx hb dX7_succeeds_210 (by decide) ?_
          refine lv_istore (lv' := [(10, .int (nI 0)), (9, .int (nI 0)), (4, .int (nI fo)), (3, .int (nI re)), (2, .int (nI fi)), (0, .ref b), (1, .int (nI grp))]) hx hb dX7_succeeds_211 hl (by decide) rfl (fun ls hl => ?_)
          refine lv_iload hx hb dX7_succeeds_213 (lv_at hl 1 rfl) ?_
          exact ip_zret hx hb hr hlk dX7_succeeds_215 hS (show bI false = _ from congrArg bI (by unfold k_sg; rw [← hcc, ← hfi, ← hre, hsw]; exact (decide_eq_false (fun h9 => by first | omega | (have h8 := h9.2.2; simp_all; done))).symm)) (by unfold m_sg; rw [← hcc, ← hfi, ← hre, hsw]; rw [show m_sc g 4 fi re = g from if_neg (by first | omega | (intro h9; simp_all; done) | (intro h9; omega))]; exact hP)
        · refine lv_iconst (v := (nI 1)) hx hb dX7_succeeds_190 (by decide) ?_
          refine lv_goto (tgt := 195) hx hb dX7_succeeds_191 (by decide) ?_
          refine lv_istore (lv' := [(9, .int (nI 1)), (4, .int (nI fo)), (3, .int (nI re)), (2, .int (nI fi)), (0, .ref b), (1, .int (nI grp))]) hx hb dX7_succeeds_195 hl (by decide) rfl (fun ls hl => ?_)
          refine lv_iload hx hb dX7_succeeds_197 (lv_at hl 0 rfl) ?_
          refine lv_if_eq (tgt := 210) hx hb dX7_succeeds_199 (by decide) (fun h9 => False.elim (by revert h9; decide)) (fun _ => ?_)
          refine lv_aload_n hx hb dX7_succeeds_202 rfl (lv_at hl 4 rfl) ?_
          refine lv_iload_n hx hb dX7_succeeds_203 rfl (lv_at hl 3 rfl) ?_
          refine ip_V (C := RX7) (n := 1) (wl' := [(b, .inr (6, [o 0, .ref b1, o 2, o 3, o 4, o 5, o 6, o 7, o 8])), (b1, .inl (tc 0, 60, .inl ((fun k => nI ((m_bld g fi) k)))))]) ⟨hx, hb, hml, hown, hts⟩ hM hS hP hD (c7_builds l D tc zb b b1 o g fi hk (by omega)) gX7_succeeds_X7_builds rfl (by decide +kernel) ⟨Nat.le_of_ble_eq_true rfl, Nat.le_of_ble_eq_true rfl⟩ [0, 1] rfl rfl [(true, 0), (true, 1)] rfl rfl rfl (va_recv hM.1 hP (ci := 6) (q0 := 0) rfl rfl) rfl hl.1 rfl (Nat.le_of_ble_eq_true rfl) dX7_succeeds_204 ⟨Nat.le_refl _, Nat.le_refl _⟩ (fun H locs hP hD hS => ?_)
          refine W.eq (g2 := F0 m 207 ls [.int (nI (g 0 * k_lk (g 0)))]) rfl ?_
          refine lv_goto (tgt := 211) hx hb dX7_succeeds_207 (by decide) ?_
          refine lv_istore (lv' := [(10, .int (nI (g 0 * k_lk (g 0)))), (9, .int (nI 1)), (4, .int (nI fo)), (3, .int (nI re)), (2, .int (nI fi)), (0, .ref b), (1, .int (nI grp))]) hx hb dX7_succeeds_211 hl (by decide) rfl (fun ls hl => ?_)
          refine lv_iload hx hb dX7_succeeds_213 (lv_at hl 1 rfl) ?_
          exact ip_zret hx hb hr hlk dX7_succeeds_215 hS (show bI true = _ from congrArg bI (by unfold k_sg; rw [← hcc, ← hfi, ← hre, hsw]; exact (decide_eq_true (⟨by omega, by omega, by assumption⟩)).symm)) (by unfold m_sg; rw [← hcc, ← hfi, ← hre, hsw]; rw [show m_sc g 4 fi re = m_bld g fi from if_pos (by first | omega | exact ⟨by omega, by omega, by assumption⟩)]; exact hP)
  · refine ln_eq (x' := nI 5) (congrArg nI hsw) ?_
    refine lv_tableIn (off := 189) (tgt := 216) hx hb dX7_succeeds_27 (by decide) (by decide) (by decide) (by decide) ?_
    refine lv_iload_n hx hb dX7_succeeds_216 rfl (lv_at hl 1 rfl) ?_
    refine ln_if_ne (tgt := 245) hx hb dX7_succeeds_217 (by decide) (by omega) (fun h11 => ?_) (fun h11 => ?_)
    · refine lv_iconst (v := (nI 0)) hx hb dX7_succeeds_245 (by decide) ?_
      refine lv_istore (lv' := [(11, .int (nI 0)), (4, .int (nI fo)), (3, .int (nI re)), (2, .int (nI fi)), (0, .ref b), (1, .int (nI grp))]) hx hb dX7_succeeds_246 hl (by decide) rfl (fun ls hl => ?_)
      refine lv_iload hx hb dX7_succeeds_248 (lv_at hl 0 rfl) ?_
      refine lv_if_eq (tgt := 261) hx hb dX7_succeeds_250 (by decide) (fun _ => ?_) (fun h9 => False.elim (by revert h9; decide))
      refine lv_iconst (v := (nI 0)) hx hb dX7_succeeds_261 (by decide) ?_
      refine lv_istore (lv' := [(12, .int (nI 0)), (11, .int (nI 0)), (4, .int (nI fo)), (3, .int (nI re)), (2, .int (nI fi)), (0, .ref b), (1, .int (nI grp))]) hx hb dX7_succeeds_262 hl (by decide) rfl (fun ls hl => ?_)
      refine lv_iload hx hb dX7_succeeds_264 (lv_at hl 1 rfl) ?_
      exact ip_zret hx hb hr hlk dX7_succeeds_266 hS (show bI false = _ from congrArg bI (by unfold k_sg; rw [← hcc, ← hfi, ← hre, hsw]; exact (decide_eq_false (fun h9 => by first | omega | (have h8 := h9.2.2; simp_all; done))).symm)) (by unfold m_sg; rw [← hcc, ← hfi, ← hre, hsw]; rw [show m_sc g 5 fi re = g from if_neg (by first | omega | (intro h9; simp_all; done) | (intro h9; omega))]; exact hP)
    · refine lv_iload_n hx hb dX7_succeeds_220 rfl (lv_at hl 2 rfl) ?_
      refine ro_S (n := 1) ⟨hx, hb, hml, hown, hts⟩ hM hS hP (c7_isOrder_g l D tc zb fi (by omega)) gX7_succeeds_X7_isOrder rfl (by decide +kernel) ⟨Nat.le_of_ble_eq_true rfl, Nat.le_of_ble_eq_true rfl⟩ [] rfl rfl hl.1 rfl (Nat.le_of_ble_eq_true rfl) dX7_succeeds_221 ⟨Nat.le_refl _, Nat.le_refl _⟩ ?_
      refine ln_if_eqB (tgt := 245) hx hb dX7_succeeds_224 (by decide) (fun h12 => ?_) (fun h12 => ?_)
      · have h12 := of_decide_eq_false h12
        refine lv_iconst (v := (nI 0)) hx hb dX7_succeeds_245 (by decide) ?_
        refine lv_istore (lv' := [(11, .int (nI 0)), (4, .int (nI fo)), (3, .int (nI re)), (2, .int (nI fi)), (0, .ref b), (1, .int (nI grp))]) hx hb dX7_succeeds_246 hl (by decide) rfl (fun ls hl => ?_)
        refine lv_iload hx hb dX7_succeeds_248 (lv_at hl 0 rfl) ?_
        refine lv_if_eq (tgt := 261) hx hb dX7_succeeds_250 (by decide) (fun _ => ?_) (fun h9 => False.elim (by revert h9; decide))
        refine lv_iconst (v := (nI 0)) hx hb dX7_succeeds_261 (by decide) ?_
        refine lv_istore (lv' := [(12, .int (nI 0)), (11, .int (nI 0)), (4, .int (nI fo)), (3, .int (nI re)), (2, .int (nI fi)), (0, .ref b), (1, .int (nI grp))]) hx hb dX7_succeeds_262 hl (by decide) rfl (fun ls hl => ?_)
        refine lv_iload hx hb dX7_succeeds_264 (lv_at hl 1 rfl) ?_
        exact ip_zret hx hb hr hlk dX7_succeeds_266 hS (show bI false = _ from congrArg bI (by unfold k_sg; rw [← hcc, ← hfi, ← hre, hsw]; exact (decide_eq_false (fun h9 => by first | omega | (have h8 := h9.2.2; simp_all; done))).symm)) (by unfold m_sg; rw [← hcc, ← hfi, ← hre, hsw]; rw [show m_sc g 5 fi re = g from if_neg (by first | omega | (intro h9; simp_all; done) | (intro h9; omega))]; exact hP)
      · have h12 := of_decide_eq_true h12
        refine lv_aload_n hx hb dX7_succeeds_227 rfl (lv_at hl 3 rfl) ?_
        refine va_get (D := D) (ci := 6) (v := .ref b1) (C := RX7) (T := TX7) (N := 9) hx hb hts hinX7 hown hM.1 hP 0 rfl rfl 1 (by decide) (hts (.fieldLink RX7 7 "TripleWaysModel" "s" "[I") (by decide +kernel)) (fun _ h9 => h9) rfl dX7_succeeds_228 ?_
        refine lv_bipush (v := (nI 41)) hx hb dX7_succeeds_231 (by decide) ?_
        refine ln_iald hx hb hM.1 hP 1 0 rfl rfl dX7_succeeds_233 (by decide) (by omega) (rfl) ?_
        refine lv_iload_n hx hb dX7_succeeds_234 rfl (lv_at hl 2 rfl) ?_
        refine ro_S (n := 2) ⟨hx, hb, hml, hown, hts⟩ hM hS hP (c7_isIn l D tc zb (g 41) fi (by omega) (by omega)) gX7_succeeds_X7_isIn rfl (by decide +kernel) ⟨Nat.le_of_ble_eq_true rfl, Nat.le_of_ble_eq_true rfl⟩ [] rfl rfl hl.1 rfl (Nat.le_of_ble_eq_true rfl) dX7_succeeds_235 ⟨Nat.le_refl _, Nat.le_refl _⟩ ?_
        refine ln_if_eqB (tgt := 245) hx hb dX7_succeeds_238 (by decide) (fun h13 => ?_) (fun h13 => ?_)
        · refine lv_iconst (v := (nI 0)) hx hb dX7_succeeds_245 (by decide) ?_
          refine lv_istore (lv' := [(11, .int (nI 0)), (4, .int (nI fo)), (3, .int (nI re)), (2, .int (nI fi)), (0, .ref b), (1, .int (nI grp))]) hx hb dX7_succeeds_246 hl (by decide) rfl (fun ls hl => ?_)
          refine lv_iload hx hb dX7_succeeds_248 (lv_at hl 0 rfl) ?_
          refine lv_if_eq (tgt := 261) hx hb dX7_succeeds_250 (by decide) (fun _ => ?_) (fun h9 => False.elim (by revert h9; decide))
          refine lv_iconst (v := (nI 0)) hx hb dX7_succeeds_261 (by decide) ?_
          refine lv_istore (lv' := [(12, .int (nI 0)), (11, .int (nI 0)), (4, .int (nI fo)), (3, .int (nI re)), (2, .int (nI fi)), (0, .ref b), (1, .int (nI grp))]) hx hb dX7_succeeds_262 hl (by decide) rfl (fun ls hl => ?_)
          refine lv_iload hx hb dX7_succeeds_264 (lv_at hl 1 rfl) ?_
          exact ip_zret hx hb hr hlk dX7_succeeds_266 hS (show bI false = _ from congrArg bI (by unfold k_sg; rw [← hcc, ← hfi, ← hre, hsw]; exact (decide_eq_false (fun h9 => by first | omega | (have h8 := h9.2.2; simp_all; done))).symm)) (by unfold m_sg; rw [← hcc, ← hfi, ← hre, hsw]; rw [show m_sc g 5 fi re = g from if_neg (by first | omega | (intro h9; simp_all; done) | (intro h9; omega))]; exact hP)
        · refine lv_iconst (v := (nI 1)) hx hb dX7_succeeds_241 (by decide) ?_
          refine lv_goto (tgt := 246) hx hb dX7_succeeds_242 (by decide) ?_
          refine lv_istore (lv' := [(11, .int (nI 1)), (4, .int (nI fo)), (3, .int (nI re)), (2, .int (nI fi)), (0, .ref b), (1, .int (nI grp))]) hx hb dX7_succeeds_246 hl (by decide) rfl (fun ls hl => ?_)
          refine lv_iload hx hb dX7_succeeds_248 (lv_at hl 0 rfl) ?_
          refine lv_if_eq (tgt := 261) hx hb dX7_succeeds_250 (by decide) (fun h9 => False.elim (by revert h9; decide)) (fun _ => ?_)
          refine lv_aload_n hx hb dX7_succeeds_253 rfl (lv_at hl 4 rfl) ?_
          refine lv_iload_n hx hb dX7_succeeds_254 rfl (lv_at hl 3 rfl) ?_
          refine ip_V (C := RX7) (n := 1) (wl' := [(b, .inr (6, [o 0, .ref b1, o 2, o 3, o 4, o 5, o 6, o 7, o 8])), (b1, .inl (tc 0, 60, .inl ((fun k => nI ((m_drp g fi) k)))))]) ⟨hx, hb, hml, hown, hts⟩ hM hS hP hD (c7_drops l D tc zb b b1 o g fi hk (by omega)) gX7_succeeds_X7_drops rfl (by decide +kernel) ⟨Nat.le_of_ble_eq_true rfl, Nat.le_of_ble_eq_true rfl⟩ [0, 1] rfl rfl [(true, 0), (true, 1)] rfl rfl rfl (va_recv hM.1 hP (ci := 6) (q0 := 0) rfl rfl) rfl hl.1 rfl (Nat.le_of_ble_eq_true rfl) dX7_succeeds_255 ⟨Nat.le_refl _, Nat.le_refl _⟩ (fun H locs hP hD hS => ?_)
          refine W.eq (g2 := F0 m 258 ls [.int (nI (k_pc (g 41 &&& (63 ^^^ 2 ^ fi))))]) rfl ?_
          refine lv_goto (tgt := 262) hx hb dX7_succeeds_258 (by decide) ?_
          refine lv_istore (lv' := [(12, .int (nI (k_pc (g 41 &&& (63 ^^^ 2 ^ fi))))), (11, .int (nI 1)), (4, .int (nI fo)), (3, .int (nI re)), (2, .int (nI fi)), (0, .ref b), (1, .int (nI grp))]) hx hb dX7_succeeds_262 hl (by decide) rfl (fun ls hl => ?_)
          refine lv_iload hx hb dX7_succeeds_264 (lv_at hl 1 rfl) ?_
          exact ip_zret hx hb hr hlk dX7_succeeds_266 hS (show bI true = _ from congrArg bI (by unfold k_sg; rw [← hcc, ← hfi, ← hre, hsw]; exact (decide_eq_true (⟨by omega, by omega, by assumption⟩)).symm)) (by unfold m_sg; rw [← hcc, ← hfi, ← hre, hsw]; rw [show m_sc g 5 fi re = m_drp g fi from if_pos (by first | omega | exact ⟨by omega, by omega, by assumption⟩)]; exact hP)
  · refine ln_eq (x' := nI 6) (congrArg nI hsw) ?_
    refine lv_tableIn (off := 240) (tgt := 267) hx hb dX7_succeeds_27 (by decide) (by decide) (by decide) (by decide) ?_
    refine lv_iload hx hb dX7_succeeds_267 (lv_at hl 0 rfl) ?_
    refine ln_if_ne (tgt := 284) hx hb dX7_succeeds_269 (by decide) (by omega) (fun h14 => ?_) (fun h14 => ?_)
    · refine lv_iconst (v := (nI 0)) hx hb dX7_succeeds_284 (by decide) ?_
      exact ip_zret hx hb hr hlk dX7_succeeds_285 hS (show bI false = _ from congrArg bI (by unfold k_sg; rw [← hcc, ← hfi, ← hre, hsw]; exact (decide_eq_false (fun h9 => by first | omega | exact h9.2 ho273)).symm)) (by unfold m_sg; rw [← hcc, ← hfi, ← hre, hsw]; rw [show m_sc g 6 fi re = g from if_neg (by first | omega | (intro h9; simp_all; done) | (intro h9; omega))]; exact hP)
    · refine lv_aload_n hx hb dX7_succeeds_272 rfl (lv_at hl 3 rfl) ?_
      refine ip_V (C := RX7) (n := 0) (wl' := [(b, .inr (6, [o 0, .ref b1, o 2, o 3, o 4, o 5, o 6, o 7, o 8])), (b1, .inl (tc 0, 60, .inl ((fun k => nI ((m_tdy g) k)))))]) ⟨hx, hb, hml, hown, hts⟩ hM hS hP hD (c7_tidies l D tc zb b b1 o g hk) gX7_succeeds_X7_tidies rfl (by decide +kernel) ⟨Nat.le_of_ble_eq_true rfl, Nat.le_of_ble_eq_true rfl⟩ [0, 1] rfl rfl [(true, 0), (true, 1)] rfl rfl rfl (va_recv hM.1 hP (ci := 6) (q0 := 0) rfl rfl) rfl hl.1 rfl (Nat.le_of_ble_eq_true rfl) dX7_succeeds_273 ⟨Nat.le_refl _, Nat.le_refl _⟩ (fun H locs hP hD hS => ?_)
      refine W.eq (g2 := F0 m 276 ls [.int (oI (k_tv g))]) rfl ?_
      cases ho273 : k_tv g with
      | none =>
        refine ln_eq (x' := -1) rfl ?_
        refine lv_iconst (v := (-1)) hx hb dX7_succeeds_276 (by decide) ?_
        refine lv_icmp_eq (tgt := 284) hx hb dX7_succeeds_277 (by decide) (fun _ => ?_) (fun h9 => False.elim (by revert h9; decide))
        refine lv_iconst (v := (nI 0)) hx hb dX7_succeeds_284 (by decide) ?_
        exact ip_zret hx hb hr hlk dX7_succeeds_285 hS (show bI false = _ from congrArg bI (by unfold k_sg; rw [← hcc, ← hfi, ← hre, hsw]; exact (decide_eq_false (fun h9 => by first | omega | exact h9.2 ho273)).symm)) (by unfold m_sg; rw [← hcc, ← hfi, ← hre, hsw]; rw [show m_sc g 6 fi re = m_tdy g from if_pos (by first | omega | exact ⟨by omega, by omega, by assumption⟩)]; exact hP)
      | some r273 =>
        refine ln_eq (x' := nI r273) rfl ?_
        have hr9 : r273 < 2 ^ 31 := k_tv_lt ho273
        refine lv_iconst (v := (-1)) hx hb dX7_succeeds_276 (by decide) ?_
        refine ln_eq_m1 (tgt := 284) hx hb dX7_succeeds_277 (by decide) (by omega) ?_
        refine lv_iconst (v := (nI 1)) hx hb dX7_succeeds_280 (by decide) ?_
        refine lv_goto (tgt := 285) hx hb dX7_succeeds_281 (by decide) ?_
        exact ip_zret hx hb hr hlk dX7_succeeds_285 hS (show bI true = _ from congrArg bI (by unfold k_sg; rw [← hcc, ← hfi, ← hre, hsw]; exact (decide_eq_true (⟨by omega, by rw [ho273]; exact fun h => by cases h⟩)).symm)) (by unfold m_sg; rw [← hcc, ← hfi, ← hre, hsw]; rw [show m_sc g 6 fi re = m_tdy g from if_pos (by first | omega | exact ⟨by omega, by omega, by assumption⟩)]; exact hP)
  · refine ln_eq (x' := nI 7) (congrArg nI hsw) ?_
    refine lv_tableIn (off := 259) (tgt := 286) hx hb dX7_succeeds_27 (by decide) (by decide) (by decide) (by decide) ?_
    refine lv_iload hx hb dX7_succeeds_286 (lv_at hl 0 rfl) ?_
    refine lv_bipush (v := (nI 100)) hx hb dX7_succeeds_288 (by decide) ?_
    refine ln_icmp_ge (tgt := 308) hx hb dX7_succeeds_290 (by decide) (by omega) (by decide) (fun h15 => ?_) (fun h15 => ?_)
    · refine lv_iconst (v := (nI 0)) hx hb dX7_succeeds_308 (by decide) ?_
      exact ip_zret hx hb hr hlk dX7_succeeds_309 hS (show bI false = _ from congrArg bI (by unfold k_sg; rw [← hcc, ← hfi, ← hre, hsw]; exact (decide_eq_false (fun h9 => by omega)).symm)) (by unfold m_sg; rw [← hcc, ← hfi, ← hre, hsw]; exact hP)
    · refine lv_aload_n hx hb dX7_succeeds_293 rfl (lv_at hl 3 rfl) ?_
      refine va_get (D := D) (ci := 6) (v := .ref b1) (C := RX7) (T := TX7) (N := 9) hx hb hts hinX7 hown hM.1 hP 0 rfl rfl 1 (by decide) (hts (.fieldLink RX7 7 "TripleWaysModel" "s" "[I") (by decide +kernel)) (fun _ h9 => h9) rfl dX7_succeeds_294 ?_
      refine lv_iconst (v := (nI 0)) hx hb dX7_succeeds_297 (by decide) ?_
      refine ln_iald hx hb hM.1 hP 1 0 rfl rfl dX7_succeeds_298 (by decide) (by omega) (rfl) ?_
      refine lv_iload hx hb dX7_succeeds_299 (lv_at hl 0 rfl) ?_
      refine ln_icmp_lt (tgt := 308) hx hb dX7_succeeds_301 (by decide) (by omega) (by omega) (fun h16 => ?_) (fun h16 => ?_)
      · refine lv_iconst (v := (nI 0)) hx hb dX7_succeeds_308 (by decide) ?_
        exact ip_zret hx hb hr hlk dX7_succeeds_309 hS (show bI false = _ from congrArg bI (by unfold k_sg; rw [← hcc, ← hfi, ← hre, hsw]; exact (decide_eq_false (fun h9 => by omega)).symm)) (by unfold m_sg; rw [← hcc, ← hfi, ← hre, hsw]; exact hP)
      · refine lv_iconst (v := (nI 1)) hx hb dX7_succeeds_304 (by decide) ?_
        refine lv_goto (tgt := 309) hx hb dX7_succeeds_305 (by decide) ?_
        exact ip_zret hx hb hr hlk dX7_succeeds_309 hS (show bI true = _ from congrArg bI (by unfold k_sg; rw [← hcc, ← hfi, ← hre, hsw]; exact (decide_eq_true (⟨by omega, by omega⟩)).symm)) (by unfold m_sg; rw [← hcc, ← hfi, ← hre, hsw]; exact hP)
  · refine ln_eq (x' := nI 8) (congrArg nI hsw) ?_
    refine lv_tableIn (off := 283) (tgt := 310) hx hb dX7_succeeds_27 (by decide) (by decide) (by decide) (by decide) ?_
    refine lv_iload hx hb dX7_succeeds_310 (lv_at hl 0 rfl) ?_
    refine ro_S (n := 1) ⟨hx, hb, hml, hown, hts⟩ hM hS hP (c7_isQuestion_g l D tc zb fo (by omega)) gX7_succeeds_X7_isQuestion rfl (by decide +kernel) ⟨Nat.le_of_ble_eq_true rfl, Nat.le_of_ble_eq_true rfl⟩ [] rfl rfl hl.1 rfl (Nat.le_of_ble_eq_true rfl) dX7_succeeds_312 ⟨Nat.le_refl _, Nat.le_refl _⟩ ?_
    refine ln_if_eqB (tgt := 344) hx hb dX7_succeeds_315 (by decide) (fun h17 => ?_) (fun h17 => ?_)
    · have h17 := of_decide_eq_false h17
      refine lv_iconst (v := (nI 0)) hx hb dX7_succeeds_344 (by decide) ?_
      exact ip_zret hx hb hr hlk dX7_succeeds_345 hS (show bI false = _ from congrArg bI (by unfold k_sg; rw [← hcc, ← hfi, ← hre, hsw]; exact (decide_eq_false (fun h9 => by rw [← hf4] at h9; omega)).symm)) (by unfold m_sg; rw [← hcc, ← hfi, ← hre, hsw]; exact hP)
    · have h17 := of_decide_eq_true h17
      refine lv_aload_n hx hb dX7_succeeds_318 rfl (lv_at hl 3 rfl) ?_
      refine lv_iload hx hb dX7_succeeds_319 (lv_at hl 0 rfl) ?_
      refine lv_aload_n hx hb dX7_succeeds_321 rfl (lv_at hl 3 rfl) ?_
      refine va_get (D := D) (ci := 6) (v := .ref b1) (C := RX7) (T := TX7) (N := 9) hx hb hts hinX7 hown hM.1 hP 0 rfl rfl 1 (by decide) (hts (.fieldLink RX7 7 "TripleWaysModel" "s" "[I") (by decide +kernel)) (fun _ h9 => h9) rfl dX7_succeeds_322 ?_
      refine lv_bipush (v := (nI 41)) hx hb dX7_succeeds_325 (by decide) ?_
      refine ln_iald hx hb hM.1 hP 1 0 rfl rfl dX7_succeeds_327 (by decide) (by omega) (rfl) ?_
      refine ro_V (C := RX7) (n := 2) ⟨hx, hb, hml, hown, hts⟩ hM hS hP (c7_costOf l D tc zb b b1 o g fo (g 41) hk (by first | omega | exact ok5 _ (by omega)) (by omega)) gX7_succeeds_X7_costOf rfl (by decide +kernel) ⟨Nat.le_of_ble_eq_true rfl, Nat.le_of_ble_eq_true rfl⟩ [0, 1] rfl (va_recv hM.1 hP (ci := 6) (q0 := 0) rfl rfl) rfl hl.1 rfl (Nat.le_of_ble_eq_true rfl) dX7_succeeds_328 ⟨Nat.le_refl _, Nat.le_refl _⟩ ?_
      have hf18 := k_mn_le g fo (g 41) 6
      refine lv_aload_n hx hb dX7_succeeds_331 rfl (lv_at hl 3 rfl) ?_
      refine va_get (D := D) (ci := 6) (v := .ref b1) (C := RX7) (T := TX7) (N := 9) hx hb hts hinX7 hown hM.1 hP 0 rfl rfl 1 (by decide) (hts (.fieldLink RX7 7 "TripleWaysModel" "s" "[I") (by decide +kernel)) (fun _ h9 => h9) rfl dX7_succeeds_332 ?_
      refine lv_iconst (v := (nI 0)) hx hb dX7_succeeds_335 (by decide) ?_
      refine ln_iald hx hb hM.1 hP 1 0 rfl rfl dX7_succeeds_336 (by decide) (by omega) (rfl) ?_
      refine ln_icmp_ge (tgt := 344) hx hb dX7_succeeds_337 (by decide) (by omega) (by omega) (fun h19 => ?_) (fun h19 => ?_)
      · refine lv_iconst (v := (nI 0)) hx hb dX7_succeeds_344 (by decide) ?_
        exact ip_zret hx hb hr hlk dX7_succeeds_345 hS (show bI false = _ from congrArg bI (by unfold k_sg; rw [← hcc, ← hfi, ← hre, hsw]; exact (decide_eq_false (fun h9 => by rw [← hf4] at h9; omega)).symm)) (by unfold m_sg; rw [← hcc, ← hfi, ← hre, hsw]; exact hP)
      · refine lv_iconst (v := (nI 1)) hx hb dX7_succeeds_340 (by decide) ?_
        refine lv_goto (tgt := 345) hx hb dX7_succeeds_341 (by decide) ?_
        exact ip_zret hx hb hr hlk dX7_succeeds_345 hS (show bI true = _ from congrArg bI (by unfold k_sg; rw [← hcc, ← hfi, ← hre, hsw]; exact (decide_eq_true (⟨by omega, by rw [← hf4]; omega⟩)).symm)) (by unfold m_sg; rw [← hcc, ← hfi, ← hre, hsw]; exact hP)
  · refine ln_eq (x' := nI 9) (congrArg nI hsw) ?_
    refine lv_tableIn (off := 319) (tgt := 346) hx hb dX7_succeeds_27 (by decide) (by decide) (by decide) (by decide) ?_
    refine lv_iload_n hx hb dX7_succeeds_346 rfl (lv_at hl 2 rfl) ?_
    refine ln_if_ne (tgt := 365) hx hb dX7_succeeds_347 (by decide) (by omega) (fun h20 => ?_) (fun h20 => ?_)
    · refine lv_iconst (v := (nI 0)) hx hb dX7_succeeds_365 (by decide) ?_
      exact ip_zret hx hb hr hlk dX7_succeeds_366 hS (show bI false = _ from congrArg bI (by unfold k_sg; rw [← hcc, ← hfi, ← hre, hsw]; exact (decide_eq_false (fun h9 => by first | omega | exact h9.2 (by assumption))).symm)) (by unfold m_sg; rw [← hcc, ← hfi, ← hre, hsw]; exact hP)
    · refine lv_aload_n hx hb dX7_succeeds_350 rfl (lv_at hl 3 rfl) ?_
      refine va_get (D := D) (ci := 6) (v := .ref b1) (C := RX7) (T := TX7) (N := 9) hx hb hts hinX7 hown hM.1 hP 0 rfl rfl 1 (by decide) (hts (.fieldLink RX7 7 "TripleWaysModel" "s" "[I") (by decide +kernel)) (fun _ h9 => h9) rfl dX7_succeeds_351 ?_
      refine lv_bipush (v := (nI 44)) hx hb dX7_succeeds_354 (by decide) ?_
      refine ln_iald hx hb hM.1 hP 1 0 rfl rfl dX7_succeeds_356 (by decide) (by omega) (rfl) ?_
      refine lv_iload_n hx hb dX7_succeeds_357 rfl (lv_at hl 1 rfl) ?_
      refine lv_icmp_gt (tgt := 365) hx hb dX7_succeeds_358 (by decide) (fun h21 => ?_) (fun h21 => ?_)
      · refine lv_iconst (v := (nI 0)) hx hb dX7_succeeds_365 (by decide) ?_
        exact ip_zret hx hb hr hlk dX7_succeeds_366 hS (show bI false = _ from congrArg bI (by unfold k_sg; rw [← hcc, ← hfi, ← hre, hsw]; exact (decide_eq_false (fun h9 => by first | omega | exact h9.2 (by assumption))).symm)) (by unfold m_sg; rw [← hcc, ← hfi, ← hre, hsw]; exact hP)
      · refine lv_iconst (v := (nI 1)) hx hb dX7_succeeds_361 (by decide) ?_
        refine lv_goto (tgt := 366) hx hb dX7_succeeds_362 (by decide) ?_
        exact ip_zret hx hb hr hlk dX7_succeeds_366 hS (show bI true = _ from congrArg bI (by unfold k_sg; rw [← hcc, ← hfi, ← hre, hsw]; exact (decide_eq_true (⟨by omega, by first | assumption | exact Int32.not_lt.mpr (by assumption)⟩)).symm)) (by unfold m_sg; rw [← hcc, ← hfi, ← hre, hsw]; exact hP)
set_option maxHeartbeats 4000000 in
set_option maxRecDepth 100000 in
theorem c7_runScript_ok (l : Launch) (D : va_G) (tc : Nat → ClassId) (zb : Nat) (b b1 b2 b3 b4 b5 b6 : Nat) (th : Int32) (g ga sv : Nat → Nat) (n : Nat) (sl : Nat → Nat) (iz : Nat → Bool) (u : Nat → Nat) (ln : Nat) (n9 sc : Nat) (hk : k_ok g) (hn : n ≤ 14) (hln : ln ≤ 100) (hu : ∀ k, u k < 256) (hn9 : 1 ≤ n9 ∧ n9 ≤ 3) (hsc : sc ≤ (if n9 = 1 then 99999 else if n9 = 2 then 9999999999 else 999999999999999)) : IP l yX7_runScript wsX7_runScript 12 286 D tc zb (w_md tc b b1 b2 b3 b4 b5 b6 th g ga sv n sl iz u ln) (w_md tc b b1 b2 b3 b4 b5 b6 (nI 0) ((k_bk g ga (m_rn g (k_grs n9 sc)))) ((k_win g ga 0 0 60)) sv n sl iz u ln) [.ref b, .int (nI n9), .long (lN sc)] (some (.int (oI (k_rn g (k_grs n9 sc) 0)))) := by
  refine IP.of (cc := cX7_runScript) (maxL := 11) (ret := (some .int)) (by decide) rfl (Nat.le_of_ble_eq_true rfl) ?_
  intro p e s m args below meth c A hx hb hr hml hlk hts hown hM hS hP hD ls hl
  have hl : lv_has ls 11 [(0, .ref b), (1, .int (nI n9)), (2, .long (lN sc))] := hl
  obtain ⟨ok0, ok1, ok2, ok3, ok4, ok5, ok6⟩ := id hk
  rcases (show n9 = 1 ∨ n9 = 2 ∨ n9 = 3 by omega) with rfl | rfl | rfl
  · refine lv_iload_n hx hb dX7_runScript_0 rfl (lv_at hl 1 rfl) ?_
    refine lv_iconst (v := (nI 1)) hx hb dX7_runScript_1 (by decide) ?_
    refine lv_icmp_ne (tgt := 11) hx hb dX7_runScript_2 (by decide) (fun h9 => False.elim (by revert h9; decide)) (fun _ => ?_)
    refine lv_ldc2 (v := (99999 : Int64)) hx hb hown (hts (.constantLong RX7 189 (99999)) (by decide +kernel)) dX7_runScript_5 ?_
    refine lv_goto (tgt := 25) hx hb dX7_runScript_8 (by decide) ?_
    refine lv_lstore (lv' := [(4, .long (99999)), (0, .ref b), (1, .int (nI 1)), (2, .long (lN sc))]) hx hb dX7_runScript_25 hl (by decide) rfl (fun ls hl => ?_)
    simp at hsc
    have hsc2 : sc < 2 ^ 62 := by omega
    refine lv_aload_n hx hb dX7_runScript_27 rfl (lv_at hl 1 rfl) ?_
    refine lv_iload_n hx hb dX7_runScript_28 rfl (lv_at hl 2 rfl) ?_
    refine lv_i2l (v := ((nI 1)).toInt64) hx hb dX7_runScript_29 rfl ?_
    refine lv_lconst (v := (1 : Int64)) hx hb dX7_runScript_30 rfl ?_
    refine lv_ldc2 (v := (3 : Int64)) hx hb hown (hts (.constantLong RX7 195 (3)) (by decide +kernel)) dX7_runScript_31 ?_
    refine ro_S (n := 3) ⟨hx, hb, hml, hown, hts⟩ hM hS hP (c7_in_ok l D tc zb 1 1 3 (by omega) (by decide)) gX7_runScript_X7_in rfl (by decide +kernel) ⟨Nat.le_of_ble_eq_true rfl, Nat.le_of_ble_eq_true rfl⟩ [] rfl rfl hl.1 rfl (Nat.le_of_ble_eq_true rfl) dX7_runScript_34 ⟨Nat.le_refl _, Nat.le_refl _⟩ ?_
    refine lv_if_eq (tgt := 54) hx hb dX7_runScript_37 (by decide) (fun h9 => False.elim (by revert h9; decide)) (fun _ => ?_)
    refine lv_lload_n hx hb dX7_runScript_40 rfl (lv_at hl 3 rfl) ?_
    refine lv_lconst (v := (0 : Int64)) hx hb dX7_runScript_41 rfl ?_
    refine lv_lload hx hb dX7_runScript_42 (lv_at hl 0 rfl) ?_
    refine ro_S (n := 3) ⟨hx, hb, hml, hown, hts⟩ hM hS hP (c7_in_big l D tc zb sc 0 99999 (by omega) (by decide)) gX7_runScript_X7_in rfl (by decide +kernel) ⟨Nat.le_of_ble_eq_true rfl, Nat.le_of_ble_eq_true rfl⟩ [] rfl rfl hl.1 rfl (Nat.le_of_ble_eq_true rfl) dX7_runScript_44 ⟨Nat.le_refl _, Nat.le_refl _⟩ ?_
    refine lv_if_eq (tgt := 54) hx hb dX7_runScript_47 (by decide) (fun h9 => False.elim (by revert h9; decide)) (fun _ => ?_)
    refine lv_iconst (v := (nI 0)) hx hb dX7_runScript_50 (by decide) ?_
    refine lv_goto (tgt := 55) hx hb dX7_runScript_51 (by decide) ?_
    refine ip_V (C := RX7) (n := 1) (wl' := [(b, .inr (6, [.int (nI 0), .ref b1, .ref b2, .ref b3, .int (nI n), .ref b4, .ref b5, .ref b6, .int (nI ln)])), (b1, .inl (tc 0, 60, .inl ((fun k => nI (g k))))), (b2, .inl (tc 0, 60, .inl ((fun k => nI (ga k))))), (b3, .inl (tc 0, 840, .inl ((fun k => nI (sv k))))), (b4, .inl (tc 0, 120, .inl ((fun k => nI (sl k))))), (b5, .inl (tc 3, 2, .inl ((fun k => bI (iz k))))), (b6, .inl (tc 2, 100, .inl ((fun k => byI (u k)))))]) ⟨hx, hb, hml, hown, hts⟩ hM hS hP hD (c7_holds0 l D tc zb b th (fun k9 => match k9 with | 1 => .ref b1 | 2 => .ref b2 | 3 => .ref b3 | 4 => .int (nI n) | 5 => .ref b4 | 6 => .ref b5 | 7 => .ref b6 | 8 => .int (nI ln) | _ => .null)) gX7_runScript_X7_holds rfl (by decide +kernel) ⟨Nat.le_of_ble_eq_true rfl, Nat.le_of_ble_eq_true rfl⟩ [0] rfl rfl [(true, 0), (false, 1), (false, 2), (false, 3), (false, 4), (false, 5), (false, 6)] rfl rfl rfl (va_recv hM.1 hP (ci := 6) (q0 := 0) rfl rfl) rfl hl.1 rfl (Nat.le_of_ble_eq_true rfl) dX7_runScript_55 ⟨Nat.le_refl _, Nat.le_refl _⟩ (fun H locs hP hD hS => ?_)
    refine W.eq (g2 := F0 m 58 ls [.int (bI (true))]) rfl ?_
    refine lv_if_ne (tgt := 63) hx hb dX7_runScript_58 (by decide) (fun _ => ?_) (fun h9 => False.elim (by revert h9; decide))
    refine lv_aload_n hx hb dX7_runScript_63 rfl (lv_at hl 1 rfl) ?_
    refine ip_V (C := RX7) (n := 0) (wl' := [(b, .inr (6, [.int (nI 0), .ref b1, .ref b2, .ref b3, .int (nI n), .ref b4, .ref b5, .ref b6, .int (nI ln)])), (b1, .inl (tc 0, 60, .inl ((fun k => nI (g k))))), (b2, .inl (tc 0, 60, .inl ((fun k => nI ((k_win g ga 0 0 60) k))))), (b3, .inl (tc 0, 840, .inl ((fun k => nI (sv k))))), (b4, .inl (tc 0, 120, .inl ((fun k => nI (sl k))))), (b5, .inl (tc 3, 2, .inl ((fun k => bI (iz k))))), (b6, .inl (tc 2, 100, .inl ((fun k => byI (u k)))))]) ⟨hx, hb, hml, hown, hts⟩ hM hS hP hD (c7_putAside l D tc zb b b1 b2 (fun k9 => match k9 with | 0 => .int (nI 0) | 3 => .ref b3 | 4 => .int (nI n) | 5 => .ref b4 | 6 => .ref b5 | 7 => .ref b6 | 8 => .int (nI ln) | _ => .null) g ga) gX7_runScript_X7_putAside rfl (by decide +kernel) ⟨Nat.le_of_ble_eq_true rfl, Nat.le_of_ble_eq_true rfl⟩ [0, 1, 2] rfl rfl [(true, 0), (true, 1), (true, 2), (false, 3), (false, 4), (false, 5), (false, 6)] rfl rfl rfl (va_recv hM.1 hP (ci := 6) (q0 := 0) rfl rfl) rfl hl.1 rfl (Nat.le_of_ble_eq_true rfl) dX7_runScript_64 ⟨Nat.le_refl _, Nat.le_refl _⟩ (fun H locs hP hD hS => ?_)
    refine W.eq (g2 := F0 m 67 ls []) rfl ?_
    refine lv_iconst (v := (-1)) hx hb dX7_runScript_67 (by decide) ?_
    refine lv_istore (lv' := [(6, .int (-1)), (4, .long (99999)), (0, .ref b), (1, .int (nI 1)), (2, .long (lN sc))]) hx hb dX7_runScript_68 hl (by decide) rfl (fun ls hl => ?_)
    refine lv_iconst (v := (nI 0)) hx hb dX7_runScript_70 (by decide) ?_
    refine lv_istore (lv' := [(7, .int (nI 0)), (6, .int (-1)), (4, .long (99999)), (0, .ref b), (1, .int (nI 1)), (2, .long (lN sc))]) hx hb dX7_runScript_71 hl (by decide) rfl (fun ls hl => ?_)
    refine lv_iload hx hb dX7_runScript_73 (lv_at hl 0 rfl) ?_
    refine lv_iload_n hx hb dX7_runScript_75 rfl (lv_at hl 4 rfl) ?_
    refine lv_icmp_ge (tgt := 142) hx hb dX7_runScript_76 (by decide) (fun h9 => False.elim (by revert h9; decide)) (fun _ => ?_)
    refine lv_iload hx hb dX7_runScript_79 (lv_at hl 1 rfl) ?_
    refine lv_iconst (v := (-1)) hx hb dX7_runScript_81 (by decide) ?_
    refine lv_icmp_ne (tgt := 142) hx hb dX7_runScript_82 (by decide) (fun h9 => False.elim (by revert h9; decide)) (fun _ => ?_)
    refine lv_lload_n hx hb dX7_runScript_85 rfl (lv_at hl 5 rfl) ?_
    refine lv_lstore (lv' := [(8, .long (lN sc)), (7, .int (nI 0)), (6, .int (-1)), (4, .long (99999)), (0, .ref b), (1, .int (nI 1)), (2, .long (lN sc))]) hx hb dX7_runScript_86 hl (by decide) rfl (fun ls hl => ?_)
    refine lv_iload hx hb dX7_runScript_88 (lv_at hl 1 rfl) ?_
    refine lv_iconst (v := (nI 1)) hx hb dX7_runScript_90 (by decide) ?_
    refine lv_iadd hx hb dX7_runScript_91 ?_
    refine ln_eq (x' := (nI 1)) (by decide) ?_
    refine lv_istore (lv' := [(10, .int (nI 1)), (8, .long (lN sc)), (7, .int (nI 0)), (6, .int (-1)), (4, .long (99999)), (0, .ref b), (1, .int (nI 1)), (2, .long (lN sc))]) hx hb dX7_runScript_92 hl (by decide) rfl (fun ls hl => ?_)
    refine lv_iload hx hb dX7_runScript_94 (lv_at hl 0 rfl) ?_
    refine lv_iload_n hx hb dX7_runScript_96 rfl (lv_at hl 6 rfl) ?_
    refine lv_icmp_ge (tgt := 114) hx hb dX7_runScript_97 (by decide) (fun _ => ?_) (fun h9 => False.elim (by revert h9; decide))
    refine lv_aload_n hx hb dX7_runScript_114 rfl (lv_at hl 5 rfl) ?_
    refine lv_lload hx hb dX7_runScript_115 (lv_at hl 1 rfl) ?_
    refine lv_ldc2 (v := (100000 : Int64)) hx hb hown (hts (.constantLong RX7 200 (100000)) (by decide +kernel)) dX7_runScript_117 ?_
    refine ln_lrem (x := sc) (y := 100000) hx hb dX7_runScript_120 (by omega) (by decide) (by decide) ?_
    refine lv_l2i (v := nI (sc % 100000)) hx hb dX7_runScript_121 (lN_i _) ?_
    refine ip_V (C := RX7) (n := 1) (wl' := [(b, .inr (6, [.int (nI 0), .ref b1, .ref b2, .ref b3, .int (nI n), .ref b4, .ref b5, .ref b6, .int (nI ln)])), (b1, .inl (tc 0, 60, .inl ((fun k => nI ((m_sg g (sc % 100000)) k))))), (b2, .inl (tc 0, 60, .inl ((fun k => nI ((k_win g ga 0 0 60) k))))), (b3, .inl (tc 0, 840, .inl ((fun k => nI (sv k))))), (b4, .inl (tc 0, 120, .inl ((fun k => nI (sl k))))), (b5, .inl (tc 3, 2, .inl ((fun k => bI (iz k))))), (b6, .inl (tc 2, 100, .inl ((fun k => byI (u k)))))]) ⟨hx, hb, hml, hown, hts⟩ hM hS hP hD (c7_succeeds l D tc zb b b1 (fun k9 => match k9 with | 0 => .int (nI 0) | 2 => .ref b2 | 3 => .ref b3 | 4 => .int (nI n) | 5 => .ref b4 | 6 => .ref b5 | 7 => .ref b6 | 8 => .int (nI ln) | _ => .null) g (sc % 100000) hk (by omega)) gX7_runScript_X7_succeeds rfl (by decide +kernel) ⟨Nat.le_of_ble_eq_true rfl, Nat.le_of_ble_eq_true rfl⟩ [0, 1] rfl rfl [(true, 0), (true, 1), (false, 2), (false, 3), (false, 4), (false, 5), (false, 6)] rfl rfl rfl (va_recv hM.1 hP (ci := 6) (q0 := 0) rfl rfl) rfl hl.1 rfl (Nat.le_of_ble_eq_true rfl) dX7_runScript_122 ⟨Nat.le_refl _, Nat.le_refl _⟩ (fun H locs hP hD hS => ?_)
    refine W.eq (g2 := F0 m 125 ls [.int (bI (k_sg g (sc % 100000)))]) rfl ?_
    refine ln_if_eqB (tgt := 132) hx hb dX7_runScript_125 (by decide) (fun h1 => ?_) (fun h1 => ?_)
    · refine lv_iload hx hb dX7_runScript_132 (lv_at hl 2 rfl) ?_
      refine lv_istore (lv' := [(6, .int (nI 0)), (10, .int (nI 1)), (8, .long (lN sc)), (7, .int (nI 0)), (4, .long (99999)), (0, .ref b), (1, .int (nI 1)), (2, .long (lN sc))]) hx hb dX7_runScript_134 hl (by decide) rfl (fun ls hl => ?_)
      refine lv_iinc (v := (nI 1)) (lv' := [(7, .int (nI 1)), (6, .int (nI 0)), (10, .int (nI 1)), (8, .long (lN sc)), (4, .long (99999)), (0, .ref b), (1, .int (nI 1)), (2, .long (lN sc))]) hx hb dX7_runScript_136 hl (k := 3) rfl (by decide) (by decide) rfl (fun ls hl => ?_)
      refine lv_goto (tgt := 73) hx hb dX7_runScript_139 (by decide) ?_
      refine lv_iload hx hb dX7_runScript_73 (lv_at hl 0 rfl) ?_
      refine lv_iload_n hx hb dX7_runScript_75 rfl (lv_at hl 6 rfl) ?_
      refine lv_icmp_ge (tgt := 142) hx hb dX7_runScript_76 (by decide) (fun _ => ?_) (fun h9 => False.elim (by revert h9; decide))
      have hP : va_P D vwCl [(b, .inr (6, [.int (nI 0), .ref b1, .ref b2, .ref b3, .int (nI n), .ref b4, .ref b5, .ref b6, .int (nI ln)])), (b1, .inl (tc 0, 60, .inl ((fun k => nI (((m_rn g (k_grs 1 sc))) k))))), (b2, .inl (tc 0, 60, .inl ((fun k => nI (((k_win g ga 0 0 60)) k))))), (b3, .inl (tc 0, 840, .inl ((fun k => nI (sv k))))), (b4, .inl (tc 0, 120, .inl ((fun k => nI (sl k))))), (b5, .inl (tc 3, 2, .inl ((fun k => bI (iz k))))), (b6, .inl (tc 2, 100, .inl ((fun k => byI (u k)))))] H := (by (have er : m_rn g (k_grs 1 sc) = (m_sg g (sc % 100000)) := by simp [m_rn, k_grs, h1]); rw [er]; exact hP)
      have hD : va_D A [(b, .inr (6, [.int (nI 0), .ref b1, .ref b2, .ref b3, .int (nI n), .ref b4, .ref b5, .ref b6, .int (nI ln)])), (b1, .inl (tc 0, 60, .inl ((fun k => nI (((m_rn g (k_grs 1 sc))) k))))), (b2, .inl (tc 0, 60, .inl ((fun k => nI (((k_win g ga 0 0 60)) k))))), (b3, .inl (tc 0, 840, .inl ((fun k => nI (sv k))))), (b4, .inl (tc 0, 120, .inl ((fun k => nI (sl k))))), (b5, .inl (tc 3, 2, .inl ((fun k => bI (iz k))))), (b6, .inl (tc 2, 100, .inl ((fun k => byI (u k)))))] := va_D_addr hD rfl
      refine lv_aload_n hx hb dX7_runScript_142 rfl (lv_at hl 5 rfl) ?_
      refine ip_V (C := RX7) (n := 0) (wl' := [(b, .inr (6, [.int (nI 0), .ref b1, .ref b2, .ref b3, .int (nI n), .ref b4, .ref b5, .ref b6, .int (nI ln)])), (b1, .inl (tc 0, 60, .inl ((fun k => nI ((k_win (((k_win g ga 0 0 60))) (((m_rn g (k_grs 1 sc)))) 0 0 60) k))))), (b2, .inl (tc 0, 60, .inl ((fun k => nI ((((k_win g ga 0 0 60))) k))))), (b3, .inl (tc 0, 840, .inl ((fun k => nI (sv k))))), (b4, .inl (tc 0, 120, .inl ((fun k => nI (sl k))))), (b5, .inl (tc 3, 2, .inl ((fun k => bI (iz k))))), (b6, .inl (tc 2, 100, .inl ((fun k => byI (u k)))))]) ⟨hx, hb, hml, hown, hts⟩ hM hS hP hD (c7_putBack l D tc zb b b1 b2 (fun k9 => match k9 with | 0 => .int (nI 0) | 3 => .ref b3 | 4 => .int (nI n) | 5 => .ref b4 | 6 => .ref b5 | 7 => .ref b6 | 8 => .int (nI ln) | _ => .null) (((m_rn g (k_grs 1 sc)))) (((k_win g ga 0 0 60)))) gX7_runScript_X7_putBack rfl (by decide +kernel) ⟨Nat.le_of_ble_eq_true rfl, Nat.le_of_ble_eq_true rfl⟩ [0, 1, 2] rfl rfl [(true, 0), (true, 1), (true, 2), (false, 3), (false, 4), (false, 5), (false, 6)] rfl rfl rfl (va_recv hM.1 hP (ci := 6) (q0 := 0) rfl rfl) rfl hl.1 rfl (Nat.le_of_ble_eq_true rfl) dX7_runScript_143 ⟨Nat.le_refl _, Nat.le_refl _⟩ (fun H locs hP hD hS => ?_)
      refine W.eq (g2 := F0 m 146 ls []) rfl ?_
      refine lv_iload hx hb dX7_runScript_146 (lv_at hl 1 rfl) ?_
      exact ip_iret hx hb hr hlk dX7_runScript_148 hS (show oI (some 0) = _ from congrArg oI (by simp [k_rn, k_grs, h1])) (by exact hP)
    · refine lv_iconst (v := (-1)) hx hb dX7_runScript_128 (by decide) ?_
      refine lv_goto (tgt := 134) hx hb dX7_runScript_129 (by decide) ?_
      refine lv_istore (lv' := [(6, .int (-1)), (10, .int (nI 1)), (8, .long (lN sc)), (7, .int (nI 0)), (4, .long (99999)), (0, .ref b), (1, .int (nI 1)), (2, .long (lN sc))]) hx hb dX7_runScript_134 hl (by decide) rfl (fun ls hl => ?_)
      refine lv_iinc (v := (nI 1)) (lv' := [(7, .int (nI 1)), (6, .int (-1)), (10, .int (nI 1)), (8, .long (lN sc)), (4, .long (99999)), (0, .ref b), (1, .int (nI 1)), (2, .long (lN sc))]) hx hb dX7_runScript_136 hl (k := 3) rfl (by decide) (by decide) rfl (fun ls hl => ?_)
      refine lv_goto (tgt := 73) hx hb dX7_runScript_139 (by decide) ?_
      refine lv_iload hx hb dX7_runScript_73 (lv_at hl 0 rfl) ?_
      refine lv_iload_n hx hb dX7_runScript_75 rfl (lv_at hl 6 rfl) ?_
      refine lv_icmp_ge (tgt := 142) hx hb dX7_runScript_76 (by decide) (fun _ => ?_) (fun h9 => False.elim (by revert h9; decide))
      have hP : va_P D vwCl [(b, .inr (6, [.int (nI 0), .ref b1, .ref b2, .ref b3, .int (nI n), .ref b4, .ref b5, .ref b6, .int (nI ln)])), (b1, .inl (tc 0, 60, .inl ((fun k => nI (((m_rn g (k_grs 1 sc))) k))))), (b2, .inl (tc 0, 60, .inl ((fun k => nI (((k_win g ga 0 0 60)) k))))), (b3, .inl (tc 0, 840, .inl ((fun k => nI (sv k))))), (b4, .inl (tc 0, 120, .inl ((fun k => nI (sl k))))), (b5, .inl (tc 3, 2, .inl ((fun k => bI (iz k))))), (b6, .inl (tc 2, 100, .inl ((fun k => byI (u k)))))] H := (by (have er : m_rn g (k_grs 1 sc) = (m_sg g (sc % 100000)) := by simp [m_rn, k_grs, h1]); rw [er]; exact hP)
      have hD : va_D A [(b, .inr (6, [.int (nI 0), .ref b1, .ref b2, .ref b3, .int (nI n), .ref b4, .ref b5, .ref b6, .int (nI ln)])), (b1, .inl (tc 0, 60, .inl ((fun k => nI (((m_rn g (k_grs 1 sc))) k))))), (b2, .inl (tc 0, 60, .inl ((fun k => nI (((k_win g ga 0 0 60)) k))))), (b3, .inl (tc 0, 840, .inl ((fun k => nI (sv k))))), (b4, .inl (tc 0, 120, .inl ((fun k => nI (sl k))))), (b5, .inl (tc 3, 2, .inl ((fun k => bI (iz k))))), (b6, .inl (tc 2, 100, .inl ((fun k => byI (u k)))))] := va_D_addr hD rfl
      refine lv_aload_n hx hb dX7_runScript_142 rfl (lv_at hl 5 rfl) ?_
      refine ip_V (C := RX7) (n := 0) (wl' := [(b, .inr (6, [.int (nI 0), .ref b1, .ref b2, .ref b3, .int (nI n), .ref b4, .ref b5, .ref b6, .int (nI ln)])), (b1, .inl (tc 0, 60, .inl ((fun k => nI ((k_win (((k_win g ga 0 0 60))) (((m_rn g (k_grs 1 sc)))) 0 0 60) k))))), (b2, .inl (tc 0, 60, .inl ((fun k => nI ((((k_win g ga 0 0 60))) k))))), (b3, .inl (tc 0, 840, .inl ((fun k => nI (sv k))))), (b4, .inl (tc 0, 120, .inl ((fun k => nI (sl k))))), (b5, .inl (tc 3, 2, .inl ((fun k => bI (iz k))))), (b6, .inl (tc 2, 100, .inl ((fun k => byI (u k)))))]) ⟨hx, hb, hml, hown, hts⟩ hM hS hP hD (c7_putBack l D tc zb b b1 b2 (fun k9 => match k9 with | 0 => .int (nI 0) | 3 => .ref b3 | 4 => .int (nI n) | 5 => .ref b4 | 6 => .ref b5 | 7 => .ref b6 | 8 => .int (nI ln) | _ => .null) (((m_rn g (k_grs 1 sc)))) (((k_win g ga 0 0 60)))) gX7_runScript_X7_putBack rfl (by decide +kernel) ⟨Nat.le_of_ble_eq_true rfl, Nat.le_of_ble_eq_true rfl⟩ [0, 1, 2] rfl rfl [(true, 0), (true, 1), (true, 2), (false, 3), (false, 4), (false, 5), (false, 6)] rfl rfl rfl (va_recv hM.1 hP (ci := 6) (q0 := 0) rfl rfl) rfl hl.1 rfl (Nat.le_of_ble_eq_true rfl) dX7_runScript_143 ⟨Nat.le_refl _, Nat.le_refl _⟩ (fun H locs hP hD hS => ?_)
      refine W.eq (g2 := F0 m 146 ls []) rfl ?_
      refine lv_iload hx hb dX7_runScript_146 (lv_at hl 1 rfl) ?_
      exact ip_iret hx hb hr hlk dX7_runScript_148 hS (show oI none = _ from congrArg oI (by simp [k_rn, k_grs, h1])) (by exact hP)
  · refine lv_iload_n hx hb dX7_runScript_0 rfl (lv_at hl 1 rfl) ?_
    refine lv_iconst (v := (nI 1)) hx hb dX7_runScript_1 (by decide) ?_
    refine lv_icmp_ne (tgt := 11) hx hb dX7_runScript_2 (by decide) (fun _ => ?_) (fun h9 => False.elim (by revert h9; decide))
    refine lv_iload_n hx hb dX7_runScript_11 rfl (lv_at hl 1 rfl) ?_
    refine lv_iconst (v := (nI 2)) hx hb dX7_runScript_12 (by decide) ?_
    refine lv_icmp_ne (tgt := 22) hx hb dX7_runScript_13 (by decide) (fun h9 => False.elim (by revert h9; decide)) (fun _ => ?_)
    refine lv_ldc2 (v := (9999999999 : Int64)) hx hb hown (hts (.constantLong RX7 191 (9999999999)) (by decide +kernel)) dX7_runScript_16 ?_
    refine lv_goto (tgt := 25) hx hb dX7_runScript_19 (by decide) ?_
    refine lv_lstore (lv' := [(4, .long (9999999999)), (0, .ref b), (1, .int (nI 2)), (2, .long (lN sc))]) hx hb dX7_runScript_25 hl (by decide) rfl (fun ls hl => ?_)
    simp at hsc
    have hsc2 : sc < 2 ^ 62 := by omega
    refine lv_aload_n hx hb dX7_runScript_27 rfl (lv_at hl 1 rfl) ?_
    refine lv_iload_n hx hb dX7_runScript_28 rfl (lv_at hl 2 rfl) ?_
    refine lv_i2l (v := ((nI 2)).toInt64) hx hb dX7_runScript_29 rfl ?_
    refine lv_lconst (v := (1 : Int64)) hx hb dX7_runScript_30 rfl ?_
    refine lv_ldc2 (v := (3 : Int64)) hx hb hown (hts (.constantLong RX7 195 (3)) (by decide +kernel)) dX7_runScript_31 ?_
    refine ro_S (n := 3) ⟨hx, hb, hml, hown, hts⟩ hM hS hP (c7_in_ok l D tc zb 2 1 3 (by omega) (by decide)) gX7_runScript_X7_in rfl (by decide +kernel) ⟨Nat.le_of_ble_eq_true rfl, Nat.le_of_ble_eq_true rfl⟩ [] rfl rfl hl.1 rfl (Nat.le_of_ble_eq_true rfl) dX7_runScript_34 ⟨Nat.le_refl _, Nat.le_refl _⟩ ?_
    refine lv_if_eq (tgt := 54) hx hb dX7_runScript_37 (by decide) (fun h9 => False.elim (by revert h9; decide)) (fun _ => ?_)
    refine lv_lload_n hx hb dX7_runScript_40 rfl (lv_at hl 3 rfl) ?_
    refine lv_lconst (v := (0 : Int64)) hx hb dX7_runScript_41 rfl ?_
    refine lv_lload hx hb dX7_runScript_42 (lv_at hl 0 rfl) ?_
    refine ro_S (n := 3) ⟨hx, hb, hml, hown, hts⟩ hM hS hP (c7_in_big l D tc zb sc 0 9999999999 (by omega) (by decide)) gX7_runScript_X7_in rfl (by decide +kernel) ⟨Nat.le_of_ble_eq_true rfl, Nat.le_of_ble_eq_true rfl⟩ [] rfl rfl hl.1 rfl (Nat.le_of_ble_eq_true rfl) dX7_runScript_44 ⟨Nat.le_refl _, Nat.le_refl _⟩ ?_
    refine lv_if_eq (tgt := 54) hx hb dX7_runScript_47 (by decide) (fun h9 => False.elim (by revert h9; decide)) (fun _ => ?_)
    refine lv_iconst (v := (nI 0)) hx hb dX7_runScript_50 (by decide) ?_
    refine lv_goto (tgt := 55) hx hb dX7_runScript_51 (by decide) ?_
    refine ip_V (C := RX7) (n := 1) (wl' := [(b, .inr (6, [.int (nI 0), .ref b1, .ref b2, .ref b3, .int (nI n), .ref b4, .ref b5, .ref b6, .int (nI ln)])), (b1, .inl (tc 0, 60, .inl ((fun k => nI (g k))))), (b2, .inl (tc 0, 60, .inl ((fun k => nI (ga k))))), (b3, .inl (tc 0, 840, .inl ((fun k => nI (sv k))))), (b4, .inl (tc 0, 120, .inl ((fun k => nI (sl k))))), (b5, .inl (tc 3, 2, .inl ((fun k => bI (iz k))))), (b6, .inl (tc 2, 100, .inl ((fun k => byI (u k)))))]) ⟨hx, hb, hml, hown, hts⟩ hM hS hP hD (c7_holds0 l D tc zb b th (fun k9 => match k9 with | 1 => .ref b1 | 2 => .ref b2 | 3 => .ref b3 | 4 => .int (nI n) | 5 => .ref b4 | 6 => .ref b5 | 7 => .ref b6 | 8 => .int (nI ln) | _ => .null)) gX7_runScript_X7_holds rfl (by decide +kernel) ⟨Nat.le_of_ble_eq_true rfl, Nat.le_of_ble_eq_true rfl⟩ [0] rfl rfl [(true, 0), (false, 1), (false, 2), (false, 3), (false, 4), (false, 5), (false, 6)] rfl rfl rfl (va_recv hM.1 hP (ci := 6) (q0 := 0) rfl rfl) rfl hl.1 rfl (Nat.le_of_ble_eq_true rfl) dX7_runScript_55 ⟨Nat.le_refl _, Nat.le_refl _⟩ (fun H locs hP hD hS => ?_)
    refine W.eq (g2 := F0 m 58 ls [.int (bI (true))]) rfl ?_
    refine lv_if_ne (tgt := 63) hx hb dX7_runScript_58 (by decide) (fun _ => ?_) (fun h9 => False.elim (by revert h9; decide))
    refine lv_aload_n hx hb dX7_runScript_63 rfl (lv_at hl 1 rfl) ?_
    refine ip_V (C := RX7) (n := 0) (wl' := [(b, .inr (6, [.int (nI 0), .ref b1, .ref b2, .ref b3, .int (nI n), .ref b4, .ref b5, .ref b6, .int (nI ln)])), (b1, .inl (tc 0, 60, .inl ((fun k => nI (g k))))), (b2, .inl (tc 0, 60, .inl ((fun k => nI ((k_win g ga 0 0 60) k))))), (b3, .inl (tc 0, 840, .inl ((fun k => nI (sv k))))), (b4, .inl (tc 0, 120, .inl ((fun k => nI (sl k))))), (b5, .inl (tc 3, 2, .inl ((fun k => bI (iz k))))), (b6, .inl (tc 2, 100, .inl ((fun k => byI (u k)))))]) ⟨hx, hb, hml, hown, hts⟩ hM hS hP hD (c7_putAside l D tc zb b b1 b2 (fun k9 => match k9 with | 0 => .int (nI 0) | 3 => .ref b3 | 4 => .int (nI n) | 5 => .ref b4 | 6 => .ref b5 | 7 => .ref b6 | 8 => .int (nI ln) | _ => .null) g ga) gX7_runScript_X7_putAside rfl (by decide +kernel) ⟨Nat.le_of_ble_eq_true rfl, Nat.le_of_ble_eq_true rfl⟩ [0, 1, 2] rfl rfl [(true, 0), (true, 1), (true, 2), (false, 3), (false, 4), (false, 5), (false, 6)] rfl rfl rfl (va_recv hM.1 hP (ci := 6) (q0 := 0) rfl rfl) rfl hl.1 rfl (Nat.le_of_ble_eq_true rfl) dX7_runScript_64 ⟨Nat.le_refl _, Nat.le_refl _⟩ (fun H locs hP hD hS => ?_)
    refine W.eq (g2 := F0 m 67 ls []) rfl ?_
    refine lv_iconst (v := (-1)) hx hb dX7_runScript_67 (by decide) ?_
    refine lv_istore (lv' := [(6, .int (-1)), (4, .long (9999999999)), (0, .ref b), (1, .int (nI 2)), (2, .long (lN sc))]) hx hb dX7_runScript_68 hl (by decide) rfl (fun ls hl => ?_)
    refine lv_iconst (v := (nI 0)) hx hb dX7_runScript_70 (by decide) ?_
    refine lv_istore (lv' := [(7, .int (nI 0)), (6, .int (-1)), (4, .long (9999999999)), (0, .ref b), (1, .int (nI 2)), (2, .long (lN sc))]) hx hb dX7_runScript_71 hl (by decide) rfl (fun ls hl => ?_)
    refine lv_iload hx hb dX7_runScript_73 (lv_at hl 0 rfl) ?_
    refine lv_iload_n hx hb dX7_runScript_75 rfl (lv_at hl 4 rfl) ?_
    refine lv_icmp_ge (tgt := 142) hx hb dX7_runScript_76 (by decide) (fun h9 => False.elim (by revert h9; decide)) (fun _ => ?_)
    refine lv_iload hx hb dX7_runScript_79 (lv_at hl 1 rfl) ?_
    refine lv_iconst (v := (-1)) hx hb dX7_runScript_81 (by decide) ?_
    refine lv_icmp_ne (tgt := 142) hx hb dX7_runScript_82 (by decide) (fun h9 => False.elim (by revert h9; decide)) (fun _ => ?_)
    refine lv_lload_n hx hb dX7_runScript_85 rfl (lv_at hl 5 rfl) ?_
    refine lv_lstore (lv' := [(8, .long (lN sc)), (7, .int (nI 0)), (6, .int (-1)), (4, .long (9999999999)), (0, .ref b), (1, .int (nI 2)), (2, .long (lN sc))]) hx hb dX7_runScript_86 hl (by decide) rfl (fun ls hl => ?_)
    refine lv_iload hx hb dX7_runScript_88 (lv_at hl 1 rfl) ?_
    refine lv_iconst (v := (nI 1)) hx hb dX7_runScript_90 (by decide) ?_
    refine lv_iadd hx hb dX7_runScript_91 ?_
    refine ln_eq (x' := (nI 1)) (by decide) ?_
    refine lv_istore (lv' := [(10, .int (nI 1)), (8, .long (lN sc)), (7, .int (nI 0)), (6, .int (-1)), (4, .long (9999999999)), (0, .ref b), (1, .int (nI 2)), (2, .long (lN sc))]) hx hb dX7_runScript_92 hl (by decide) rfl (fun ls hl => ?_)
    refine lv_iload hx hb dX7_runScript_94 (lv_at hl 0 rfl) ?_
    refine lv_iload_n hx hb dX7_runScript_96 rfl (lv_at hl 6 rfl) ?_
    refine lv_icmp_ge (tgt := 114) hx hb dX7_runScript_97 (by decide) (fun h9 => False.elim (by revert h9; decide)) (fun _ => ?_)
    refine lv_lload hx hb dX7_runScript_100 (lv_at hl 1 rfl) ?_
    refine lv_ldc2 (v := (100000 : Int64)) hx hb hown (hts (.constantLong RX7 200 (100000)) (by decide +kernel)) dX7_runScript_102 ?_
    refine ln_ldiv (x := sc) (y := 100000) hx hb dX7_runScript_105 (by omega) (by decide) (by decide) ?_
    refine lv_lstore (lv' := [(8, .long (lN (sc / 100000))), (10, .int (nI 1)), (7, .int (nI 0)), (6, .int (-1)), (4, .long (9999999999)), (0, .ref b), (1, .int (nI 2)), (2, .long (lN sc))]) hx hb dX7_runScript_106 hl (by decide) rfl (fun ls hl => ?_)
    refine lv_iinc (v := (nI 2)) (lv' := [(10, .int (nI 2)), (8, .long (lN (sc / 100000))), (7, .int (nI 0)), (6, .int (-1)), (4, .long (9999999999)), (0, .ref b), (1, .int (nI 2)), (2, .long (lN sc))]) hx hb dX7_runScript_108 hl (k := 1) rfl (by decide) (by decide) rfl (fun ls hl => ?_)
    refine lv_goto (tgt := 94) hx hb dX7_runScript_111 (by decide) ?_
    refine lv_iload hx hb dX7_runScript_94 (lv_at hl 0 rfl) ?_
    refine lv_iload_n hx hb dX7_runScript_96 rfl (lv_at hl 6 rfl) ?_
    refine lv_icmp_ge (tgt := 114) hx hb dX7_runScript_97 (by decide) (fun _ => ?_) (fun h9 => False.elim (by revert h9; decide))
    refine lv_aload_n hx hb dX7_runScript_114 rfl (lv_at hl 5 rfl) ?_
    refine lv_lload hx hb dX7_runScript_115 (lv_at hl 1 rfl) ?_
    refine lv_ldc2 (v := (100000 : Int64)) hx hb hown (hts (.constantLong RX7 200 (100000)) (by decide +kernel)) dX7_runScript_117 ?_
    refine ln_lrem (x := (sc / 100000)) (y := 100000) hx hb dX7_runScript_120 (by omega) (by decide) (by decide) ?_
    refine lv_l2i (v := nI ((sc / 100000) % 100000)) hx hb dX7_runScript_121 (lN_i _) ?_
    refine ip_V (C := RX7) (n := 1) (wl' := [(b, .inr (6, [.int (nI 0), .ref b1, .ref b2, .ref b3, .int (nI n), .ref b4, .ref b5, .ref b6, .int (nI ln)])), (b1, .inl (tc 0, 60, .inl ((fun k => nI ((m_sg g ((sc / 100000) % 100000)) k))))), (b2, .inl (tc 0, 60, .inl ((fun k => nI ((k_win g ga 0 0 60) k))))), (b3, .inl (tc 0, 840, .inl ((fun k => nI (sv k))))), (b4, .inl (tc 0, 120, .inl ((fun k => nI (sl k))))), (b5, .inl (tc 3, 2, .inl ((fun k => bI (iz k))))), (b6, .inl (tc 2, 100, .inl ((fun k => byI (u k)))))]) ⟨hx, hb, hml, hown, hts⟩ hM hS hP hD (c7_succeeds l D tc zb b b1 (fun k9 => match k9 with | 0 => .int (nI 0) | 2 => .ref b2 | 3 => .ref b3 | 4 => .int (nI n) | 5 => .ref b4 | 6 => .ref b5 | 7 => .ref b6 | 8 => .int (nI ln) | _ => .null) g ((sc / 100000) % 100000) hk (by omega)) gX7_runScript_X7_succeeds rfl (by decide +kernel) ⟨Nat.le_of_ble_eq_true rfl, Nat.le_of_ble_eq_true rfl⟩ [0, 1] rfl rfl [(true, 0), (true, 1), (false, 2), (false, 3), (false, 4), (false, 5), (false, 6)] rfl rfl rfl (va_recv hM.1 hP (ci := 6) (q0 := 0) rfl rfl) rfl hl.1 rfl (Nat.le_of_ble_eq_true rfl) dX7_runScript_122 ⟨Nat.le_refl _, Nat.le_refl _⟩ (fun H locs hP hD hS => ?_)
    refine W.eq (g2 := F0 m 125 ls [.int (bI (k_sg g ((sc / 100000) % 100000)))]) rfl ?_
    refine ln_if_eqB (tgt := 132) hx hb dX7_runScript_125 (by decide) (fun h2 => ?_) (fun h2 => ?_)
    · refine lv_iload hx hb dX7_runScript_132 (lv_at hl 2 rfl) ?_
      refine lv_istore (lv' := [(6, .int (nI 0)), (10, .int (nI 2)), (8, .long (lN (sc / 100000))), (7, .int (nI 0)), (4, .long (9999999999)), (0, .ref b), (1, .int (nI 2)), (2, .long (lN sc))]) hx hb dX7_runScript_134 hl (by decide) rfl (fun ls hl => ?_)
      refine lv_iinc (v := (nI 1)) (lv' := [(7, .int (nI 1)), (6, .int (nI 0)), (10, .int (nI 2)), (8, .long (lN (sc / 100000))), (4, .long (9999999999)), (0, .ref b), (1, .int (nI 2)), (2, .long (lN sc))]) hx hb dX7_runScript_136 hl (k := 3) rfl (by decide) (by decide) rfl (fun ls hl => ?_)
      refine lv_goto (tgt := 73) hx hb dX7_runScript_139 (by decide) ?_
      refine lv_iload hx hb dX7_runScript_73 (lv_at hl 0 rfl) ?_
      refine lv_iload_n hx hb dX7_runScript_75 rfl (lv_at hl 6 rfl) ?_
      refine lv_icmp_ge (tgt := 142) hx hb dX7_runScript_76 (by decide) (fun h9 => False.elim (by revert h9; decide)) (fun _ => ?_)
      refine lv_iload hx hb dX7_runScript_79 (lv_at hl 1 rfl) ?_
      refine lv_iconst (v := (-1)) hx hb dX7_runScript_81 (by decide) ?_
      refine lv_icmp_ne (tgt := 142) hx hb dX7_runScript_82 (by decide) (fun _ => ?_) (fun h9 => False.elim (by revert h9; decide))
      have hP : va_P D vwCl [(b, .inr (6, [.int (nI 0), .ref b1, .ref b2, .ref b3, .int (nI n), .ref b4, .ref b5, .ref b6, .int (nI ln)])), (b1, .inl (tc 0, 60, .inl ((fun k => nI (((m_rn g (k_grs 2 sc))) k))))), (b2, .inl (tc 0, 60, .inl ((fun k => nI (((k_win g ga 0 0 60)) k))))), (b3, .inl (tc 0, 840, .inl ((fun k => nI (sv k))))), (b4, .inl (tc 0, 120, .inl ((fun k => nI (sl k))))), (b5, .inl (tc 3, 2, .inl ((fun k => bI (iz k))))), (b6, .inl (tc 2, 100, .inl ((fun k => byI (u k)))))] H := (by (have er : m_rn g (k_grs 2 sc) = (m_sg g ((sc / 100000) % 100000)) := by simp [m_rn, k_grs, h2]); rw [er]; exact hP)
      have hD : va_D A [(b, .inr (6, [.int (nI 0), .ref b1, .ref b2, .ref b3, .int (nI n), .ref b4, .ref b5, .ref b6, .int (nI ln)])), (b1, .inl (tc 0, 60, .inl ((fun k => nI (((m_rn g (k_grs 2 sc))) k))))), (b2, .inl (tc 0, 60, .inl ((fun k => nI (((k_win g ga 0 0 60)) k))))), (b3, .inl (tc 0, 840, .inl ((fun k => nI (sv k))))), (b4, .inl (tc 0, 120, .inl ((fun k => nI (sl k))))), (b5, .inl (tc 3, 2, .inl ((fun k => bI (iz k))))), (b6, .inl (tc 2, 100, .inl ((fun k => byI (u k)))))] := va_D_addr hD rfl
      refine lv_aload_n hx hb dX7_runScript_142 rfl (lv_at hl 5 rfl) ?_
      refine ip_V (C := RX7) (n := 0) (wl' := [(b, .inr (6, [.int (nI 0), .ref b1, .ref b2, .ref b3, .int (nI n), .ref b4, .ref b5, .ref b6, .int (nI ln)])), (b1, .inl (tc 0, 60, .inl ((fun k => nI ((k_win (((k_win g ga 0 0 60))) (((m_rn g (k_grs 2 sc)))) 0 0 60) k))))), (b2, .inl (tc 0, 60, .inl ((fun k => nI ((((k_win g ga 0 0 60))) k))))), (b3, .inl (tc 0, 840, .inl ((fun k => nI (sv k))))), (b4, .inl (tc 0, 120, .inl ((fun k => nI (sl k))))), (b5, .inl (tc 3, 2, .inl ((fun k => bI (iz k))))), (b6, .inl (tc 2, 100, .inl ((fun k => byI (u k)))))]) ⟨hx, hb, hml, hown, hts⟩ hM hS hP hD (c7_putBack l D tc zb b b1 b2 (fun k9 => match k9 with | 0 => .int (nI 0) | 3 => .ref b3 | 4 => .int (nI n) | 5 => .ref b4 | 6 => .ref b5 | 7 => .ref b6 | 8 => .int (nI ln) | _ => .null) (((m_rn g (k_grs 2 sc)))) (((k_win g ga 0 0 60)))) gX7_runScript_X7_putBack rfl (by decide +kernel) ⟨Nat.le_of_ble_eq_true rfl, Nat.le_of_ble_eq_true rfl⟩ [0, 1, 2] rfl rfl [(true, 0), (true, 1), (true, 2), (false, 3), (false, 4), (false, 5), (false, 6)] rfl rfl rfl (va_recv hM.1 hP (ci := 6) (q0 := 0) rfl rfl) rfl hl.1 rfl (Nat.le_of_ble_eq_true rfl) dX7_runScript_143 ⟨Nat.le_refl _, Nat.le_refl _⟩ (fun H locs hP hD hS => ?_)
      refine W.eq (g2 := F0 m 146 ls []) rfl ?_
      refine lv_iload hx hb dX7_runScript_146 (lv_at hl 1 rfl) ?_
      exact ip_iret hx hb hr hlk dX7_runScript_148 hS (show oI (some 0) = _ from congrArg oI (by simp [k_rn, k_grs, h2])) (by exact hP)
    · refine lv_iconst (v := (-1)) hx hb dX7_runScript_128 (by decide) ?_
      refine lv_goto (tgt := 134) hx hb dX7_runScript_129 (by decide) ?_
      refine lv_istore (lv' := [(6, .int (-1)), (10, .int (nI 2)), (8, .long (lN (sc / 100000))), (7, .int (nI 0)), (4, .long (9999999999)), (0, .ref b), (1, .int (nI 2)), (2, .long (lN sc))]) hx hb dX7_runScript_134 hl (by decide) rfl (fun ls hl => ?_)
      refine lv_iinc (v := (nI 1)) (lv' := [(7, .int (nI 1)), (6, .int (-1)), (10, .int (nI 2)), (8, .long (lN (sc / 100000))), (4, .long (9999999999)), (0, .ref b), (1, .int (nI 2)), (2, .long (lN sc))]) hx hb dX7_runScript_136 hl (k := 3) rfl (by decide) (by decide) rfl (fun ls hl => ?_)
      refine lv_goto (tgt := 73) hx hb dX7_runScript_139 (by decide) ?_
      refine lv_iload hx hb dX7_runScript_73 (lv_at hl 0 rfl) ?_
      refine lv_iload_n hx hb dX7_runScript_75 rfl (lv_at hl 6 rfl) ?_
      refine lv_icmp_ge (tgt := 142) hx hb dX7_runScript_76 (by decide) (fun h9 => False.elim (by revert h9; decide)) (fun _ => ?_)
      refine lv_iload hx hb dX7_runScript_79 (lv_at hl 1 rfl) ?_
      refine lv_iconst (v := (-1)) hx hb dX7_runScript_81 (by decide) ?_
      refine lv_icmp_ne (tgt := 142) hx hb dX7_runScript_82 (by decide) (fun h9 => False.elim (by revert h9; decide)) (fun _ => ?_)
      refine lv_lload_n hx hb dX7_runScript_85 rfl (lv_at hl 7 rfl) ?_
      refine lv_lstore (lv' := [(8, .long (lN sc)), (7, .int (nI 1)), (6, .int (-1)), (10, .int (nI 2)), (4, .long (9999999999)), (0, .ref b), (1, .int (nI 2)), (2, .long (lN sc))]) hx hb dX7_runScript_86 hl (by decide) rfl (fun ls hl => ?_)
      refine lv_iload hx hb dX7_runScript_88 (lv_at hl 1 rfl) ?_
      refine lv_iconst (v := (nI 1)) hx hb dX7_runScript_90 (by decide) ?_
      refine lv_iadd hx hb dX7_runScript_91 ?_
      refine ln_eq (x' := (nI 2)) (by decide) ?_
      refine lv_istore (lv' := [(10, .int (nI 2)), (8, .long (lN sc)), (7, .int (nI 1)), (6, .int (-1)), (4, .long (9999999999)), (0, .ref b), (1, .int (nI 2)), (2, .long (lN sc))]) hx hb dX7_runScript_92 hl (by decide) rfl (fun ls hl => ?_)
      refine lv_iload hx hb dX7_runScript_94 (lv_at hl 0 rfl) ?_
      refine lv_iload_n hx hb dX7_runScript_96 rfl (lv_at hl 6 rfl) ?_
      refine lv_icmp_ge (tgt := 114) hx hb dX7_runScript_97 (by decide) (fun _ => ?_) (fun h9 => False.elim (by revert h9; decide))
      refine lv_aload_n hx hb dX7_runScript_114 rfl (lv_at hl 5 rfl) ?_
      refine lv_lload hx hb dX7_runScript_115 (lv_at hl 1 rfl) ?_
      refine lv_ldc2 (v := (100000 : Int64)) hx hb hown (hts (.constantLong RX7 200 (100000)) (by decide +kernel)) dX7_runScript_117 ?_
      refine ln_lrem (x := sc) (y := 100000) hx hb dX7_runScript_120 (by omega) (by decide) (by decide) ?_
      refine lv_l2i (v := nI (sc % 100000)) hx hb dX7_runScript_121 (lN_i _) ?_
      refine ip_V (C := RX7) (n := 1) (wl' := [(b, .inr (6, [.int (nI 0), .ref b1, .ref b2, .ref b3, .int (nI n), .ref b4, .ref b5, .ref b6, .int (nI ln)])), (b1, .inl (tc 0, 60, .inl ((fun k => nI ((m_sg ((m_sg g ((sc / 100000) % 100000))) (sc % 100000)) k))))), (b2, .inl (tc 0, 60, .inl ((fun k => nI ((k_win g ga 0 0 60) k))))), (b3, .inl (tc 0, 840, .inl ((fun k => nI (sv k))))), (b4, .inl (tc 0, 120, .inl ((fun k => nI (sl k))))), (b5, .inl (tc 3, 2, .inl ((fun k => bI (iz k))))), (b6, .inl (tc 2, 100, .inl ((fun k => byI (u k)))))]) ⟨hx, hb, hml, hown, hts⟩ hM hS hP hD (c7_succeeds l D tc zb b b1 (fun k9 => match k9 with | 0 => .int (nI 0) | 2 => .ref b2 | 3 => .ref b3 | 4 => .int (nI n) | 5 => .ref b4 | 6 => .ref b5 | 7 => .ref b6 | 8 => .int (nI ln) | _ => .null) ((m_sg g ((sc / 100000) % 100000))) (sc % 100000) ((ok_sg hk _)) (by omega)) gX7_runScript_X7_succeeds rfl (by decide +kernel) ⟨Nat.le_of_ble_eq_true rfl, Nat.le_of_ble_eq_true rfl⟩ [0, 1] rfl rfl [(true, 0), (true, 1), (false, 2), (false, 3), (false, 4), (false, 5), (false, 6)] rfl rfl rfl (va_recv hM.1 hP (ci := 6) (q0 := 0) rfl rfl) rfl hl.1 rfl (Nat.le_of_ble_eq_true rfl) dX7_runScript_122 ⟨Nat.le_refl _, Nat.le_refl _⟩ (fun H locs hP hD hS => ?_)
      refine W.eq (g2 := F0 m 125 ls [.int (bI (k_sg ((m_sg g ((sc / 100000) % 100000))) (sc % 100000)))]) rfl ?_
      refine ln_if_eqB (tgt := 132) hx hb dX7_runScript_125 (by decide) (fun h3 => ?_) (fun h3 => ?_)
      · refine lv_iload hx hb dX7_runScript_132 (lv_at hl 2 rfl) ?_
        refine lv_istore (lv' := [(6, .int (nI 1)), (10, .int (nI 2)), (8, .long (lN sc)), (7, .int (nI 1)), (4, .long (9999999999)), (0, .ref b), (1, .int (nI 2)), (2, .long (lN sc))]) hx hb dX7_runScript_134 hl (by decide) rfl (fun ls hl => ?_)
        refine lv_iinc (v := (nI 2)) (lv' := [(7, .int (nI 2)), (6, .int (nI 1)), (10, .int (nI 2)), (8, .long (lN sc)), (4, .long (9999999999)), (0, .ref b), (1, .int (nI 2)), (2, .long (lN sc))]) hx hb dX7_runScript_136 hl (k := 3) rfl (by decide) (by decide) rfl (fun ls hl => ?_)
        refine lv_goto (tgt := 73) hx hb dX7_runScript_139 (by decide) ?_
        refine lv_iload hx hb dX7_runScript_73 (lv_at hl 0 rfl) ?_
        refine lv_iload_n hx hb dX7_runScript_75 rfl (lv_at hl 6 rfl) ?_
        refine lv_icmp_ge (tgt := 142) hx hb dX7_runScript_76 (by decide) (fun _ => ?_) (fun h9 => False.elim (by revert h9; decide))
        have hP : va_P D vwCl [(b, .inr (6, [.int (nI 0), .ref b1, .ref b2, .ref b3, .int (nI n), .ref b4, .ref b5, .ref b6, .int (nI ln)])), (b1, .inl (tc 0, 60, .inl ((fun k => nI (((m_rn g (k_grs 2 sc))) k))))), (b2, .inl (tc 0, 60, .inl ((fun k => nI (((k_win g ga 0 0 60)) k))))), (b3, .inl (tc 0, 840, .inl ((fun k => nI (sv k))))), (b4, .inl (tc 0, 120, .inl ((fun k => nI (sl k))))), (b5, .inl (tc 3, 2, .inl ((fun k => bI (iz k))))), (b6, .inl (tc 2, 100, .inl ((fun k => byI (u k)))))] H := (by (have er : m_rn g (k_grs 2 sc) = (m_sg ((m_sg g ((sc / 100000) % 100000))) (sc % 100000)) := by simp [m_rn, k_grs, h2, h3]); rw [er]; exact hP)
        have hD : va_D A [(b, .inr (6, [.int (nI 0), .ref b1, .ref b2, .ref b3, .int (nI n), .ref b4, .ref b5, .ref b6, .int (nI ln)])), (b1, .inl (tc 0, 60, .inl ((fun k => nI (((m_rn g (k_grs 2 sc))) k))))), (b2, .inl (tc 0, 60, .inl ((fun k => nI (((k_win g ga 0 0 60)) k))))), (b3, .inl (tc 0, 840, .inl ((fun k => nI (sv k))))), (b4, .inl (tc 0, 120, .inl ((fun k => nI (sl k))))), (b5, .inl (tc 3, 2, .inl ((fun k => bI (iz k))))), (b6, .inl (tc 2, 100, .inl ((fun k => byI (u k)))))] := va_D_addr hD rfl
        refine lv_aload_n hx hb dX7_runScript_142 rfl (lv_at hl 5 rfl) ?_
        refine ip_V (C := RX7) (n := 0) (wl' := [(b, .inr (6, [.int (nI 0), .ref b1, .ref b2, .ref b3, .int (nI n), .ref b4, .ref b5, .ref b6, .int (nI ln)])), (b1, .inl (tc 0, 60, .inl ((fun k => nI ((k_win (((k_win g ga 0 0 60))) (((m_rn g (k_grs 2 sc)))) 0 0 60) k))))), (b2, .inl (tc 0, 60, .inl ((fun k => nI ((((k_win g ga 0 0 60))) k))))), (b3, .inl (tc 0, 840, .inl ((fun k => nI (sv k))))), (b4, .inl (tc 0, 120, .inl ((fun k => nI (sl k))))), (b5, .inl (tc 3, 2, .inl ((fun k => bI (iz k))))), (b6, .inl (tc 2, 100, .inl ((fun k => byI (u k)))))]) ⟨hx, hb, hml, hown, hts⟩ hM hS hP hD (c7_putBack l D tc zb b b1 b2 (fun k9 => match k9 with | 0 => .int (nI 0) | 3 => .ref b3 | 4 => .int (nI n) | 5 => .ref b4 | 6 => .ref b5 | 7 => .ref b6 | 8 => .int (nI ln) | _ => .null) (((m_rn g (k_grs 2 sc)))) (((k_win g ga 0 0 60)))) gX7_runScript_X7_putBack rfl (by decide +kernel) ⟨Nat.le_of_ble_eq_true rfl, Nat.le_of_ble_eq_true rfl⟩ [0, 1, 2] rfl rfl [(true, 0), (true, 1), (true, 2), (false, 3), (false, 4), (false, 5), (false, 6)] rfl rfl rfl (va_recv hM.1 hP (ci := 6) (q0 := 0) rfl rfl) rfl hl.1 rfl (Nat.le_of_ble_eq_true rfl) dX7_runScript_143 ⟨Nat.le_refl _, Nat.le_refl _⟩ (fun H locs hP hD hS => ?_)
        refine W.eq (g2 := F0 m 146 ls []) rfl ?_
        refine lv_iload hx hb dX7_runScript_146 (lv_at hl 1 rfl) ?_
        exact ip_iret hx hb hr hlk dX7_runScript_148 hS (show oI (some 1) = _ from congrArg oI (by simp [k_rn, k_grs, h2, h3])) (by exact hP)
      · refine lv_iconst (v := (-1)) hx hb dX7_runScript_128 (by decide) ?_
        refine lv_goto (tgt := 134) hx hb dX7_runScript_129 (by decide) ?_
        refine lv_istore (lv' := [(6, .int (-1)), (10, .int (nI 2)), (8, .long (lN sc)), (7, .int (nI 1)), (4, .long (9999999999)), (0, .ref b), (1, .int (nI 2)), (2, .long (lN sc))]) hx hb dX7_runScript_134 hl (by decide) rfl (fun ls hl => ?_)
        refine lv_iinc (v := (nI 2)) (lv' := [(7, .int (nI 2)), (6, .int (-1)), (10, .int (nI 2)), (8, .long (lN sc)), (4, .long (9999999999)), (0, .ref b), (1, .int (nI 2)), (2, .long (lN sc))]) hx hb dX7_runScript_136 hl (k := 3) rfl (by decide) (by decide) rfl (fun ls hl => ?_)
        refine lv_goto (tgt := 73) hx hb dX7_runScript_139 (by decide) ?_
        refine lv_iload hx hb dX7_runScript_73 (lv_at hl 0 rfl) ?_
        refine lv_iload_n hx hb dX7_runScript_75 rfl (lv_at hl 6 rfl) ?_
        refine lv_icmp_ge (tgt := 142) hx hb dX7_runScript_76 (by decide) (fun _ => ?_) (fun h9 => False.elim (by revert h9; decide))
        have hP : va_P D vwCl [(b, .inr (6, [.int (nI 0), .ref b1, .ref b2, .ref b3, .int (nI n), .ref b4, .ref b5, .ref b6, .int (nI ln)])), (b1, .inl (tc 0, 60, .inl ((fun k => nI (((m_rn g (k_grs 2 sc))) k))))), (b2, .inl (tc 0, 60, .inl ((fun k => nI (((k_win g ga 0 0 60)) k))))), (b3, .inl (tc 0, 840, .inl ((fun k => nI (sv k))))), (b4, .inl (tc 0, 120, .inl ((fun k => nI (sl k))))), (b5, .inl (tc 3, 2, .inl ((fun k => bI (iz k))))), (b6, .inl (tc 2, 100, .inl ((fun k => byI (u k)))))] H := (by (have er : m_rn g (k_grs 2 sc) = (m_sg ((m_sg g ((sc / 100000) % 100000))) (sc % 100000)) := by simp [m_rn, k_grs, h2, h3]); rw [er]; exact hP)
        have hD : va_D A [(b, .inr (6, [.int (nI 0), .ref b1, .ref b2, .ref b3, .int (nI n), .ref b4, .ref b5, .ref b6, .int (nI ln)])), (b1, .inl (tc 0, 60, .inl ((fun k => nI (((m_rn g (k_grs 2 sc))) k))))), (b2, .inl (tc 0, 60, .inl ((fun k => nI (((k_win g ga 0 0 60)) k))))), (b3, .inl (tc 0, 840, .inl ((fun k => nI (sv k))))), (b4, .inl (tc 0, 120, .inl ((fun k => nI (sl k))))), (b5, .inl (tc 3, 2, .inl ((fun k => bI (iz k))))), (b6, .inl (tc 2, 100, .inl ((fun k => byI (u k)))))] := va_D_addr hD rfl
        refine lv_aload_n hx hb dX7_runScript_142 rfl (lv_at hl 5 rfl) ?_
        refine ip_V (C := RX7) (n := 0) (wl' := [(b, .inr (6, [.int (nI 0), .ref b1, .ref b2, .ref b3, .int (nI n), .ref b4, .ref b5, .ref b6, .int (nI ln)])), (b1, .inl (tc 0, 60, .inl ((fun k => nI ((k_win (((k_win g ga 0 0 60))) (((m_rn g (k_grs 2 sc)))) 0 0 60) k))))), (b2, .inl (tc 0, 60, .inl ((fun k => nI ((((k_win g ga 0 0 60))) k))))), (b3, .inl (tc 0, 840, .inl ((fun k => nI (sv k))))), (b4, .inl (tc 0, 120, .inl ((fun k => nI (sl k))))), (b5, .inl (tc 3, 2, .inl ((fun k => bI (iz k))))), (b6, .inl (tc 2, 100, .inl ((fun k => byI (u k)))))]) ⟨hx, hb, hml, hown, hts⟩ hM hS hP hD (c7_putBack l D tc zb b b1 b2 (fun k9 => match k9 with | 0 => .int (nI 0) | 3 => .ref b3 | 4 => .int (nI n) | 5 => .ref b4 | 6 => .ref b5 | 7 => .ref b6 | 8 => .int (nI ln) | _ => .null) (((m_rn g (k_grs 2 sc)))) (((k_win g ga 0 0 60)))) gX7_runScript_X7_putBack rfl (by decide +kernel) ⟨Nat.le_of_ble_eq_true rfl, Nat.le_of_ble_eq_true rfl⟩ [0, 1, 2] rfl rfl [(true, 0), (true, 1), (true, 2), (false, 3), (false, 4), (false, 5), (false, 6)] rfl rfl rfl (va_recv hM.1 hP (ci := 6) (q0 := 0) rfl rfl) rfl hl.1 rfl (Nat.le_of_ble_eq_true rfl) dX7_runScript_143 ⟨Nat.le_refl _, Nat.le_refl _⟩ (fun H locs hP hD hS => ?_)
        refine W.eq (g2 := F0 m 146 ls []) rfl ?_
        refine lv_iload hx hb dX7_runScript_146 (lv_at hl 1 rfl) ?_
        exact ip_iret hx hb hr hlk dX7_runScript_148 hS (show oI none = _ from congrArg oI (by simp [k_rn, k_grs, h2, h3])) (by exact hP)
  · refine lv_iload_n hx hb dX7_runScript_0 rfl (lv_at hl 1 rfl) ?_
    refine lv_iconst (v := (nI 1)) hx hb dX7_runScript_1 (by decide) ?_
    refine lv_icmp_ne (tgt := 11) hx hb dX7_runScript_2 (by decide) (fun _ => ?_) (fun h9 => False.elim (by revert h9; decide))
    refine lv_iload_n hx hb dX7_runScript_11 rfl (lv_at hl 1 rfl) ?_
    refine lv_iconst (v := (nI 2)) hx hb dX7_runScript_12 (by decide) ?_
    refine lv_icmp_ne (tgt := 22) hx hb dX7_runScript_13 (by decide) (fun _ => ?_) (fun h9 => False.elim (by revert h9; decide))
    refine lv_ldc2 (v := (999999999999999 : Int64)) hx hb hown (hts (.constantLong RX7 193 (999999999999999)) (by decide +kernel)) dX7_runScript_22 ?_
    refine lv_lstore (lv' := [(4, .long (999999999999999)), (0, .ref b), (1, .int (nI 3)), (2, .long (lN sc))]) hx hb dX7_runScript_25 hl (by decide) rfl (fun ls hl => ?_)
    simp at hsc
    have hsc2 : sc < 2 ^ 62 := by omega
    refine lv_aload_n hx hb dX7_runScript_27 rfl (lv_at hl 1 rfl) ?_
    refine lv_iload_n hx hb dX7_runScript_28 rfl (lv_at hl 2 rfl) ?_
    refine lv_i2l (v := ((nI 3)).toInt64) hx hb dX7_runScript_29 rfl ?_
    refine lv_lconst (v := (1 : Int64)) hx hb dX7_runScript_30 rfl ?_
    refine lv_ldc2 (v := (3 : Int64)) hx hb hown (hts (.constantLong RX7 195 (3)) (by decide +kernel)) dX7_runScript_31 ?_
    refine ro_S (n := 3) ⟨hx, hb, hml, hown, hts⟩ hM hS hP (c7_in_ok l D tc zb 3 1 3 (by omega) (by decide)) gX7_runScript_X7_in rfl (by decide +kernel) ⟨Nat.le_of_ble_eq_true rfl, Nat.le_of_ble_eq_true rfl⟩ [] rfl rfl hl.1 rfl (Nat.le_of_ble_eq_true rfl) dX7_runScript_34 ⟨Nat.le_refl _, Nat.le_refl _⟩ ?_
    refine lv_if_eq (tgt := 54) hx hb dX7_runScript_37 (by decide) (fun h9 => False.elim (by revert h9; decide)) (fun _ => ?_)
    refine lv_lload_n hx hb dX7_runScript_40 rfl (lv_at hl 3 rfl) ?_
    refine lv_lconst (v := (0 : Int64)) hx hb dX7_runScript_41 rfl ?_
    refine lv_lload hx hb dX7_runScript_42 (lv_at hl 0 rfl) ?_
    refine ro_S (n := 3) ⟨hx, hb, hml, hown, hts⟩ hM hS hP (c7_in_big l D tc zb sc 0 999999999999999 (by omega) (by decide)) gX7_runScript_X7_in rfl (by decide +kernel) ⟨Nat.le_of_ble_eq_true rfl, Nat.le_of_ble_eq_true rfl⟩ [] rfl rfl hl.1 rfl (Nat.le_of_ble_eq_true rfl) dX7_runScript_44 ⟨Nat.le_refl _, Nat.le_refl _⟩ ?_
    refine lv_if_eq (tgt := 54) hx hb dX7_runScript_47 (by decide) (fun h9 => False.elim (by revert h9; decide)) (fun _ => ?_)
    refine lv_iconst (v := (nI 0)) hx hb dX7_runScript_50 (by decide) ?_
    refine lv_goto (tgt := 55) hx hb dX7_runScript_51 (by decide) ?_
    refine ip_V (C := RX7) (n := 1) (wl' := [(b, .inr (6, [.int (nI 0), .ref b1, .ref b2, .ref b3, .int (nI n), .ref b4, .ref b5, .ref b6, .int (nI ln)])), (b1, .inl (tc 0, 60, .inl ((fun k => nI (g k))))), (b2, .inl (tc 0, 60, .inl ((fun k => nI (ga k))))), (b3, .inl (tc 0, 840, .inl ((fun k => nI (sv k))))), (b4, .inl (tc 0, 120, .inl ((fun k => nI (sl k))))), (b5, .inl (tc 3, 2, .inl ((fun k => bI (iz k))))), (b6, .inl (tc 2, 100, .inl ((fun k => byI (u k)))))]) ⟨hx, hb, hml, hown, hts⟩ hM hS hP hD (c7_holds0 l D tc zb b th (fun k9 => match k9 with | 1 => .ref b1 | 2 => .ref b2 | 3 => .ref b3 | 4 => .int (nI n) | 5 => .ref b4 | 6 => .ref b5 | 7 => .ref b6 | 8 => .int (nI ln) | _ => .null)) gX7_runScript_X7_holds rfl (by decide +kernel) ⟨Nat.le_of_ble_eq_true rfl, Nat.le_of_ble_eq_true rfl⟩ [0] rfl rfl [(true, 0), (false, 1), (false, 2), (false, 3), (false, 4), (false, 5), (false, 6)] rfl rfl rfl (va_recv hM.1 hP (ci := 6) (q0 := 0) rfl rfl) rfl hl.1 rfl (Nat.le_of_ble_eq_true rfl) dX7_runScript_55 ⟨Nat.le_refl _, Nat.le_refl _⟩ (fun H locs hP hD hS => ?_)
    refine W.eq (g2 := F0 m 58 ls [.int (bI (true))]) rfl ?_
    refine lv_if_ne (tgt := 63) hx hb dX7_runScript_58 (by decide) (fun _ => ?_) (fun h9 => False.elim (by revert h9; decide))
    refine lv_aload_n hx hb dX7_runScript_63 rfl (lv_at hl 1 rfl) ?_
    refine ip_V (C := RX7) (n := 0) (wl' := [(b, .inr (6, [.int (nI 0), .ref b1, .ref b2, .ref b3, .int (nI n), .ref b4, .ref b5, .ref b6, .int (nI ln)])), (b1, .inl (tc 0, 60, .inl ((fun k => nI (g k))))), (b2, .inl (tc 0, 60, .inl ((fun k => nI ((k_win g ga 0 0 60) k))))), (b3, .inl (tc 0, 840, .inl ((fun k => nI (sv k))))), (b4, .inl (tc 0, 120, .inl ((fun k => nI (sl k))))), (b5, .inl (tc 3, 2, .inl ((fun k => bI (iz k))))), (b6, .inl (tc 2, 100, .inl ((fun k => byI (u k)))))]) ⟨hx, hb, hml, hown, hts⟩ hM hS hP hD (c7_putAside l D tc zb b b1 b2 (fun k9 => match k9 with | 0 => .int (nI 0) | 3 => .ref b3 | 4 => .int (nI n) | 5 => .ref b4 | 6 => .ref b5 | 7 => .ref b6 | 8 => .int (nI ln) | _ => .null) g ga) gX7_runScript_X7_putAside rfl (by decide +kernel) ⟨Nat.le_of_ble_eq_true rfl, Nat.le_of_ble_eq_true rfl⟩ [0, 1, 2] rfl rfl [(true, 0), (true, 1), (true, 2), (false, 3), (false, 4), (false, 5), (false, 6)] rfl rfl rfl (va_recv hM.1 hP (ci := 6) (q0 := 0) rfl rfl) rfl hl.1 rfl (Nat.le_of_ble_eq_true rfl) dX7_runScript_64 ⟨Nat.le_refl _, Nat.le_refl _⟩ (fun H locs hP hD hS => ?_)
    refine W.eq (g2 := F0 m 67 ls []) rfl ?_
    refine lv_iconst (v := (-1)) hx hb dX7_runScript_67 (by decide) ?_
    refine lv_istore (lv' := [(6, .int (-1)), (4, .long (999999999999999)), (0, .ref b), (1, .int (nI 3)), (2, .long (lN sc))]) hx hb dX7_runScript_68 hl (by decide) rfl (fun ls hl => ?_)
    refine lv_iconst (v := (nI 0)) hx hb dX7_runScript_70 (by decide) ?_
    refine lv_istore (lv' := [(7, .int (nI 0)), (6, .int (-1)), (4, .long (999999999999999)), (0, .ref b), (1, .int (nI 3)), (2, .long (lN sc))]) hx hb dX7_runScript_71 hl (by decide) rfl (fun ls hl => ?_)
    refine lv_iload hx hb dX7_runScript_73 (lv_at hl 0 rfl) ?_
    refine lv_iload_n hx hb dX7_runScript_75 rfl (lv_at hl 4 rfl) ?_
    refine lv_icmp_ge (tgt := 142) hx hb dX7_runScript_76 (by decide) (fun h9 => False.elim (by revert h9; decide)) (fun _ => ?_)
    refine lv_iload hx hb dX7_runScript_79 (lv_at hl 1 rfl) ?_
    refine lv_iconst (v := (-1)) hx hb dX7_runScript_81 (by decide) ?_
    refine lv_icmp_ne (tgt := 142) hx hb dX7_runScript_82 (by decide) (fun h9 => False.elim (by revert h9; decide)) (fun _ => ?_)
    refine lv_lload_n hx hb dX7_runScript_85 rfl (lv_at hl 5 rfl) ?_
    refine lv_lstore (lv' := [(8, .long (lN sc)), (7, .int (nI 0)), (6, .int (-1)), (4, .long (999999999999999)), (0, .ref b), (1, .int (nI 3)), (2, .long (lN sc))]) hx hb dX7_runScript_86 hl (by decide) rfl (fun ls hl => ?_)
    refine lv_iload hx hb dX7_runScript_88 (lv_at hl 1 rfl) ?_
    refine lv_iconst (v := (nI 1)) hx hb dX7_runScript_90 (by decide) ?_
    refine lv_iadd hx hb dX7_runScript_91 ?_
    refine ln_eq (x' := (nI 1)) (by decide) ?_
    refine lv_istore (lv' := [(10, .int (nI 1)), (8, .long (lN sc)), (7, .int (nI 0)), (6, .int (-1)), (4, .long (999999999999999)), (0, .ref b), (1, .int (nI 3)), (2, .long (lN sc))]) hx hb dX7_runScript_92 hl (by decide) rfl (fun ls hl => ?_)
    refine lv_iload hx hb dX7_runScript_94 (lv_at hl 0 rfl) ?_
    refine lv_iload_n hx hb dX7_runScript_96 rfl (lv_at hl 6 rfl) ?_
    refine lv_icmp_ge (tgt := 114) hx hb dX7_runScript_97 (by decide) (fun h9 => False.elim (by revert h9; decide)) (fun _ => ?_)
    refine lv_lload hx hb dX7_runScript_100 (lv_at hl 1 rfl) ?_
    refine lv_ldc2 (v := (100000 : Int64)) hx hb hown (hts (.constantLong RX7 200 (100000)) (by decide +kernel)) dX7_runScript_102 ?_
    refine ln_ldiv (x := sc) (y := 100000) hx hb dX7_runScript_105 (by omega) (by decide) (by decide) ?_
    refine lv_lstore (lv' := [(8, .long (lN (sc / 100000))), (10, .int (nI 1)), (7, .int (nI 0)), (6, .int (-1)), (4, .long (999999999999999)), (0, .ref b), (1, .int (nI 3)), (2, .long (lN sc))]) hx hb dX7_runScript_106 hl (by decide) rfl (fun ls hl => ?_)
    refine lv_iinc (v := (nI 2)) (lv' := [(10, .int (nI 2)), (8, .long (lN (sc / 100000))), (7, .int (nI 0)), (6, .int (-1)), (4, .long (999999999999999)), (0, .ref b), (1, .int (nI 3)), (2, .long (lN sc))]) hx hb dX7_runScript_108 hl (k := 1) rfl (by decide) (by decide) rfl (fun ls hl => ?_)
    refine lv_goto (tgt := 94) hx hb dX7_runScript_111 (by decide) ?_
    refine lv_iload hx hb dX7_runScript_94 (lv_at hl 0 rfl) ?_
    refine lv_iload_n hx hb dX7_runScript_96 rfl (lv_at hl 6 rfl) ?_
    refine lv_icmp_ge (tgt := 114) hx hb dX7_runScript_97 (by decide) (fun h9 => False.elim (by revert h9; decide)) (fun _ => ?_)
    refine lv_lload hx hb dX7_runScript_100 (lv_at hl 1 rfl) ?_
    refine lv_ldc2 (v := (100000 : Int64)) hx hb hown (hts (.constantLong RX7 200 (100000)) (by decide +kernel)) dX7_runScript_102 ?_
    refine ln_ldiv (x := (sc / 100000)) (y := 100000) hx hb dX7_runScript_105 (by omega) (by decide) (by decide) ?_
    refine lv_lstore (lv' := [(8, .long (lN ((sc / 100000) / 100000))), (10, .int (nI 2)), (7, .int (nI 0)), (6, .int (-1)), (4, .long (999999999999999)), (0, .ref b), (1, .int (nI 3)), (2, .long (lN sc))]) hx hb dX7_runScript_106 hl (by decide) rfl (fun ls hl => ?_)
    refine lv_iinc (v := (nI 3)) (lv' := [(10, .int (nI 3)), (8, .long (lN ((sc / 100000) / 100000))), (7, .int (nI 0)), (6, .int (-1)), (4, .long (999999999999999)), (0, .ref b), (1, .int (nI 3)), (2, .long (lN sc))]) hx hb dX7_runScript_108 hl (k := 1) rfl (by decide) (by decide) rfl (fun ls hl => ?_)
    refine lv_goto (tgt := 94) hx hb dX7_runScript_111 (by decide) ?_
    refine lv_iload hx hb dX7_runScript_94 (lv_at hl 0 rfl) ?_
    refine lv_iload_n hx hb dX7_runScript_96 rfl (lv_at hl 6 rfl) ?_
    refine lv_icmp_ge (tgt := 114) hx hb dX7_runScript_97 (by decide) (fun _ => ?_) (fun h9 => False.elim (by revert h9; decide))
    refine lv_aload_n hx hb dX7_runScript_114 rfl (lv_at hl 5 rfl) ?_
    refine lv_lload hx hb dX7_runScript_115 (lv_at hl 1 rfl) ?_
    refine lv_ldc2 (v := (100000 : Int64)) hx hb hown (hts (.constantLong RX7 200 (100000)) (by decide +kernel)) dX7_runScript_117 ?_
    refine ln_lrem (x := ((sc / 100000) / 100000)) (y := 100000) hx hb dX7_runScript_120 (by omega) (by decide) (by decide) ?_
    refine lv_l2i (v := nI (((sc / 100000) / 100000) % 100000)) hx hb dX7_runScript_121 (lN_i _) ?_
    refine ip_V (C := RX7) (n := 1) (wl' := [(b, .inr (6, [.int (nI 0), .ref b1, .ref b2, .ref b3, .int (nI n), .ref b4, .ref b5, .ref b6, .int (nI ln)])), (b1, .inl (tc 0, 60, .inl ((fun k => nI ((m_sg g (((sc / 100000) / 100000) % 100000)) k))))), (b2, .inl (tc 0, 60, .inl ((fun k => nI ((k_win g ga 0 0 60) k))))), (b3, .inl (tc 0, 840, .inl ((fun k => nI (sv k))))), (b4, .inl (tc 0, 120, .inl ((fun k => nI (sl k))))), (b5, .inl (tc 3, 2, .inl ((fun k => bI (iz k))))), (b6, .inl (tc 2, 100, .inl ((fun k => byI (u k)))))]) ⟨hx, hb, hml, hown, hts⟩ hM hS hP hD (c7_succeeds l D tc zb b b1 (fun k9 => match k9 with | 0 => .int (nI 0) | 2 => .ref b2 | 3 => .ref b3 | 4 => .int (nI n) | 5 => .ref b4 | 6 => .ref b5 | 7 => .ref b6 | 8 => .int (nI ln) | _ => .null) g (((sc / 100000) / 100000) % 100000) hk (by omega)) gX7_runScript_X7_succeeds rfl (by decide +kernel) ⟨Nat.le_of_ble_eq_true rfl, Nat.le_of_ble_eq_true rfl⟩ [0, 1] rfl rfl [(true, 0), (true, 1), (false, 2), (false, 3), (false, 4), (false, 5), (false, 6)] rfl rfl rfl (va_recv hM.1 hP (ci := 6) (q0 := 0) rfl rfl) rfl hl.1 rfl (Nat.le_of_ble_eq_true rfl) dX7_runScript_122 ⟨Nat.le_refl _, Nat.le_refl _⟩ (fun H locs hP hD hS => ?_)
    refine W.eq (g2 := F0 m 125 ls [.int (bI (k_sg g (((sc / 100000) / 100000) % 100000)))]) rfl ?_
    refine ln_if_eqB (tgt := 132) hx hb dX7_runScript_125 (by decide) (fun h4 => ?_) (fun h4 => ?_)
    · refine lv_iload hx hb dX7_runScript_132 (lv_at hl 2 rfl) ?_
      refine lv_istore (lv' := [(6, .int (nI 0)), (10, .int (nI 3)), (8, .long (lN ((sc / 100000) / 100000))), (7, .int (nI 0)), (4, .long (999999999999999)), (0, .ref b), (1, .int (nI 3)), (2, .long (lN sc))]) hx hb dX7_runScript_134 hl (by decide) rfl (fun ls hl => ?_)
      refine lv_iinc (v := (nI 1)) (lv' := [(7, .int (nI 1)), (6, .int (nI 0)), (10, .int (nI 3)), (8, .long (lN ((sc / 100000) / 100000))), (4, .long (999999999999999)), (0, .ref b), (1, .int (nI 3)), (2, .long (lN sc))]) hx hb dX7_runScript_136 hl (k := 3) rfl (by decide) (by decide) rfl (fun ls hl => ?_)
      refine lv_goto (tgt := 73) hx hb dX7_runScript_139 (by decide) ?_
      refine lv_iload hx hb dX7_runScript_73 (lv_at hl 0 rfl) ?_
      refine lv_iload_n hx hb dX7_runScript_75 rfl (lv_at hl 6 rfl) ?_
      refine lv_icmp_ge (tgt := 142) hx hb dX7_runScript_76 (by decide) (fun h9 => False.elim (by revert h9; decide)) (fun _ => ?_)
      refine lv_iload hx hb dX7_runScript_79 (lv_at hl 1 rfl) ?_
      refine lv_iconst (v := (-1)) hx hb dX7_runScript_81 (by decide) ?_
      refine lv_icmp_ne (tgt := 142) hx hb dX7_runScript_82 (by decide) (fun _ => ?_) (fun h9 => False.elim (by revert h9; decide))
      have hP : va_P D vwCl [(b, .inr (6, [.int (nI 0), .ref b1, .ref b2, .ref b3, .int (nI n), .ref b4, .ref b5, .ref b6, .int (nI ln)])), (b1, .inl (tc 0, 60, .inl ((fun k => nI (((m_rn g (k_grs 3 sc))) k))))), (b2, .inl (tc 0, 60, .inl ((fun k => nI (((k_win g ga 0 0 60)) k))))), (b3, .inl (tc 0, 840, .inl ((fun k => nI (sv k))))), (b4, .inl (tc 0, 120, .inl ((fun k => nI (sl k))))), (b5, .inl (tc 3, 2, .inl ((fun k => bI (iz k))))), (b6, .inl (tc 2, 100, .inl ((fun k => byI (u k)))))] H := (by (have er : m_rn g (k_grs 3 sc) = (m_sg g (((sc / 100000) / 100000) % 100000)) := by simp [m_rn, k_grs, h4]); rw [er]; exact hP)
      have hD : va_D A [(b, .inr (6, [.int (nI 0), .ref b1, .ref b2, .ref b3, .int (nI n), .ref b4, .ref b5, .ref b6, .int (nI ln)])), (b1, .inl (tc 0, 60, .inl ((fun k => nI (((m_rn g (k_grs 3 sc))) k))))), (b2, .inl (tc 0, 60, .inl ((fun k => nI (((k_win g ga 0 0 60)) k))))), (b3, .inl (tc 0, 840, .inl ((fun k => nI (sv k))))), (b4, .inl (tc 0, 120, .inl ((fun k => nI (sl k))))), (b5, .inl (tc 3, 2, .inl ((fun k => bI (iz k))))), (b6, .inl (tc 2, 100, .inl ((fun k => byI (u k)))))] := va_D_addr hD rfl
      refine lv_aload_n hx hb dX7_runScript_142 rfl (lv_at hl 5 rfl) ?_
      refine ip_V (C := RX7) (n := 0) (wl' := [(b, .inr (6, [.int (nI 0), .ref b1, .ref b2, .ref b3, .int (nI n), .ref b4, .ref b5, .ref b6, .int (nI ln)])), (b1, .inl (tc 0, 60, .inl ((fun k => nI ((k_win (((k_win g ga 0 0 60))) (((m_rn g (k_grs 3 sc)))) 0 0 60) k))))), (b2, .inl (tc 0, 60, .inl ((fun k => nI ((((k_win g ga 0 0 60))) k))))), (b3, .inl (tc 0, 840, .inl ((fun k => nI (sv k))))), (b4, .inl (tc 0, 120, .inl ((fun k => nI (sl k))))), (b5, .inl (tc 3, 2, .inl ((fun k => bI (iz k))))), (b6, .inl (tc 2, 100, .inl ((fun k => byI (u k)))))]) ⟨hx, hb, hml, hown, hts⟩ hM hS hP hD (c7_putBack l D tc zb b b1 b2 (fun k9 => match k9 with | 0 => .int (nI 0) | 3 => .ref b3 | 4 => .int (nI n) | 5 => .ref b4 | 6 => .ref b5 | 7 => .ref b6 | 8 => .int (nI ln) | _ => .null) (((m_rn g (k_grs 3 sc)))) (((k_win g ga 0 0 60)))) gX7_runScript_X7_putBack rfl (by decide +kernel) ⟨Nat.le_of_ble_eq_true rfl, Nat.le_of_ble_eq_true rfl⟩ [0, 1, 2] rfl rfl [(true, 0), (true, 1), (true, 2), (false, 3), (false, 4), (false, 5), (false, 6)] rfl rfl rfl (va_recv hM.1 hP (ci := 6) (q0 := 0) rfl rfl) rfl hl.1 rfl (Nat.le_of_ble_eq_true rfl) dX7_runScript_143 ⟨Nat.le_refl _, Nat.le_refl _⟩ (fun H locs hP hD hS => ?_)
      refine W.eq (g2 := F0 m 146 ls []) rfl ?_
      refine lv_iload hx hb dX7_runScript_146 (lv_at hl 1 rfl) ?_
      exact ip_iret hx hb hr hlk dX7_runScript_148 hS (show oI (some 0) = _ from congrArg oI (by simp [k_rn, k_grs, h4])) (by exact hP)
    · refine lv_iconst (v := (-1)) hx hb dX7_runScript_128 (by decide) ?_
      refine lv_goto (tgt := 134) hx hb dX7_runScript_129 (by decide) ?_
      refine lv_istore (lv' := [(6, .int (-1)), (10, .int (nI 3)), (8, .long (lN ((sc / 100000) / 100000))), (7, .int (nI 0)), (4, .long (999999999999999)), (0, .ref b), (1, .int (nI 3)), (2, .long (lN sc))]) hx hb dX7_runScript_134 hl (by decide) rfl (fun ls hl => ?_)
      refine lv_iinc (v := (nI 1)) (lv' := [(7, .int (nI 1)), (6, .int (-1)), (10, .int (nI 3)), (8, .long (lN ((sc / 100000) / 100000))), (4, .long (999999999999999)), (0, .ref b), (1, .int (nI 3)), (2, .long (lN sc))]) hx hb dX7_runScript_136 hl (k := 3) rfl (by decide) (by decide) rfl (fun ls hl => ?_)
      refine lv_goto (tgt := 73) hx hb dX7_runScript_139 (by decide) ?_
      refine lv_iload hx hb dX7_runScript_73 (lv_at hl 0 rfl) ?_
      refine lv_iload_n hx hb dX7_runScript_75 rfl (lv_at hl 6 rfl) ?_
      refine lv_icmp_ge (tgt := 142) hx hb dX7_runScript_76 (by decide) (fun h9 => False.elim (by revert h9; decide)) (fun _ => ?_)
      refine lv_iload hx hb dX7_runScript_79 (lv_at hl 1 rfl) ?_
      refine lv_iconst (v := (-1)) hx hb dX7_runScript_81 (by decide) ?_
      refine lv_icmp_ne (tgt := 142) hx hb dX7_runScript_82 (by decide) (fun h9 => False.elim (by revert h9; decide)) (fun _ => ?_)
      refine lv_lload_n hx hb dX7_runScript_85 rfl (lv_at hl 7 rfl) ?_
      refine lv_lstore (lv' := [(8, .long (lN sc)), (7, .int (nI 1)), (6, .int (-1)), (10, .int (nI 3)), (4, .long (999999999999999)), (0, .ref b), (1, .int (nI 3)), (2, .long (lN sc))]) hx hb dX7_runScript_86 hl (by decide) rfl (fun ls hl => ?_)
      refine lv_iload hx hb dX7_runScript_88 (lv_at hl 1 rfl) ?_
      refine lv_iconst (v := (nI 1)) hx hb dX7_runScript_90 (by decide) ?_
      refine lv_iadd hx hb dX7_runScript_91 ?_
      refine ln_eq (x' := (nI 2)) (by decide) ?_
      refine lv_istore (lv' := [(10, .int (nI 2)), (8, .long (lN sc)), (7, .int (nI 1)), (6, .int (-1)), (4, .long (999999999999999)), (0, .ref b), (1, .int (nI 3)), (2, .long (lN sc))]) hx hb dX7_runScript_92 hl (by decide) rfl (fun ls hl => ?_)
      refine lv_iload hx hb dX7_runScript_94 (lv_at hl 0 rfl) ?_
      refine lv_iload_n hx hb dX7_runScript_96 rfl (lv_at hl 6 rfl) ?_
      refine lv_icmp_ge (tgt := 114) hx hb dX7_runScript_97 (by decide) (fun h9 => False.elim (by revert h9; decide)) (fun _ => ?_)
      refine lv_lload hx hb dX7_runScript_100 (lv_at hl 1 rfl) ?_
      refine lv_ldc2 (v := (100000 : Int64)) hx hb hown (hts (.constantLong RX7 200 (100000)) (by decide +kernel)) dX7_runScript_102 ?_
      refine ln_ldiv (x := sc) (y := 100000) hx hb dX7_runScript_105 (by omega) (by decide) (by decide) ?_
      refine lv_lstore (lv' := [(8, .long (lN (sc / 100000))), (10, .int (nI 2)), (7, .int (nI 1)), (6, .int (-1)), (4, .long (999999999999999)), (0, .ref b), (1, .int (nI 3)), (2, .long (lN sc))]) hx hb dX7_runScript_106 hl (by decide) rfl (fun ls hl => ?_)
      refine lv_iinc (v := (nI 3)) (lv' := [(10, .int (nI 3)), (8, .long (lN (sc / 100000))), (7, .int (nI 1)), (6, .int (-1)), (4, .long (999999999999999)), (0, .ref b), (1, .int (nI 3)), (2, .long (lN sc))]) hx hb dX7_runScript_108 hl (k := 1) rfl (by decide) (by decide) rfl (fun ls hl => ?_)
      refine lv_goto (tgt := 94) hx hb dX7_runScript_111 (by decide) ?_
      refine lv_iload hx hb dX7_runScript_94 (lv_at hl 0 rfl) ?_
      refine lv_iload_n hx hb dX7_runScript_96 rfl (lv_at hl 6 rfl) ?_
      refine lv_icmp_ge (tgt := 114) hx hb dX7_runScript_97 (by decide) (fun _ => ?_) (fun h9 => False.elim (by revert h9; decide))
      refine lv_aload_n hx hb dX7_runScript_114 rfl (lv_at hl 5 rfl) ?_
      refine lv_lload hx hb dX7_runScript_115 (lv_at hl 1 rfl) ?_
      refine lv_ldc2 (v := (100000 : Int64)) hx hb hown (hts (.constantLong RX7 200 (100000)) (by decide +kernel)) dX7_runScript_117 ?_
      refine ln_lrem (x := (sc / 100000)) (y := 100000) hx hb dX7_runScript_120 (by omega) (by decide) (by decide) ?_
      refine lv_l2i (v := nI ((sc / 100000) % 100000)) hx hb dX7_runScript_121 (lN_i _) ?_
      refine ip_V (C := RX7) (n := 1) (wl' := [(b, .inr (6, [.int (nI 0), .ref b1, .ref b2, .ref b3, .int (nI n), .ref b4, .ref b5, .ref b6, .int (nI ln)])), (b1, .inl (tc 0, 60, .inl ((fun k => nI ((m_sg ((m_sg g (((sc / 100000) / 100000) % 100000))) ((sc / 100000) % 100000)) k))))), (b2, .inl (tc 0, 60, .inl ((fun k => nI ((k_win g ga 0 0 60) k))))), (b3, .inl (tc 0, 840, .inl ((fun k => nI (sv k))))), (b4, .inl (tc 0, 120, .inl ((fun k => nI (sl k))))), (b5, .inl (tc 3, 2, .inl ((fun k => bI (iz k))))), (b6, .inl (tc 2, 100, .inl ((fun k => byI (u k)))))]) ⟨hx, hb, hml, hown, hts⟩ hM hS hP hD (c7_succeeds l D tc zb b b1 (fun k9 => match k9 with | 0 => .int (nI 0) | 2 => .ref b2 | 3 => .ref b3 | 4 => .int (nI n) | 5 => .ref b4 | 6 => .ref b5 | 7 => .ref b6 | 8 => .int (nI ln) | _ => .null) ((m_sg g (((sc / 100000) / 100000) % 100000))) ((sc / 100000) % 100000) ((ok_sg hk _)) (by omega)) gX7_runScript_X7_succeeds rfl (by decide +kernel) ⟨Nat.le_of_ble_eq_true rfl, Nat.le_of_ble_eq_true rfl⟩ [0, 1] rfl rfl [(true, 0), (true, 1), (false, 2), (false, 3), (false, 4), (false, 5), (false, 6)] rfl rfl rfl (va_recv hM.1 hP (ci := 6) (q0 := 0) rfl rfl) rfl hl.1 rfl (Nat.le_of_ble_eq_true rfl) dX7_runScript_122 ⟨Nat.le_refl _, Nat.le_refl _⟩ (fun H locs hP hD hS => ?_)
      refine W.eq (g2 := F0 m 125 ls [.int (bI (k_sg ((m_sg g (((sc / 100000) / 100000) % 100000))) ((sc / 100000) % 100000)))]) rfl ?_
      refine ln_if_eqB (tgt := 132) hx hb dX7_runScript_125 (by decide) (fun h5 => ?_) (fun h5 => ?_)
      · refine lv_iload hx hb dX7_runScript_132 (lv_at hl 2 rfl) ?_
        refine lv_istore (lv' := [(6, .int (nI 1)), (10, .int (nI 3)), (8, .long (lN (sc / 100000))), (7, .int (nI 1)), (4, .long (999999999999999)), (0, .ref b), (1, .int (nI 3)), (2, .long (lN sc))]) hx hb dX7_runScript_134 hl (by decide) rfl (fun ls hl => ?_)
        refine lv_iinc (v := (nI 2)) (lv' := [(7, .int (nI 2)), (6, .int (nI 1)), (10, .int (nI 3)), (8, .long (lN (sc / 100000))), (4, .long (999999999999999)), (0, .ref b), (1, .int (nI 3)), (2, .long (lN sc))]) hx hb dX7_runScript_136 hl (k := 3) rfl (by decide) (by decide) rfl (fun ls hl => ?_)
        refine lv_goto (tgt := 73) hx hb dX7_runScript_139 (by decide) ?_
        refine lv_iload hx hb dX7_runScript_73 (lv_at hl 0 rfl) ?_
        refine lv_iload_n hx hb dX7_runScript_75 rfl (lv_at hl 6 rfl) ?_
        refine lv_icmp_ge (tgt := 142) hx hb dX7_runScript_76 (by decide) (fun h9 => False.elim (by revert h9; decide)) (fun _ => ?_)
        refine lv_iload hx hb dX7_runScript_79 (lv_at hl 1 rfl) ?_
        refine lv_iconst (v := (-1)) hx hb dX7_runScript_81 (by decide) ?_
        refine lv_icmp_ne (tgt := 142) hx hb dX7_runScript_82 (by decide) (fun _ => ?_) (fun h9 => False.elim (by revert h9; decide))
        have hP : va_P D vwCl [(b, .inr (6, [.int (nI 0), .ref b1, .ref b2, .ref b3, .int (nI n), .ref b4, .ref b5, .ref b6, .int (nI ln)])), (b1, .inl (tc 0, 60, .inl ((fun k => nI (((m_rn g (k_grs 3 sc))) k))))), (b2, .inl (tc 0, 60, .inl ((fun k => nI (((k_win g ga 0 0 60)) k))))), (b3, .inl (tc 0, 840, .inl ((fun k => nI (sv k))))), (b4, .inl (tc 0, 120, .inl ((fun k => nI (sl k))))), (b5, .inl (tc 3, 2, .inl ((fun k => bI (iz k))))), (b6, .inl (tc 2, 100, .inl ((fun k => byI (u k)))))] H := (by (have er : m_rn g (k_grs 3 sc) = (m_sg ((m_sg g (((sc / 100000) / 100000) % 100000))) ((sc / 100000) % 100000)) := by simp [m_rn, k_grs, h4, h5]); rw [er]; exact hP)
        have hD : va_D A [(b, .inr (6, [.int (nI 0), .ref b1, .ref b2, .ref b3, .int (nI n), .ref b4, .ref b5, .ref b6, .int (nI ln)])), (b1, .inl (tc 0, 60, .inl ((fun k => nI (((m_rn g (k_grs 3 sc))) k))))), (b2, .inl (tc 0, 60, .inl ((fun k => nI (((k_win g ga 0 0 60)) k))))), (b3, .inl (tc 0, 840, .inl ((fun k => nI (sv k))))), (b4, .inl (tc 0, 120, .inl ((fun k => nI (sl k))))), (b5, .inl (tc 3, 2, .inl ((fun k => bI (iz k))))), (b6, .inl (tc 2, 100, .inl ((fun k => byI (u k)))))] := va_D_addr hD rfl
        refine lv_aload_n hx hb dX7_runScript_142 rfl (lv_at hl 5 rfl) ?_
        refine ip_V (C := RX7) (n := 0) (wl' := [(b, .inr (6, [.int (nI 0), .ref b1, .ref b2, .ref b3, .int (nI n), .ref b4, .ref b5, .ref b6, .int (nI ln)])), (b1, .inl (tc 0, 60, .inl ((fun k => nI ((k_win (((k_win g ga 0 0 60))) (((m_rn g (k_grs 3 sc)))) 0 0 60) k))))), (b2, .inl (tc 0, 60, .inl ((fun k => nI ((((k_win g ga 0 0 60))) k))))), (b3, .inl (tc 0, 840, .inl ((fun k => nI (sv k))))), (b4, .inl (tc 0, 120, .inl ((fun k => nI (sl k))))), (b5, .inl (tc 3, 2, .inl ((fun k => bI (iz k))))), (b6, .inl (tc 2, 100, .inl ((fun k => byI (u k)))))]) ⟨hx, hb, hml, hown, hts⟩ hM hS hP hD (c7_putBack l D tc zb b b1 b2 (fun k9 => match k9 with | 0 => .int (nI 0) | 3 => .ref b3 | 4 => .int (nI n) | 5 => .ref b4 | 6 => .ref b5 | 7 => .ref b6 | 8 => .int (nI ln) | _ => .null) (((m_rn g (k_grs 3 sc)))) (((k_win g ga 0 0 60)))) gX7_runScript_X7_putBack rfl (by decide +kernel) ⟨Nat.le_of_ble_eq_true rfl, Nat.le_of_ble_eq_true rfl⟩ [0, 1, 2] rfl rfl [(true, 0), (true, 1), (true, 2), (false, 3), (false, 4), (false, 5), (false, 6)] rfl rfl rfl (va_recv hM.1 hP (ci := 6) (q0 := 0) rfl rfl) rfl hl.1 rfl (Nat.le_of_ble_eq_true rfl) dX7_runScript_143 ⟨Nat.le_refl _, Nat.le_refl _⟩ (fun H locs hP hD hS => ?_)
        refine W.eq (g2 := F0 m 146 ls []) rfl ?_
        refine lv_iload hx hb dX7_runScript_146 (lv_at hl 1 rfl) ?_
        exact ip_iret hx hb hr hlk dX7_runScript_148 hS (show oI (some 1) = _ from congrArg oI (by simp [k_rn, k_grs, h4, h5])) (by exact hP)
      · refine lv_iconst (v := (-1)) hx hb dX7_runScript_128 (by decide) ?_
        refine lv_goto (tgt := 134) hx hb dX7_runScript_129 (by decide) ?_
        refine lv_istore (lv' := [(6, .int (-1)), (10, .int (nI 3)), (8, .long (lN (sc / 100000))), (7, .int (nI 1)), (4, .long (999999999999999)), (0, .ref b), (1, .int (nI 3)), (2, .long (lN sc))]) hx hb dX7_runScript_134 hl (by decide) rfl (fun ls hl => ?_)
        refine lv_iinc (v := (nI 2)) (lv' := [(7, .int (nI 2)), (6, .int (-1)), (10, .int (nI 3)), (8, .long (lN (sc / 100000))), (4, .long (999999999999999)), (0, .ref b), (1, .int (nI 3)), (2, .long (lN sc))]) hx hb dX7_runScript_136 hl (k := 3) rfl (by decide) (by decide) rfl (fun ls hl => ?_)
        refine lv_goto (tgt := 73) hx hb dX7_runScript_139 (by decide) ?_
        refine lv_iload hx hb dX7_runScript_73 (lv_at hl 0 rfl) ?_
        refine lv_iload_n hx hb dX7_runScript_75 rfl (lv_at hl 6 rfl) ?_
        refine lv_icmp_ge (tgt := 142) hx hb dX7_runScript_76 (by decide) (fun h9 => False.elim (by revert h9; decide)) (fun _ => ?_)
        refine lv_iload hx hb dX7_runScript_79 (lv_at hl 1 rfl) ?_
        refine lv_iconst (v := (-1)) hx hb dX7_runScript_81 (by decide) ?_
        refine lv_icmp_ne (tgt := 142) hx hb dX7_runScript_82 (by decide) (fun h9 => False.elim (by revert h9; decide)) (fun _ => ?_)
        refine lv_lload_n hx hb dX7_runScript_85 rfl (lv_at hl 7 rfl) ?_
        refine lv_lstore (lv' := [(8, .long (lN sc)), (7, .int (nI 2)), (6, .int (-1)), (10, .int (nI 3)), (4, .long (999999999999999)), (0, .ref b), (1, .int (nI 3)), (2, .long (lN sc))]) hx hb dX7_runScript_86 hl (by decide) rfl (fun ls hl => ?_)
        refine lv_iload hx hb dX7_runScript_88 (lv_at hl 1 rfl) ?_
        refine lv_iconst (v := (nI 1)) hx hb dX7_runScript_90 (by decide) ?_
        refine lv_iadd hx hb dX7_runScript_91 ?_
        refine ln_eq (x' := (nI 3)) (by decide) ?_
        refine lv_istore (lv' := [(10, .int (nI 3)), (8, .long (lN sc)), (7, .int (nI 2)), (6, .int (-1)), (4, .long (999999999999999)), (0, .ref b), (1, .int (nI 3)), (2, .long (lN sc))]) hx hb dX7_runScript_92 hl (by decide) rfl (fun ls hl => ?_)
        refine lv_iload hx hb dX7_runScript_94 (lv_at hl 0 rfl) ?_
        refine lv_iload_n hx hb dX7_runScript_96 rfl (lv_at hl 6 rfl) ?_
        refine lv_icmp_ge (tgt := 114) hx hb dX7_runScript_97 (by decide) (fun _ => ?_) (fun h9 => False.elim (by revert h9; decide))
        refine lv_aload_n hx hb dX7_runScript_114 rfl (lv_at hl 5 rfl) ?_
        refine lv_lload hx hb dX7_runScript_115 (lv_at hl 1 rfl) ?_
        refine lv_ldc2 (v := (100000 : Int64)) hx hb hown (hts (.constantLong RX7 200 (100000)) (by decide +kernel)) dX7_runScript_117 ?_
        refine ln_lrem (x := sc) (y := 100000) hx hb dX7_runScript_120 (by omega) (by decide) (by decide) ?_
        refine lv_l2i (v := nI (sc % 100000)) hx hb dX7_runScript_121 (lN_i _) ?_
        refine ip_V (C := RX7) (n := 1) (wl' := [(b, .inr (6, [.int (nI 0), .ref b1, .ref b2, .ref b3, .int (nI n), .ref b4, .ref b5, .ref b6, .int (nI ln)])), (b1, .inl (tc 0, 60, .inl ((fun k => nI ((m_sg ((m_sg ((m_sg g (((sc / 100000) / 100000) % 100000))) ((sc / 100000) % 100000))) (sc % 100000)) k))))), (b2, .inl (tc 0, 60, .inl ((fun k => nI ((k_win g ga 0 0 60) k))))), (b3, .inl (tc 0, 840, .inl ((fun k => nI (sv k))))), (b4, .inl (tc 0, 120, .inl ((fun k => nI (sl k))))), (b5, .inl (tc 3, 2, .inl ((fun k => bI (iz k))))), (b6, .inl (tc 2, 100, .inl ((fun k => byI (u k)))))]) ⟨hx, hb, hml, hown, hts⟩ hM hS hP hD (c7_succeeds l D tc zb b b1 (fun k9 => match k9 with | 0 => .int (nI 0) | 2 => .ref b2 | 3 => .ref b3 | 4 => .int (nI n) | 5 => .ref b4 | 6 => .ref b5 | 7 => .ref b6 | 8 => .int (nI ln) | _ => .null) ((m_sg ((m_sg g (((sc / 100000) / 100000) % 100000))) ((sc / 100000) % 100000))) (sc % 100000) ((ok_sg ((ok_sg hk _)) _)) (by omega)) gX7_runScript_X7_succeeds rfl (by decide +kernel) ⟨Nat.le_of_ble_eq_true rfl, Nat.le_of_ble_eq_true rfl⟩ [0, 1] rfl rfl [(true, 0), (true, 1), (false, 2), (false, 3), (false, 4), (false, 5), (false, 6)] rfl rfl rfl (va_recv hM.1 hP (ci := 6) (q0 := 0) rfl rfl) rfl hl.1 rfl (Nat.le_of_ble_eq_true rfl) dX7_runScript_122 ⟨Nat.le_refl _, Nat.le_refl _⟩ (fun H locs hP hD hS => ?_)
        refine W.eq (g2 := F0 m 125 ls [.int (bI (k_sg ((m_sg ((m_sg g (((sc / 100000) / 100000) % 100000))) ((sc / 100000) % 100000))) (sc % 100000)))]) rfl ?_
        refine ln_if_eqB (tgt := 132) hx hb dX7_runScript_125 (by decide) (fun h6 => ?_) (fun h6 => ?_)
        · refine lv_iload hx hb dX7_runScript_132 (lv_at hl 2 rfl) ?_
          refine lv_istore (lv' := [(6, .int (nI 2)), (10, .int (nI 3)), (8, .long (lN sc)), (7, .int (nI 2)), (4, .long (999999999999999)), (0, .ref b), (1, .int (nI 3)), (2, .long (lN sc))]) hx hb dX7_runScript_134 hl (by decide) rfl (fun ls hl => ?_)
          refine lv_iinc (v := (nI 3)) (lv' := [(7, .int (nI 3)), (6, .int (nI 2)), (10, .int (nI 3)), (8, .long (lN sc)), (4, .long (999999999999999)), (0, .ref b), (1, .int (nI 3)), (2, .long (lN sc))]) hx hb dX7_runScript_136 hl (k := 3) rfl (by decide) (by decide) rfl (fun ls hl => ?_)
          refine lv_goto (tgt := 73) hx hb dX7_runScript_139 (by decide) ?_
          refine lv_iload hx hb dX7_runScript_73 (lv_at hl 0 rfl) ?_
          refine lv_iload_n hx hb dX7_runScript_75 rfl (lv_at hl 6 rfl) ?_
          refine lv_icmp_ge (tgt := 142) hx hb dX7_runScript_76 (by decide) (fun _ => ?_) (fun h9 => False.elim (by revert h9; decide))
          have hP : va_P D vwCl [(b, .inr (6, [.int (nI 0), .ref b1, .ref b2, .ref b3, .int (nI n), .ref b4, .ref b5, .ref b6, .int (nI ln)])), (b1, .inl (tc 0, 60, .inl ((fun k => nI (((m_rn g (k_grs 3 sc))) k))))), (b2, .inl (tc 0, 60, .inl ((fun k => nI (((k_win g ga 0 0 60)) k))))), (b3, .inl (tc 0, 840, .inl ((fun k => nI (sv k))))), (b4, .inl (tc 0, 120, .inl ((fun k => nI (sl k))))), (b5, .inl (tc 3, 2, .inl ((fun k => bI (iz k))))), (b6, .inl (tc 2, 100, .inl ((fun k => byI (u k)))))] H := (by (have er : m_rn g (k_grs 3 sc) = (m_sg ((m_sg ((m_sg g (((sc / 100000) / 100000) % 100000))) ((sc / 100000) % 100000))) (sc % 100000)) := by simp [m_rn, k_grs, h4, h5, h6]); rw [er]; exact hP)
          have hD : va_D A [(b, .inr (6, [.int (nI 0), .ref b1, .ref b2, .ref b3, .int (nI n), .ref b4, .ref b5, .ref b6, .int (nI ln)])), (b1, .inl (tc 0, 60, .inl ((fun k => nI (((m_rn g (k_grs 3 sc))) k))))), (b2, .inl (tc 0, 60, .inl ((fun k => nI (((k_win g ga 0 0 60)) k))))), (b3, .inl (tc 0, 840, .inl ((fun k => nI (sv k))))), (b4, .inl (tc 0, 120, .inl ((fun k => nI (sl k))))), (b5, .inl (tc 3, 2, .inl ((fun k => bI (iz k))))), (b6, .inl (tc 2, 100, .inl ((fun k => byI (u k)))))] := va_D_addr hD rfl
          refine lv_aload_n hx hb dX7_runScript_142 rfl (lv_at hl 5 rfl) ?_
          refine ip_V (C := RX7) (n := 0) (wl' := [(b, .inr (6, [.int (nI 0), .ref b1, .ref b2, .ref b3, .int (nI n), .ref b4, .ref b5, .ref b6, .int (nI ln)])), (b1, .inl (tc 0, 60, .inl ((fun k => nI ((k_win (((k_win g ga 0 0 60))) (((m_rn g (k_grs 3 sc)))) 0 0 60) k))))), (b2, .inl (tc 0, 60, .inl ((fun k => nI ((((k_win g ga 0 0 60))) k))))), (b3, .inl (tc 0, 840, .inl ((fun k => nI (sv k))))), (b4, .inl (tc 0, 120, .inl ((fun k => nI (sl k))))), (b5, .inl (tc 3, 2, .inl ((fun k => bI (iz k))))), (b6, .inl (tc 2, 100, .inl ((fun k => byI (u k)))))]) ⟨hx, hb, hml, hown, hts⟩ hM hS hP hD (c7_putBack l D tc zb b b1 b2 (fun k9 => match k9 with | 0 => .int (nI 0) | 3 => .ref b3 | 4 => .int (nI n) | 5 => .ref b4 | 6 => .ref b5 | 7 => .ref b6 | 8 => .int (nI ln) | _ => .null) (((m_rn g (k_grs 3 sc)))) (((k_win g ga 0 0 60)))) gX7_runScript_X7_putBack rfl (by decide +kernel) ⟨Nat.le_of_ble_eq_true rfl, Nat.le_of_ble_eq_true rfl⟩ [0, 1, 2] rfl rfl [(true, 0), (true, 1), (true, 2), (false, 3), (false, 4), (false, 5), (false, 6)] rfl rfl rfl (va_recv hM.1 hP (ci := 6) (q0 := 0) rfl rfl) rfl hl.1 rfl (Nat.le_of_ble_eq_true rfl) dX7_runScript_143 ⟨Nat.le_refl _, Nat.le_refl _⟩ (fun H locs hP hD hS => ?_)
          refine W.eq (g2 := F0 m 146 ls []) rfl ?_
          refine lv_iload hx hb dX7_runScript_146 (lv_at hl 1 rfl) ?_
          exact ip_iret hx hb hr hlk dX7_runScript_148 hS (show oI (some 2) = _ from congrArg oI (by simp [k_rn, k_grs, h4, h5, h6])) (by exact hP)
        · refine lv_iconst (v := (-1)) hx hb dX7_runScript_128 (by decide) ?_
          refine lv_goto (tgt := 134) hx hb dX7_runScript_129 (by decide) ?_
          refine lv_istore (lv' := [(6, .int (-1)), (10, .int (nI 3)), (8, .long (lN sc)), (7, .int (nI 2)), (4, .long (999999999999999)), (0, .ref b), (1, .int (nI 3)), (2, .long (lN sc))]) hx hb dX7_runScript_134 hl (by decide) rfl (fun ls hl => ?_)
          refine lv_iinc (v := (nI 3)) (lv' := [(7, .int (nI 3)), (6, .int (-1)), (10, .int (nI 3)), (8, .long (lN sc)), (4, .long (999999999999999)), (0, .ref b), (1, .int (nI 3)), (2, .long (lN sc))]) hx hb dX7_runScript_136 hl (k := 3) rfl (by decide) (by decide) rfl (fun ls hl => ?_)
          refine lv_goto (tgt := 73) hx hb dX7_runScript_139 (by decide) ?_
          refine lv_iload hx hb dX7_runScript_73 (lv_at hl 0 rfl) ?_
          refine lv_iload_n hx hb dX7_runScript_75 rfl (lv_at hl 6 rfl) ?_
          refine lv_icmp_ge (tgt := 142) hx hb dX7_runScript_76 (by decide) (fun _ => ?_) (fun h9 => False.elim (by revert h9; decide))
          have hP : va_P D vwCl [(b, .inr (6, [.int (nI 0), .ref b1, .ref b2, .ref b3, .int (nI n), .ref b4, .ref b5, .ref b6, .int (nI ln)])), (b1, .inl (tc 0, 60, .inl ((fun k => nI (((m_rn g (k_grs 3 sc))) k))))), (b2, .inl (tc 0, 60, .inl ((fun k => nI (((k_win g ga 0 0 60)) k))))), (b3, .inl (tc 0, 840, .inl ((fun k => nI (sv k))))), (b4, .inl (tc 0, 120, .inl ((fun k => nI (sl k))))), (b5, .inl (tc 3, 2, .inl ((fun k => bI (iz k))))), (b6, .inl (tc 2, 100, .inl ((fun k => byI (u k)))))] H := (by (have er : m_rn g (k_grs 3 sc) = (m_sg ((m_sg ((m_sg g (((sc / 100000) / 100000) % 100000))) ((sc / 100000) % 100000))) (sc % 100000)) := by simp [m_rn, k_grs, h4, h5, h6]); rw [er]; exact hP)
          have hD : va_D A [(b, .inr (6, [.int (nI 0), .ref b1, .ref b2, .ref b3, .int (nI n), .ref b4, .ref b5, .ref b6, .int (nI ln)])), (b1, .inl (tc 0, 60, .inl ((fun k => nI (((m_rn g (k_grs 3 sc))) k))))), (b2, .inl (tc 0, 60, .inl ((fun k => nI (((k_win g ga 0 0 60)) k))))), (b3, .inl (tc 0, 840, .inl ((fun k => nI (sv k))))), (b4, .inl (tc 0, 120, .inl ((fun k => nI (sl k))))), (b5, .inl (tc 3, 2, .inl ((fun k => bI (iz k))))), (b6, .inl (tc 2, 100, .inl ((fun k => byI (u k)))))] := va_D_addr hD rfl
          refine lv_aload_n hx hb dX7_runScript_142 rfl (lv_at hl 5 rfl) ?_
          refine ip_V (C := RX7) (n := 0) (wl' := [(b, .inr (6, [.int (nI 0), .ref b1, .ref b2, .ref b3, .int (nI n), .ref b4, .ref b5, .ref b6, .int (nI ln)])), (b1, .inl (tc 0, 60, .inl ((fun k => nI ((k_win (((k_win g ga 0 0 60))) (((m_rn g (k_grs 3 sc)))) 0 0 60) k))))), (b2, .inl (tc 0, 60, .inl ((fun k => nI ((((k_win g ga 0 0 60))) k))))), (b3, .inl (tc 0, 840, .inl ((fun k => nI (sv k))))), (b4, .inl (tc 0, 120, .inl ((fun k => nI (sl k))))), (b5, .inl (tc 3, 2, .inl ((fun k => bI (iz k))))), (b6, .inl (tc 2, 100, .inl ((fun k => byI (u k)))))]) ⟨hx, hb, hml, hown, hts⟩ hM hS hP hD (c7_putBack l D tc zb b b1 b2 (fun k9 => match k9 with | 0 => .int (nI 0) | 3 => .ref b3 | 4 => .int (nI n) | 5 => .ref b4 | 6 => .ref b5 | 7 => .ref b6 | 8 => .int (nI ln) | _ => .null) (((m_rn g (k_grs 3 sc)))) (((k_win g ga 0 0 60)))) gX7_runScript_X7_putBack rfl (by decide +kernel) ⟨Nat.le_of_ble_eq_true rfl, Nat.le_of_ble_eq_true rfl⟩ [0, 1, 2] rfl rfl [(true, 0), (true, 1), (true, 2), (false, 3), (false, 4), (false, 5), (false, 6)] rfl rfl rfl (va_recv hM.1 hP (ci := 6) (q0 := 0) rfl rfl) rfl hl.1 rfl (Nat.le_of_ble_eq_true rfl) dX7_runScript_143 ⟨Nat.le_refl _, Nat.le_refl _⟩ (fun H locs hP hD hS => ?_)
          refine W.eq (g2 := F0 m 146 ls []) rfl ?_
          refine lv_iload hx hb dX7_runScript_146 (lv_at hl 1 rfl) ?_
          exact ip_iret hx hb hr hlk dX7_runScript_148 hS (show oI none = _ from congrArg oI (by simp [k_rn, k_grs, h4, h5, h6])) (by exact hP)
set_option maxHeartbeats 4000000 in
set_option maxRecDepth 100000 in
theorem c7_digit (l : Launch) (D : va_G) (tc : Nat → ClassId) (zb : Nat) (v9 : Nat) (hv9 : v9 < 2 ^ 31) : RO l yX7_digit wsX7_digit 0 0 D tc zb [] [.int (nI v9)] (.int (nI (min 10 v9))) := by
  refine RO.of (cc := cX7_digit) (maxL := 1) (ret := (some .int)) (by decide) rfl (Nat.le_of_ble_eq_true rfl) ?_
  intro p e s m args below meth c hx hb hr hml hlk hts hown hM hS hP ls hl
  have hl : lv_has ls 1 [(0, .int (nI v9))] := hl
  refine lv_iload_n hx hb dX7_digit_0 rfl (lv_at hl 0 rfl) ?_
  refine lv_bipush (v := (nI 10)) hx hb dX7_digit_1 (by decide) ?_
  refine ln_icmp_le (tgt := 11) hx hb dX7_digit_3 (by decide) (by omega) (by decide) (fun h1 => ?_) (fun h1 => ?_)
  · refine lv_iload_n hx hb dX7_digit_11 rfl (lv_at hl 0 rfl) ?_
    exact ro_iret hx hb hr hlk dX7_digit_12 (congrArg nI (by omega))
  · refine lv_bipush (v := (nI 10)) hx hb dX7_digit_6 (by decide) ?_
    refine lv_goto (tgt := 12) hx hb dX7_digit_8 (by decide) ?_
    exact ro_iret hx hb hr hlk dX7_digit_12 (congrArg nI (by omega))
set_option maxHeartbeats 4000000 in
set_option maxRecDepth 100000 in
theorem c7_turn (l : Launch) (D : va_G) (tc : Nat → ClassId) (zb : Nat) (b b1 : Nat) (o : Nat → Value) (g : Nat → Nat) (r : Nat) (hk : k_ok g) (hr9 : r < 2 ^ 31) : IP l yX7_turn wsX7_turn 11 254 D tc zb (w_ms tc b b1 o g) (w_ms tc b b1 o (m_tn g r)) [.ref b, .int (nI r)] none := by
  refine IP.of (cc := cX7_turn) (maxL := 5) (ret := none) (by decide) rfl (Nat.le_of_ble_eq_true rfl) ?_
  intro p e s m args below meth c A hx hb hr hml hlk hts hown hM hS hP hD ls hl
  have hl : lv_has ls 5 [(0, .ref b), (1, .int (nI r))] := hl
  obtain ⟨ok0, ok1, ok2, ok3, ok4, ok5, ok6⟩ := id hk
  have htl9 := k_tri_lt r
  have hql9 := k_que_lt r
  refine lv_bipush (v := (nI 100)) hx hb dX7_turn_0 (by decide) ?_
  refine lv_iload_n hx hb dX7_turn_2 rfl (lv_at hl 1 rfl) ?_
  refine lv_bipush (v := (nI 16)) hx hb dX7_turn_3 (by decide) ?_
  refine ln_idiv hx hb dX7_turn_5 (by omega) (by decide) (by decide) ?_
  refine lv_iconst (v := (nI 4)) hx hb dX7_turn_6 (by decide) ?_
  refine ln_irem hx hb dX7_turn_7 (by omega) (by decide) (by decide) ?_
  refine ln_imul hx hb dX7_turn_8 ?_
  refine lv_bipush (v := (nI 10)) hx hb dX7_turn_9 (by decide) ?_
  refine lv_iload_n hx hb dX7_turn_11 rfl (lv_at hl 1 rfl) ?_
  refine lv_bipush (v := (nI 64)) hx hb dX7_turn_12 (by decide) ?_
  refine ln_idiv hx hb dX7_turn_14 (by omega) (by decide) (by decide) ?_
  refine lv_iconst (v := (nI 4)) hx hb dX7_turn_15 (by decide) ?_
  refine ln_irem hx hb dX7_turn_16 (by omega) (by decide) (by decide) ?_
  refine ln_imul hx hb dX7_turn_17 ?_
  refine ln_iadd hx hb dX7_turn_18 ?_
  refine lv_iload_n hx hb dX7_turn_19 rfl (lv_at hl 1 rfl) ?_
  refine lv_sipush (v := (nI 256)) hx hb dX7_turn_20 (by decide) ?_
  refine ln_idiv hx hb dX7_turn_23 (by omega) (by decide) (by decide) ?_
  refine lv_iconst (v := (nI 4)) hx hb dX7_turn_24 (by decide) ?_
  refine ln_irem hx hb dX7_turn_25 (by omega) (by decide) (by decide) ?_
  refine ln_iadd hx hb dX7_turn_26 ?_
  refine ln_eq (x' := (nI (k_tri r))) (rfl) ?_
  refine lv_istore_n (lv' := [(2, .int (nI (k_tri r))), (0, .ref b), (1, .int (nI r))]) hx hb dX7_turn_27 rfl hl (by decide) rfl (fun ls hl => ?_)
  refine lv_iload_n hx hb dX7_turn_28 rfl (lv_at hl 2 rfl) ?_
  refine lv_bipush (v := (nI 16)) hx hb dX7_turn_29 (by decide) ?_
  refine ln_irem hx hb dX7_turn_31 (by omega) (by decide) (by decide) ?_
  refine lv_istore_n (lv' := [(3, .int (nI (r % 16))), (2, .int (nI (k_tri r))), (0, .ref b), (1, .int (nI r))]) hx hb dX7_turn_32 rfl hl (by decide) rfl (fun ls hl => ?_)
  refine lv_iload_n hx hb dX7_turn_33 rfl (lv_at hl 0 rfl) ?_
  refine lv_iconst (v := (nI 4)) hx hb dX7_turn_34 (by decide) ?_
  refine ln_icmp_gt (tgt := 60) hx hb dX7_turn_35 (by decide) (by omega) (by decide) (fun h1 => ?_) (fun h1 => ?_)
  · refine lv_iload_n hx hb dX7_turn_60 rfl (lv_at hl 0 rfl) ?_
    refine lv_iconst (v := (nI 5)) hx hb dX7_turn_61 (by decide) ?_
    refine ln_icmp_ne (tgt := 75) hx hb dX7_turn_62 (by decide) (by omega) (by decide) (fun h2 => ?_) (fun h2 => ?_)
    · refine lv_iload_n hx hb dX7_turn_75 rfl (lv_at hl 0 rfl) ?_
      refine lv_bipush (v := (nI 13)) hx hb dX7_turn_76 (by decide) ?_
      refine ln_icmp_gt (tgt := 130) hx hb dX7_turn_78 (by decide) (by omega) (by decide) (fun h3 => ?_) (fun h3 => ?_)
      · refine lv_aload_n hx hb dX7_turn_130 rfl (lv_at hl 2 rfl) ?_
        refine ip_V (C := RX7) (n := 0) (wl' := [(b, .inr (6, [o 0, .ref b1, o 2, o 3, o 4, o 5, o 6, o 7, o 8])), (b1, .inl (tc 0, 60, .inl ((fun k => nI ((m_tdy g) k)))))]) ⟨hx, hb, hml, hown, hts⟩ hM hS hP hD (c7_tidies l D tc zb b b1 o g hk) gX7_turn_X7_tidies rfl (by decide +kernel) ⟨Nat.le_of_ble_eq_true rfl, Nat.le_of_ble_eq_true rfl⟩ [0, 1] rfl rfl [(true, 0), (true, 1)] rfl rfl rfl (va_recv hM.1 hP (ci := 6) (q0 := 0) rfl rfl) rfl hl.1 rfl (Nat.le_of_ble_eq_true rfl) dX7_turn_131 ⟨Nat.le_refl _, Nat.le_refl _⟩ (fun H locs hP hD hS => ?_)
        refine W.eq (g2 := F0 m 134 ls [.int (oI (k_tv g))]) rfl ?_
        refine lv_istore (lv' := [(4, .int (oI (k_tv g))), (3, .int (nI (r % 16))), (2, .int (nI (k_tri r))), (0, .ref b), (1, .int (nI r))]) hx hb dX7_turn_134 hl (by decide) rfl (fun ls hl => ?_)
        exact ip_vret hx hb hr hlk dX7_turn_136 hS (by rw [show m_tn g r = m_tdy g from (if_neg (by omega)).trans ((if_neg (by omega)).trans (if_neg (by omega)))]; exact hP)
      · refine lv_aload_n hx hb dX7_turn_81 rfl (lv_at hl 2 rfl) ?_
        refine lv_bipush (v := (nI 121)) hx hb dX7_turn_82 (by decide) ?_
        refine lv_iload_n hx hb dX7_turn_84 rfl (lv_at hl 3 rfl) ?_
        refine lv_bipush (v := (nI 16)) hx hb dX7_turn_85 (by decide) ?_
        refine ln_idiv hx hb dX7_turn_87 (by omega) (by decide) (by decide) ?_
        refine lv_bipush (v := (nI 16)) hx hb dX7_turn_88 (by decide) ?_
        refine ln_irem hx hb dX7_turn_90 (by omega) (by decide) (by decide) ?_
        refine ro_S (n := 1) ⟨hx, hb, hml, hown, hts⟩ hM hS hP (c7_digit l D tc zb ((r / 16) % 16) (by omega)) gX7_turn_X7_digit rfl (by decide +kernel) ⟨Nat.le_of_ble_eq_true rfl, Nat.le_of_ble_eq_true rfl⟩ [] rfl rfl hl.1 rfl (Nat.le_of_ble_eq_true rfl) dX7_turn_91 ⟨Nat.le_refl _, Nat.le_refl _⟩ ?_
        refine ln_imul hx hb dX7_turn_94 ?_
        refine lv_bipush (v := (nI 11)) hx hb dX7_turn_95 (by decide) ?_
        refine lv_iload_n hx hb dX7_turn_97 rfl (lv_at hl 3 rfl) ?_
        refine lv_sipush (v := (nI 256)) hx hb dX7_turn_98 (by decide) ?_
        refine ln_idiv hx hb dX7_turn_101 (by omega) (by decide) (by decide) ?_
        refine lv_bipush (v := (nI 16)) hx hb dX7_turn_102 (by decide) ?_
        refine ln_irem hx hb dX7_turn_104 (by omega) (by decide) (by decide) ?_
        refine ro_S (n := 1) ⟨hx, hb, hml, hown, hts⟩ hM hS hP (c7_digit l D tc zb ((r / 256) % 16) (by omega)) gX7_turn_X7_digit rfl (by decide +kernel) ⟨Nat.le_of_ble_eq_true rfl, Nat.le_of_ble_eq_true rfl⟩ [] rfl rfl hl.1 rfl (Nat.le_of_ble_eq_true rfl) dX7_turn_105 ⟨Nat.le_refl _, Nat.le_refl _⟩ ?_
        refine ln_imul hx hb dX7_turn_108 ?_
        refine ln_iadd hx hb dX7_turn_109 ?_
        refine lv_iload_n hx hb dX7_turn_110 rfl (lv_at hl 3 rfl) ?_
        refine lv_sipush (v := (nI 4096)) hx hb dX7_turn_111 (by decide) ?_
        refine ln_idiv hx hb dX7_turn_114 (by omega) (by decide) (by decide) ?_
        refine lv_bipush (v := (nI 16)) hx hb dX7_turn_115 (by decide) ?_
        refine ln_irem hx hb dX7_turn_117 (by omega) (by decide) (by decide) ?_
        refine ro_S (n := 1) ⟨hx, hb, hml, hown, hts⟩ hM hS hP (c7_digit l D tc zb ((r / 4096) % 16) (by omega)) gX7_turn_X7_digit rfl (by decide +kernel) ⟨Nat.le_of_ble_eq_true rfl, Nat.le_of_ble_eq_true rfl⟩ [] rfl rfl hl.1 rfl (Nat.le_of_ble_eq_true rfl) dX7_turn_118 ⟨Nat.le_refl _, Nat.le_refl _⟩ ?_
        refine ln_iadd hx hb dX7_turn_121 ?_
        refine ln_eq (x' := (nI (k_que r))) (rfl) ?_
        refine ip_V (C := RX7) (n := 1) (wl' := [(b, .inr (6, [o 0, .ref b1, o 2, o 3, o 4, o 5, o 6, o 7, o 8])), (b1, .inl (tc 0, 60, .inl ((fun k => nI ((m_ask g (k_que r)) k)))))]) ⟨hx, hb, hml, hown, hts⟩ hM hS hP hD (c7_asks l D tc zb b b1 o g (k_que r) hk (by first | omega | exact ok5 _ (by omega))) gX7_turn_X7_asks rfl (by decide +kernel) ⟨Nat.le_of_ble_eq_true rfl, Nat.le_of_ble_eq_true rfl⟩ [0, 1] rfl rfl [(true, 0), (true, 1)] rfl rfl rfl (va_recv hM.1 hP (ci := 6) (q0 := 0) rfl rfl) rfl hl.1 rfl (Nat.le_of_ble_eq_true rfl) dX7_turn_122 ⟨Nat.le_refl _, Nat.le_refl _⟩ (fun H locs hP hD hS => ?_)
        refine W.eq (g2 := F0 m 125 ls [.int (nI (k_cnt g (k_que r)))]) rfl ?_
        refine lv_istore (lv' := [(4, .int (nI (k_cnt g (k_que r)))), (3, .int (nI (r % 16))), (2, .int (nI (k_tri r))), (0, .ref b), (1, .int (nI r))]) hx hb dX7_turn_125 hl (by decide) rfl (fun ls hl => ?_)
        refine lv_goto (tgt := 136) hx hb dX7_turn_127 (by decide) ?_
        exact ip_vret hx hb hr hlk dX7_turn_136 hS (by rw [show m_tn g r = m_ask g (k_que r) from (if_neg (by omega)).trans ((if_neg (by omega)).trans (if_pos (by omega)))]; exact hP)
    · refine lv_aload_n hx hb dX7_turn_65 rfl (lv_at hl 2 rfl) ?_
      refine lv_iload_n hx hb dX7_turn_66 rfl (lv_at hl 1 rfl) ?_
      refine ip_V (C := RX7) (n := 1) (wl' := [(b, .inr (6, [o 0, .ref b1, o 2, o 3, o 4, o 5, o 6, o 7, o 8])), (b1, .inl (tc 0, 60, .inl ((fun k => nI ((m_rem g (k_tri r)) k)))))]) ⟨hx, hb, hml, hown, hts⟩ hM hS hP hD (c7_removes l D tc zb b b1 o g (k_tri r) hk (by first | omega | exact ok4 _ (by omega))) gX7_turn_X7_removes rfl (by decide +kernel) ⟨Nat.le_of_ble_eq_true rfl, Nat.le_of_ble_eq_true rfl⟩ [0, 1] rfl rfl [(true, 0), (true, 1)] rfl rfl rfl (va_recv hM.1 hP (ci := 6) (q0 := 0) rfl rfl) rfl hl.1 rfl (Nat.le_of_ble_eq_true rfl) dX7_turn_67 ⟨Nat.le_refl _, Nat.le_refl _⟩ (fun H locs hP hD hS => ?_)
      refine W.eq (g2 := F0 m 70 ls [.int (nI (k_rv g (k_tri r)))]) rfl ?_
      refine lv_istore (lv' := [(4, .int (nI (k_rv g (k_tri r)))), (3, .int (nI (r % 16))), (2, .int (nI (k_tri r))), (0, .ref b), (1, .int (nI r))]) hx hb dX7_turn_70 hl (by decide) rfl (fun ls hl => ?_)
      refine lv_goto (tgt := 136) hx hb dX7_turn_72 (by decide) ?_
      exact ip_vret hx hb hr hlk dX7_turn_136 hS (by rw [show m_tn g r = m_rem g (k_tri r) from (if_neg (by omega)).trans (if_pos (by omega))]; exact hP)
  · refine lv_aload_n hx hb dX7_turn_38 rfl (lv_at hl 2 rfl) ?_
    refine lv_iload_n hx hb dX7_turn_39 rfl (lv_at hl 1 rfl) ?_
    refine ro_V (C := RX7) (n := 1) ⟨hx, hb, hml, hown, hts⟩ hM hS hP (c7_addFault l D tc zb b b1 o g (k_tri r) hk (by first | omega | exact ok4 _ (by omega))) gX7_turn_X7_addFault rfl (by decide +kernel) ⟨Nat.le_of_ble_eq_true rfl, Nat.le_of_ble_eq_true rfl⟩ [0, 1] rfl (va_recv hM.1 hP (ci := 6) (q0 := 0) rfl rfl) rfl hl.1 rfl (Nat.le_of_ble_eq_true rfl) dX7_turn_40 ⟨Nat.le_refl _, Nat.le_refl _⟩ ?_
    have hf4 := k_af_le g (k_tri r)
    refine ln_if_ne (tgt := 54) hx hb dX7_turn_43 (by decide) (by omega) (fun h5 => ?_) (fun h5 => ?_)
    · refine lv_iconst (v := (nI 0)) hx hb dX7_turn_54 (by decide) ?_
      refine lv_istore (lv' := [(4, .int (nI 0)), (3, .int (nI (r % 16))), (2, .int (nI (k_tri r))), (0, .ref b), (1, .int (nI r))]) hx hb dX7_turn_55 hl (by decide) rfl (fun ls hl => ?_)
      refine lv_goto (tgt := 136) hx hb dX7_turn_57 (by decide) ?_
      exact ip_vret hx hb hr hlk dX7_turn_136 hS (by rw [show m_tn g r = g from (if_pos (by omega)).trans (k_af_put (g := g) (t := k_tri r) (by omega)).1]; exact hP)
    · have hroom9 := k_af_0 (t := k_tri r) hk (by omega)
      refine lv_aload_n hx hb dX7_turn_46 rfl (lv_at hl 2 rfl) ?_
      refine lv_iload_n hx hb dX7_turn_47 rfl (lv_at hl 1 rfl) ?_
      refine ip_V (C := RX7) (n := 1) (wl' := [(b, .inr (6, [o 0, .ref b1, o 2, o 3, o 4, o 5, o 6, o 7, o 8])), (b1, .inl (tc 0, 60, .inl ((fun k => nI ((m_put g (k_tri r)) k)))))]) ⟨hx, hb, hml, hown, hts⟩ hM hS hP hD (c7_adds l D tc zb b b1 o g (k_tri r) hk (by first | omega | exact ok4 _ (by omega)) (by assumption)) gX7_turn_X7_adds rfl (by decide +kernel) ⟨Nat.le_of_ble_eq_true rfl, Nat.le_of_ble_eq_true rfl⟩ [0, 1] rfl rfl [(true, 0), (true, 1)] rfl rfl rfl (va_recv hM.1 hP (ci := 6) (q0 := 0) rfl rfl) rfl hl.1 rfl (Nat.le_of_ble_eq_true rfl) dX7_turn_48 ⟨Nat.le_refl _, Nat.le_refl _⟩ (fun H locs hP hD hS => ?_)
      refine W.eq (g2 := F0 m 51 ls [.int (nI (k_pv g (k_tri r)))]) rfl ?_
      refine lv_goto (tgt := 55) hx hb dX7_turn_51 (by decide) ?_
      refine lv_istore (lv' := [(4, .int (nI (k_pv g (k_tri r)))), (3, .int (nI (r % 16))), (2, .int (nI (k_tri r))), (0, .ref b), (1, .int (nI r))]) hx hb dX7_turn_55 hl (by decide) rfl (fun ls hl => ?_)
      refine lv_goto (tgt := 136) hx hb dX7_turn_57 (by decide) ?_
      exact ip_vret hx hb hr hlk dX7_turn_136 hS (by rw [show m_tn g r = m_put g (k_tri r) from if_pos (by omega)]; exact hP)
set_option maxHeartbeats 4000000 in
set_option maxRecDepth 100000 in
theorem c7_simulate_b1 (l : Launch) (D : va_G) (tc : Nat → ClassId) (zb : Nat) (b b1 b2 b3 b4 b5 b6 : Nat) (th : Int32) (g ga sv : Nat → Nat) (n : Nat) (sl : Nat → Nat) (iz : Nat → Bool) (u : Nat → Nat) (ln : Nat) (x0 : Int64) (pp : Int32) (hk : k_ok g) (hn : n ≤ 14) (hln : ln ≤ 100) (hu : ∀ k, u k < 256) (hp : ¬ (nI 1 ≤ pp ∧ pp ≤ nI 99)) : IP l yX7_simulate wsX7_simulate 1 25 D tc zb (w_md tc b b1 b2 b3 b4 b5 b6 th g ga sv n sl iz u ln) (w_md tc b b1 b2 b3 b4 b5 b6 (nI 1) g ga sv n sl iz u ln) [.ref b, .long (x0), .int (pp)] (some (.int (nI 0))) := by
  refine IP.of (cc := cX7_simulate) (maxL := 9) (ret := (some .int)) (by decide) rfl (Nat.le_of_ble_eq_true rfl) ?_
  intro p e s m args below meth c A hx hb hr hml hlk hts hown hM hS hP hD ls hl
  have hl : lv_has ls 9 [(0, .ref b), (1, .long (x0)), (3, .int (pp))] := hl
  obtain ⟨ok0, ok1, ok2, ok3, ok4, ok5, ok6⟩ := id hk
  refine lv_aload_n hx hb dX7_simulate_0 rfl (lv_at hl 0 rfl) ?_
  refine lv_iload_n hx hb dX7_simulate_1 rfl (lv_at hl 2 rfl) ?_
  refine lv_i2l (v := ((pp)).toInt64) hx hb dX7_simulate_2 rfl ?_
  refine lv_lconst (v := (1 : Int64)) hx hb dX7_simulate_3 rfl ?_
  refine lv_ldc2 (v := (99 : Int64)) hx hb hown (hts (.constantLong RX7 173 (99)) (by decide +kernel)) dX7_simulate_4 ?_
  refine ro_S (n := 3) ⟨hx, hb, hml, hown, hts⟩ hM hS hP (c7_in_bad l D tc zb pp 1 99 (by assumption) (by decide) (by decide)) gX7_simulate_X7_in rfl (by decide +kernel) ⟨Nat.le_of_ble_eq_true rfl, Nat.le_of_ble_eq_true rfl⟩ [] rfl rfl hl.1 rfl (Nat.le_of_ble_eq_true rfl) dX7_simulate_7 ⟨Nat.le_refl _, Nat.le_refl _⟩ ?_
  refine lv_if_eq (tgt := 17) hx hb dX7_simulate_10 (by decide) (fun _ => ?_) (fun h9 => False.elim (by revert h9; decide))
  refine lv_iconst (v := (nI 1)) hx hb dX7_simulate_17 (by decide) ?_
  refine ip_V (C := RX7) (n := 1) (wl' := [(b, .inr (6, [.int (nI 1), .ref b1, .ref b2, .ref b3, .int (nI n), .ref b4, .ref b5, .ref b6, .int (nI ln)])), (b1, .inl (tc 0, 60, .inl ((fun k => nI (g k))))), (b2, .inl (tc 0, 60, .inl ((fun k => nI (ga k))))), (b3, .inl (tc 0, 840, .inl ((fun k => nI (sv k))))), (b4, .inl (tc 0, 120, .inl ((fun k => nI (sl k))))), (b5, .inl (tc 3, 2, .inl ((fun k => bI (iz k))))), (b6, .inl (tc 2, 100, .inl ((fun k => byI (u k)))))]) ⟨hx, hb, hml, hown, hts⟩ hM hS hP hD (c7_holdsP l D tc zb b th (fun k9 => match k9 with | 1 => .ref b1 | 2 => .ref b2 | 3 => .ref b3 | 4 => .int (nI n) | 5 => .ref b4 | 6 => .ref b5 | 7 => .ref b6 | 8 => .int (nI ln) | _ => .null) 1 (by omega)) gX7_simulate_X7_holds rfl (by decide +kernel) ⟨Nat.le_of_ble_eq_true rfl, Nat.le_of_ble_eq_true rfl⟩ [0] rfl rfl [(true, 0), (false, 1), (false, 2), (false, 3), (false, 4), (false, 5), (false, 6)] rfl rfl rfl (va_recv hM.1 hP (ci := 6) (q0 := 0) rfl rfl) rfl hl.1 rfl (Nat.le_of_ble_eq_true rfl) dX7_simulate_18 ⟨Nat.le_refl _, Nat.le_refl _⟩ (fun H locs hP hD hS => ?_)
  refine W.eq (g2 := F0 m 21 ls [.int (bI (false))]) rfl ?_
  refine lv_if_ne (tgt := 26) hx hb dX7_simulate_21 (by decide) (fun h9 => False.elim (by revert h9; decide)) (fun _ => ?_)
  refine lv_iconst (v := (nI 0)) hx hb dX7_simulate_24 (by decide) ?_
  exact ip_iret hx hb hr hlk dX7_simulate_25 hS (rfl) hP
theorem c7_in_badL (l : Launch) (D : va_G) (tc : Nat → ClassId) (zb : Nat) (v9 : Int64) (lo : Nat) (w9 : Int64) (h1 : ¬ (lN lo ≤ v9 ∧ v9 ≤ w9)) : RO l yX7_in wsX7_in 0 0 D tc zb [] [.long v9, .long (lN lo), .long w9] (.int (bI false)) := by
  have h := c7_in l D tc zb v9 (lN lo) w9
  rw [decide_eq_false h1] at h
  exact h
set_option maxHeartbeats 4000000 in
set_option maxRecDepth 100000 in
theorem c7_runScript_b1 (l : Launch) (D : va_G) (tc : Nat → ClassId) (zb : Nat) (b b1 b2 b3 b4 b5 b6 : Nat) (th : Int32) (g ga sv : Nat → Nat) (n : Nat) (sl : Nat → Nat) (iz : Nat → Bool) (u : Nat → Nat) (ln : Nat) (pp : Int32) (x0 : Int64) (hk : k_ok g) (hn : n ≤ 14) (hln : ln ≤ 100) (hu : ∀ k, u k < 256) (hp : ¬ (nI 1 ≤ pp ∧ pp ≤ nI 3)) : IP l yX7_runScript wsX7_runScript 1 25 D tc zb (w_md tc b b1 b2 b3 b4 b5 b6 th g ga sv n sl iz u ln) (w_md tc b b1 b2 b3 b4 b5 b6 (nI 1) g ga sv n sl iz u ln) [.ref b, .int (pp), .long (x0)] (some (.int (nI 0))) := by
  refine IP.of (cc := cX7_runScript) (maxL := 11) (ret := (some .int)) (by decide) rfl (Nat.le_of_ble_eq_true rfl) ?_
  intro p e s m args below meth c A hx hb hr hml hlk hts hown hM hS hP hD ls hl
  have hl : lv_has ls 11 [(0, .ref b), (1, .int (pp)), (2, .long (x0))] := hl
  obtain ⟨ok0, ok1, ok2, ok3, ok4, ok5, ok6⟩ := id hk
  refine lv_iload_n hx hb dX7_runScript_0 rfl (lv_at hl 1 rfl) ?_
  refine lv_iconst (v := (nI 1)) hx hb dX7_runScript_1 (by decide) ?_
  refine lv_icmp_ne (tgt := 11) hx hb dX7_runScript_2 (by decide) (fun h1 => ?_) (fun h1 => ?_)
  · refine lv_iload_n hx hb dX7_runScript_11 rfl (lv_at hl 1 rfl) ?_
    refine lv_iconst (v := (nI 2)) hx hb dX7_runScript_12 (by decide) ?_
    refine lv_icmp_ne (tgt := 22) hx hb dX7_runScript_13 (by decide) (fun h2 => ?_) (fun h2 => ?_)
    · refine lv_ldc2 (v := (999999999999999 : Int64)) hx hb hown (hts (.constantLong RX7 193 (999999999999999)) (by decide +kernel)) dX7_runScript_22 ?_
      refine lv_lstore (lv' := [(4, .long (999999999999999)), (0, .ref b), (1, .int (pp)), (2, .long (x0))]) hx hb dX7_runScript_25 hl (by decide) rfl (fun ls hl => ?_)
      refine lv_aload_n hx hb dX7_runScript_27 rfl (lv_at hl 1 rfl) ?_
      refine lv_iload_n hx hb dX7_runScript_28 rfl (lv_at hl 2 rfl) ?_
      refine lv_i2l (v := ((pp)).toInt64) hx hb dX7_runScript_29 rfl ?_
      refine lv_lconst (v := (1 : Int64)) hx hb dX7_runScript_30 rfl ?_
      refine lv_ldc2 (v := (3 : Int64)) hx hb hown (hts (.constantLong RX7 195 (3)) (by decide +kernel)) dX7_runScript_31 ?_
      refine ro_S (n := 3) ⟨hx, hb, hml, hown, hts⟩ hM hS hP (c7_in_bad l D tc zb pp 1 3 (by assumption) (by decide) (by decide)) gX7_runScript_X7_in rfl (by decide +kernel) ⟨Nat.le_of_ble_eq_true rfl, Nat.le_of_ble_eq_true rfl⟩ [] rfl rfl hl.1 rfl (Nat.le_of_ble_eq_true rfl) dX7_runScript_34 ⟨Nat.le_refl _, Nat.le_refl _⟩ ?_
      refine lv_if_eq (tgt := 54) hx hb dX7_runScript_37 (by decide) (fun _ => ?_) (fun h9 => False.elim (by revert h9; decide))
      refine lv_iconst (v := (nI 1)) hx hb dX7_runScript_54 (by decide) ?_
      refine ip_V (C := RX7) (n := 1) (wl' := [(b, .inr (6, [.int (nI 1), .ref b1, .ref b2, .ref b3, .int (nI n), .ref b4, .ref b5, .ref b6, .int (nI ln)])), (b1, .inl (tc 0, 60, .inl ((fun k => nI (g k))))), (b2, .inl (tc 0, 60, .inl ((fun k => nI (ga k))))), (b3, .inl (tc 0, 840, .inl ((fun k => nI (sv k))))), (b4, .inl (tc 0, 120, .inl ((fun k => nI (sl k))))), (b5, .inl (tc 3, 2, .inl ((fun k => bI (iz k))))), (b6, .inl (tc 2, 100, .inl ((fun k => byI (u k)))))]) ⟨hx, hb, hml, hown, hts⟩ hM hS hP hD (c7_holdsP l D tc zb b th (fun k9 => match k9 with | 1 => .ref b1 | 2 => .ref b2 | 3 => .ref b3 | 4 => .int (nI n) | 5 => .ref b4 | 6 => .ref b5 | 7 => .ref b6 | 8 => .int (nI ln) | _ => .null) 1 (by omega)) gX7_runScript_X7_holds rfl (by decide +kernel) ⟨Nat.le_of_ble_eq_true rfl, Nat.le_of_ble_eq_true rfl⟩ [0] rfl rfl [(true, 0), (false, 1), (false, 2), (false, 3), (false, 4), (false, 5), (false, 6)] rfl rfl rfl (va_recv hM.1 hP (ci := 6) (q0 := 0) rfl rfl) rfl hl.1 rfl (Nat.le_of_ble_eq_true rfl) dX7_runScript_55 ⟨Nat.le_refl _, Nat.le_refl _⟩ (fun H locs hP hD hS => ?_)
      refine W.eq (g2 := F0 m 58 ls [.int (bI (false))]) rfl ?_
      refine lv_if_ne (tgt := 63) hx hb dX7_runScript_58 (by decide) (fun h9 => False.elim (by revert h9; decide)) (fun _ => ?_)
      refine lv_iconst (v := (nI 0)) hx hb dX7_runScript_61 (by decide) ?_
      exact ip_iret hx hb hr hlk dX7_runScript_62 hS (rfl) hP
    · refine lv_ldc2 (v := (9999999999 : Int64)) hx hb hown (hts (.constantLong RX7 191 (9999999999)) (by decide +kernel)) dX7_runScript_16 ?_
      refine lv_goto (tgt := 25) hx hb dX7_runScript_19 (by decide) ?_
      refine lv_lstore (lv' := [(4, .long (9999999999)), (0, .ref b), (1, .int (pp)), (2, .long (x0))]) hx hb dX7_runScript_25 hl (by decide) rfl (fun ls hl => ?_)
      refine lv_aload_n hx hb dX7_runScript_27 rfl (lv_at hl 1 rfl) ?_
      refine lv_iload_n hx hb dX7_runScript_28 rfl (lv_at hl 2 rfl) ?_
      refine lv_i2l (v := ((pp)).toInt64) hx hb dX7_runScript_29 rfl ?_
      refine lv_lconst (v := (1 : Int64)) hx hb dX7_runScript_30 rfl ?_
      refine lv_ldc2 (v := (3 : Int64)) hx hb hown (hts (.constantLong RX7 195 (3)) (by decide +kernel)) dX7_runScript_31 ?_
      refine ro_S (n := 3) ⟨hx, hb, hml, hown, hts⟩ hM hS hP (c7_in_bad l D tc zb pp 1 3 (by assumption) (by decide) (by decide)) gX7_runScript_X7_in rfl (by decide +kernel) ⟨Nat.le_of_ble_eq_true rfl, Nat.le_of_ble_eq_true rfl⟩ [] rfl rfl hl.1 rfl (Nat.le_of_ble_eq_true rfl) dX7_runScript_34 ⟨Nat.le_refl _, Nat.le_refl _⟩ ?_
      refine lv_if_eq (tgt := 54) hx hb dX7_runScript_37 (by decide) (fun _ => ?_) (fun h9 => False.elim (by revert h9; decide))
      refine lv_iconst (v := (nI 1)) hx hb dX7_runScript_54 (by decide) ?_
      refine ip_V (C := RX7) (n := 1) (wl' := [(b, .inr (6, [.int (nI 1), .ref b1, .ref b2, .ref b3, .int (nI n), .ref b4, .ref b5, .ref b6, .int (nI ln)])), (b1, .inl (tc 0, 60, .inl ((fun k => nI (g k))))), (b2, .inl (tc 0, 60, .inl ((fun k => nI (ga k))))), (b3, .inl (tc 0, 840, .inl ((fun k => nI (sv k))))), (b4, .inl (tc 0, 120, .inl ((fun k => nI (sl k))))), (b5, .inl (tc 3, 2, .inl ((fun k => bI (iz k))))), (b6, .inl (tc 2, 100, .inl ((fun k => byI (u k)))))]) ⟨hx, hb, hml, hown, hts⟩ hM hS hP hD (c7_holdsP l D tc zb b th (fun k9 => match k9 with | 1 => .ref b1 | 2 => .ref b2 | 3 => .ref b3 | 4 => .int (nI n) | 5 => .ref b4 | 6 => .ref b5 | 7 => .ref b6 | 8 => .int (nI ln) | _ => .null) 1 (by omega)) gX7_runScript_X7_holds rfl (by decide +kernel) ⟨Nat.le_of_ble_eq_true rfl, Nat.le_of_ble_eq_true rfl⟩ [0] rfl rfl [(true, 0), (false, 1), (false, 2), (false, 3), (false, 4), (false, 5), (false, 6)] rfl rfl rfl (va_recv hM.1 hP (ci := 6) (q0 := 0) rfl rfl) rfl hl.1 rfl (Nat.le_of_ble_eq_true rfl) dX7_runScript_55 ⟨Nat.le_refl _, Nat.le_refl _⟩ (fun H locs hP hD hS => ?_)
      refine W.eq (g2 := F0 m 58 ls [.int (bI (false))]) rfl ?_
      refine lv_if_ne (tgt := 63) hx hb dX7_runScript_58 (by decide) (fun h9 => False.elim (by revert h9; decide)) (fun _ => ?_)
      refine lv_iconst (v := (nI 0)) hx hb dX7_runScript_61 (by decide) ?_
      exact ip_iret hx hb hr hlk dX7_runScript_62 hS (rfl) hP
  · refine lv_ldc2 (v := (99999 : Int64)) hx hb hown (hts (.constantLong RX7 189 (99999)) (by decide +kernel)) dX7_runScript_5 ?_
    refine lv_goto (tgt := 25) hx hb dX7_runScript_8 (by decide) ?_
    refine lv_lstore (lv' := [(4, .long (99999)), (0, .ref b), (1, .int (pp)), (2, .long (x0))]) hx hb dX7_runScript_25 hl (by decide) rfl (fun ls hl => ?_)
    refine lv_aload_n hx hb dX7_runScript_27 rfl (lv_at hl 1 rfl) ?_
    refine lv_iload_n hx hb dX7_runScript_28 rfl (lv_at hl 2 rfl) ?_
    refine lv_i2l (v := ((pp)).toInt64) hx hb dX7_runScript_29 rfl ?_
    refine lv_lconst (v := (1 : Int64)) hx hb dX7_runScript_30 rfl ?_
    refine lv_ldc2 (v := (3 : Int64)) hx hb hown (hts (.constantLong RX7 195 (3)) (by decide +kernel)) dX7_runScript_31 ?_
    refine ro_S (n := 3) ⟨hx, hb, hml, hown, hts⟩ hM hS hP (c7_in_bad l D tc zb pp 1 3 (by assumption) (by decide) (by decide)) gX7_runScript_X7_in rfl (by decide +kernel) ⟨Nat.le_of_ble_eq_true rfl, Nat.le_of_ble_eq_true rfl⟩ [] rfl rfl hl.1 rfl (Nat.le_of_ble_eq_true rfl) dX7_runScript_34 ⟨Nat.le_refl _, Nat.le_refl _⟩ ?_
    refine lv_if_eq (tgt := 54) hx hb dX7_runScript_37 (by decide) (fun _ => ?_) (fun h9 => False.elim (by revert h9; decide))
    refine lv_iconst (v := (nI 1)) hx hb dX7_runScript_54 (by decide) ?_
    refine ip_V (C := RX7) (n := 1) (wl' := [(b, .inr (6, [.int (nI 1), .ref b1, .ref b2, .ref b3, .int (nI n), .ref b4, .ref b5, .ref b6, .int (nI ln)])), (b1, .inl (tc 0, 60, .inl ((fun k => nI (g k))))), (b2, .inl (tc 0, 60, .inl ((fun k => nI (ga k))))), (b3, .inl (tc 0, 840, .inl ((fun k => nI (sv k))))), (b4, .inl (tc 0, 120, .inl ((fun k => nI (sl k))))), (b5, .inl (tc 3, 2, .inl ((fun k => bI (iz k))))), (b6, .inl (tc 2, 100, .inl ((fun k => byI (u k)))))]) ⟨hx, hb, hml, hown, hts⟩ hM hS hP hD (c7_holdsP l D tc zb b th (fun k9 => match k9 with | 1 => .ref b1 | 2 => .ref b2 | 3 => .ref b3 | 4 => .int (nI n) | 5 => .ref b4 | 6 => .ref b5 | 7 => .ref b6 | 8 => .int (nI ln) | _ => .null) 1 (by omega)) gX7_runScript_X7_holds rfl (by decide +kernel) ⟨Nat.le_of_ble_eq_true rfl, Nat.le_of_ble_eq_true rfl⟩ [0] rfl rfl [(true, 0), (false, 1), (false, 2), (false, 3), (false, 4), (false, 5), (false, 6)] rfl rfl rfl (va_recv hM.1 hP (ci := 6) (q0 := 0) rfl rfl) rfl hl.1 rfl (Nat.le_of_ble_eq_true rfl) dX7_runScript_55 ⟨Nat.le_refl _, Nat.le_refl _⟩ (fun H locs hP hD hS => ?_)
    refine W.eq (g2 := F0 m 58 ls [.int (bI (false))]) rfl ?_
    refine lv_if_ne (tgt := 63) hx hb dX7_runScript_58 (by decide) (fun h9 => False.elim (by revert h9; decide)) (fun _ => ?_)
    refine lv_iconst (v := (nI 0)) hx hb dX7_runScript_61 (by decide) ?_
    exact ip_iret hx hb hr hlk dX7_runScript_62 hS (rfl) hP
set_option maxHeartbeats 4000000 in
set_option maxRecDepth 100000 in
theorem c7_runScript_b2_1 (l : Launch) (D : va_G) (tc : Nat → ClassId) (zb : Nat) (b b1 b2 b3 b4 b5 b6 : Nat) (th : Int32) (g ga sv : Nat → Nat) (n : Nat) (sl : Nat → Nat) (iz : Nat → Bool) (u : Nat → Nat) (ln : Nat) (x0 : Int64) (hk : k_ok g) (hn : n ≤ 14) (hln : ln ≤ 100) (hu : ∀ k, u k < 256) (hp : ¬ (lN 0 ≤ x0 ∧ x0 ≤ (99999 : Int64))) : IP l yX7_runScript wsX7_runScript 1 25 D tc zb (w_md tc b b1 b2 b3 b4 b5 b6 th g ga sv n sl iz u ln) (w_md tc b b1 b2 b3 b4 b5 b6 (nI 1) g ga sv n sl iz u ln) [.ref b, .int (nI 1), .long (x0)] (some (.int (nI 0))) := by
  refine IP.of (cc := cX7_runScript) (maxL := 11) (ret := (some .int)) (by decide) rfl (Nat.le_of_ble_eq_true rfl) ?_
  intro p e s m args below meth c A hx hb hr hml hlk hts hown hM hS hP hD ls hl
  have hl : lv_has ls 11 [(0, .ref b), (1, .int (nI 1)), (2, .long (x0))] := hl
  obtain ⟨ok0, ok1, ok2, ok3, ok4, ok5, ok6⟩ := id hk
  refine lv_iload_n hx hb dX7_runScript_0 rfl (lv_at hl 1 rfl) ?_
  refine lv_iconst (v := (nI 1)) hx hb dX7_runScript_1 (by decide) ?_
  refine lv_icmp_ne (tgt := 11) hx hb dX7_runScript_2 (by decide) (fun h9 => False.elim (by revert h9; decide)) (fun _ => ?_)
  refine lv_ldc2 (v := (99999 : Int64)) hx hb hown (hts (.constantLong RX7 189 (99999)) (by decide +kernel)) dX7_runScript_5 ?_
  refine lv_goto (tgt := 25) hx hb dX7_runScript_8 (by decide) ?_
  refine lv_lstore (lv' := [(4, .long (99999)), (0, .ref b), (1, .int (nI 1)), (2, .long (x0))]) hx hb dX7_runScript_25 hl (by decide) rfl (fun ls hl => ?_)
  refine lv_aload_n hx hb dX7_runScript_27 rfl (lv_at hl 1 rfl) ?_
  refine lv_iload_n hx hb dX7_runScript_28 rfl (lv_at hl 2 rfl) ?_
  refine lv_i2l (v := ((nI 1)).toInt64) hx hb dX7_runScript_29 rfl ?_
  refine lv_lconst (v := (1 : Int64)) hx hb dX7_runScript_30 rfl ?_
  refine lv_ldc2 (v := (3 : Int64)) hx hb hown (hts (.constantLong RX7 195 (3)) (by decide +kernel)) dX7_runScript_31 ?_
  refine ro_S (n := 3) ⟨hx, hb, hml, hown, hts⟩ hM hS hP (c7_in_ok l D tc zb 1 1 3 (by omega) (by decide)) gX7_runScript_X7_in rfl (by decide +kernel) ⟨Nat.le_of_ble_eq_true rfl, Nat.le_of_ble_eq_true rfl⟩ [] rfl rfl hl.1 rfl (Nat.le_of_ble_eq_true rfl) dX7_runScript_34 ⟨Nat.le_refl _, Nat.le_refl _⟩ ?_
  refine lv_if_eq (tgt := 54) hx hb dX7_runScript_37 (by decide) (fun h9 => False.elim (by revert h9; decide)) (fun _ => ?_)
  refine lv_lload_n hx hb dX7_runScript_40 rfl (lv_at hl 3 rfl) ?_
  refine lv_lconst (v := (0 : Int64)) hx hb dX7_runScript_41 rfl ?_
  refine lv_lload hx hb dX7_runScript_42 (lv_at hl 0 rfl) ?_
  refine ro_S (n := 3) ⟨hx, hb, hml, hown, hts⟩ hM hS hP (c7_in_badL l D tc zb x0 0 99999 (by assumption)) gX7_runScript_X7_in rfl (by decide +kernel) ⟨Nat.le_of_ble_eq_true rfl, Nat.le_of_ble_eq_true rfl⟩ [] rfl rfl hl.1 rfl (Nat.le_of_ble_eq_true rfl) dX7_runScript_44 ⟨Nat.le_refl _, Nat.le_refl _⟩ ?_
  refine lv_if_eq (tgt := 54) hx hb dX7_runScript_47 (by decide) (fun _ => ?_) (fun h9 => False.elim (by revert h9; decide))
  refine lv_iconst (v := (nI 1)) hx hb dX7_runScript_54 (by decide) ?_
  refine ip_V (C := RX7) (n := 1) (wl' := [(b, .inr (6, [.int (nI 1), .ref b1, .ref b2, .ref b3, .int (nI n), .ref b4, .ref b5, .ref b6, .int (nI ln)])), (b1, .inl (tc 0, 60, .inl ((fun k => nI (g k))))), (b2, .inl (tc 0, 60, .inl ((fun k => nI (ga k))))), (b3, .inl (tc 0, 840, .inl ((fun k => nI (sv k))))), (b4, .inl (tc 0, 120, .inl ((fun k => nI (sl k))))), (b5, .inl (tc 3, 2, .inl ((fun k => bI (iz k))))), (b6, .inl (tc 2, 100, .inl ((fun k => byI (u k)))))]) ⟨hx, hb, hml, hown, hts⟩ hM hS hP hD (c7_holdsP l D tc zb b th (fun k9 => match k9 with | 1 => .ref b1 | 2 => .ref b2 | 3 => .ref b3 | 4 => .int (nI n) | 5 => .ref b4 | 6 => .ref b5 | 7 => .ref b6 | 8 => .int (nI ln) | _ => .null) 1 (by omega)) gX7_runScript_X7_holds rfl (by decide +kernel) ⟨Nat.le_of_ble_eq_true rfl, Nat.le_of_ble_eq_true rfl⟩ [0] rfl rfl [(true, 0), (false, 1), (false, 2), (false, 3), (false, 4), (false, 5), (false, 6)] rfl rfl rfl (va_recv hM.1 hP (ci := 6) (q0 := 0) rfl rfl) rfl hl.1 rfl (Nat.le_of_ble_eq_true rfl) dX7_runScript_55 ⟨Nat.le_refl _, Nat.le_refl _⟩ (fun H locs hP hD hS => ?_)
  refine W.eq (g2 := F0 m 58 ls [.int (bI (false))]) rfl ?_
  refine lv_if_ne (tgt := 63) hx hb dX7_runScript_58 (by decide) (fun h9 => False.elim (by revert h9; decide)) (fun _ => ?_)
  refine lv_iconst (v := (nI 0)) hx hb dX7_runScript_61 (by decide) ?_
  exact ip_iret hx hb hr hlk dX7_runScript_62 hS (rfl) hP
set_option maxHeartbeats 4000000 in
set_option maxRecDepth 100000 in
theorem c7_runScript_b2_2 (l : Launch) (D : va_G) (tc : Nat → ClassId) (zb : Nat) (b b1 b2 b3 b4 b5 b6 : Nat) (th : Int32) (g ga sv : Nat → Nat) (n : Nat) (sl : Nat → Nat) (iz : Nat → Bool) (u : Nat → Nat) (ln : Nat) (x0 : Int64) (hk : k_ok g) (hn : n ≤ 14) (hln : ln ≤ 100) (hu : ∀ k, u k < 256) (hp : ¬ (lN 0 ≤ x0 ∧ x0 ≤ (9999999999 : Int64))) : IP l yX7_runScript wsX7_runScript 1 25 D tc zb (w_md tc b b1 b2 b3 b4 b5 b6 th g ga sv n sl iz u ln) (w_md tc b b1 b2 b3 b4 b5 b6 (nI 1) g ga sv n sl iz u ln) [.ref b, .int (nI 2), .long (x0)] (some (.int (nI 0))) := by
  refine IP.of (cc := cX7_runScript) (maxL := 11) (ret := (some .int)) (by decide) rfl (Nat.le_of_ble_eq_true rfl) ?_
  intro p e s m args below meth c A hx hb hr hml hlk hts hown hM hS hP hD ls hl
  have hl : lv_has ls 11 [(0, .ref b), (1, .int (nI 2)), (2, .long (x0))] := hl
  obtain ⟨ok0, ok1, ok2, ok3, ok4, ok5, ok6⟩ := id hk
  refine lv_iload_n hx hb dX7_runScript_0 rfl (lv_at hl 1 rfl) ?_
  refine lv_iconst (v := (nI 1)) hx hb dX7_runScript_1 (by decide) ?_
  refine lv_icmp_ne (tgt := 11) hx hb dX7_runScript_2 (by decide) (fun _ => ?_) (fun h9 => False.elim (by revert h9; decide))
  refine lv_iload_n hx hb dX7_runScript_11 rfl (lv_at hl 1 rfl) ?_
  refine lv_iconst (v := (nI 2)) hx hb dX7_runScript_12 (by decide) ?_
  refine lv_icmp_ne (tgt := 22) hx hb dX7_runScript_13 (by decide) (fun h9 => False.elim (by revert h9; decide)) (fun _ => ?_)
  refine lv_ldc2 (v := (9999999999 : Int64)) hx hb hown (hts (.constantLong RX7 191 (9999999999)) (by decide +kernel)) dX7_runScript_16 ?_
  refine lv_goto (tgt := 25) hx hb dX7_runScript_19 (by decide) ?_
  refine lv_lstore (lv' := [(4, .long (9999999999)), (0, .ref b), (1, .int (nI 2)), (2, .long (x0))]) hx hb dX7_runScript_25 hl (by decide) rfl (fun ls hl => ?_)
  refine lv_aload_n hx hb dX7_runScript_27 rfl (lv_at hl 1 rfl) ?_
  refine lv_iload_n hx hb dX7_runScript_28 rfl (lv_at hl 2 rfl) ?_
  refine lv_i2l (v := ((nI 2)).toInt64) hx hb dX7_runScript_29 rfl ?_
  refine lv_lconst (v := (1 : Int64)) hx hb dX7_runScript_30 rfl ?_
  refine lv_ldc2 (v := (3 : Int64)) hx hb hown (hts (.constantLong RX7 195 (3)) (by decide +kernel)) dX7_runScript_31 ?_
  refine ro_S (n := 3) ⟨hx, hb, hml, hown, hts⟩ hM hS hP (c7_in_ok l D tc zb 2 1 3 (by omega) (by decide)) gX7_runScript_X7_in rfl (by decide +kernel) ⟨Nat.le_of_ble_eq_true rfl, Nat.le_of_ble_eq_true rfl⟩ [] rfl rfl hl.1 rfl (Nat.le_of_ble_eq_true rfl) dX7_runScript_34 ⟨Nat.le_refl _, Nat.le_refl _⟩ ?_
  refine lv_if_eq (tgt := 54) hx hb dX7_runScript_37 (by decide) (fun h9 => False.elim (by revert h9; decide)) (fun _ => ?_)
  refine lv_lload_n hx hb dX7_runScript_40 rfl (lv_at hl 3 rfl) ?_
  refine lv_lconst (v := (0 : Int64)) hx hb dX7_runScript_41 rfl ?_
  refine lv_lload hx hb dX7_runScript_42 (lv_at hl 0 rfl) ?_
  refine ro_S (n := 3) ⟨hx, hb, hml, hown, hts⟩ hM hS hP (c7_in_badL l D tc zb x0 0 9999999999 (by assumption)) gX7_runScript_X7_in rfl (by decide +kernel) ⟨Nat.le_of_ble_eq_true rfl, Nat.le_of_ble_eq_true rfl⟩ [] rfl rfl hl.1 rfl (Nat.le_of_ble_eq_true rfl) dX7_runScript_44 ⟨Nat.le_refl _, Nat.le_refl _⟩ ?_
  refine lv_if_eq (tgt := 54) hx hb dX7_runScript_47 (by decide) (fun _ => ?_) (fun h9 => False.elim (by revert h9; decide))
  refine lv_iconst (v := (nI 1)) hx hb dX7_runScript_54 (by decide) ?_
  refine ip_V (C := RX7) (n := 1) (wl' := [(b, .inr (6, [.int (nI 1), .ref b1, .ref b2, .ref b3, .int (nI n), .ref b4, .ref b5, .ref b6, .int (nI ln)])), (b1, .inl (tc 0, 60, .inl ((fun k => nI (g k))))), (b2, .inl (tc 0, 60, .inl ((fun k => nI (ga k))))), (b3, .inl (tc 0, 840, .inl ((fun k => nI (sv k))))), (b4, .inl (tc 0, 120, .inl ((fun k => nI (sl k))))), (b5, .inl (tc 3, 2, .inl ((fun k => bI (iz k))))), (b6, .inl (tc 2, 100, .inl ((fun k => byI (u k)))))]) ⟨hx, hb, hml, hown, hts⟩ hM hS hP hD (c7_holdsP l D tc zb b th (fun k9 => match k9 with | 1 => .ref b1 | 2 => .ref b2 | 3 => .ref b3 | 4 => .int (nI n) | 5 => .ref b4 | 6 => .ref b5 | 7 => .ref b6 | 8 => .int (nI ln) | _ => .null) 1 (by omega)) gX7_runScript_X7_holds rfl (by decide +kernel) ⟨Nat.le_of_ble_eq_true rfl, Nat.le_of_ble_eq_true rfl⟩ [0] rfl rfl [(true, 0), (false, 1), (false, 2), (false, 3), (false, 4), (false, 5), (false, 6)] rfl rfl rfl (va_recv hM.1 hP (ci := 6) (q0 := 0) rfl rfl) rfl hl.1 rfl (Nat.le_of_ble_eq_true rfl) dX7_runScript_55 ⟨Nat.le_refl _, Nat.le_refl _⟩ (fun H locs hP hD hS => ?_)
  refine W.eq (g2 := F0 m 58 ls [.int (bI (false))]) rfl ?_
  refine lv_if_ne (tgt := 63) hx hb dX7_runScript_58 (by decide) (fun h9 => False.elim (by revert h9; decide)) (fun _ => ?_)
  refine lv_iconst (v := (nI 0)) hx hb dX7_runScript_61 (by decide) ?_
  exact ip_iret hx hb hr hlk dX7_runScript_62 hS (rfl) hP
set_option maxHeartbeats 4000000 in
set_option maxRecDepth 100000 in
theorem c7_runScript_b2_3 (l : Launch) (D : va_G) (tc : Nat → ClassId) (zb : Nat) (b b1 b2 b3 b4 b5 b6 : Nat) (th : Int32) (g ga sv : Nat → Nat) (n : Nat) (sl : Nat → Nat) (iz : Nat → Bool) (u : Nat → Nat) (ln : Nat) (x0 : Int64) (hk : k_ok g) (hn : n ≤ 14) (hln : ln ≤ 100) (hu : ∀ k, u k < 256) (hp : ¬ (lN 0 ≤ x0 ∧ x0 ≤ (999999999999999 : Int64))) : IP l yX7_runScript wsX7_runScript 1 25 D tc zb (w_md tc b b1 b2 b3 b4 b5 b6 th g ga sv n sl iz u ln) (w_md tc b b1 b2 b3 b4 b5 b6 (nI 1) g ga sv n sl iz u ln) [.ref b, .int (nI 3), .long (x0)] (some (.int (nI 0))) := by
  refine IP.of (cc := cX7_runScript) (maxL := 11) (ret := (some .int)) (by decide) rfl (Nat.le_of_ble_eq_true rfl) ?_
  intro p e s m args below meth c A hx hb hr hml hlk hts hown hM hS hP hD ls hl
  have hl : lv_has ls 11 [(0, .ref b), (1, .int (nI 3)), (2, .long (x0))] := hl
  obtain ⟨ok0, ok1, ok2, ok3, ok4, ok5, ok6⟩ := id hk
  refine lv_iload_n hx hb dX7_runScript_0 rfl (lv_at hl 1 rfl) ?_
  refine lv_iconst (v := (nI 1)) hx hb dX7_runScript_1 (by decide) ?_
  refine lv_icmp_ne (tgt := 11) hx hb dX7_runScript_2 (by decide) (fun _ => ?_) (fun h9 => False.elim (by revert h9; decide))
  refine lv_iload_n hx hb dX7_runScript_11 rfl (lv_at hl 1 rfl) ?_
  refine lv_iconst (v := (nI 2)) hx hb dX7_runScript_12 (by decide) ?_
  refine lv_icmp_ne (tgt := 22) hx hb dX7_runScript_13 (by decide) (fun _ => ?_) (fun h9 => False.elim (by revert h9; decide))
  refine lv_ldc2 (v := (999999999999999 : Int64)) hx hb hown (hts (.constantLong RX7 193 (999999999999999)) (by decide +kernel)) dX7_runScript_22 ?_
  refine lv_lstore (lv' := [(4, .long (999999999999999)), (0, .ref b), (1, .int (nI 3)), (2, .long (x0))]) hx hb dX7_runScript_25 hl (by decide) rfl (fun ls hl => ?_)
  refine lv_aload_n hx hb dX7_runScript_27 rfl (lv_at hl 1 rfl) ?_
  refine lv_iload_n hx hb dX7_runScript_28 rfl (lv_at hl 2 rfl) ?_
  refine lv_i2l (v := ((nI 3)).toInt64) hx hb dX7_runScript_29 rfl ?_
  refine lv_lconst (v := (1 : Int64)) hx hb dX7_runScript_30 rfl ?_
  refine lv_ldc2 (v := (3 : Int64)) hx hb hown (hts (.constantLong RX7 195 (3)) (by decide +kernel)) dX7_runScript_31 ?_
  refine ro_S (n := 3) ⟨hx, hb, hml, hown, hts⟩ hM hS hP (c7_in_ok l D tc zb 3 1 3 (by omega) (by decide)) gX7_runScript_X7_in rfl (by decide +kernel) ⟨Nat.le_of_ble_eq_true rfl, Nat.le_of_ble_eq_true rfl⟩ [] rfl rfl hl.1 rfl (Nat.le_of_ble_eq_true rfl) dX7_runScript_34 ⟨Nat.le_refl _, Nat.le_refl _⟩ ?_
  refine lv_if_eq (tgt := 54) hx hb dX7_runScript_37 (by decide) (fun h9 => False.elim (by revert h9; decide)) (fun _ => ?_)
  refine lv_lload_n hx hb dX7_runScript_40 rfl (lv_at hl 3 rfl) ?_
  refine lv_lconst (v := (0 : Int64)) hx hb dX7_runScript_41 rfl ?_
  refine lv_lload hx hb dX7_runScript_42 (lv_at hl 0 rfl) ?_
  refine ro_S (n := 3) ⟨hx, hb, hml, hown, hts⟩ hM hS hP (c7_in_badL l D tc zb x0 0 999999999999999 (by assumption)) gX7_runScript_X7_in rfl (by decide +kernel) ⟨Nat.le_of_ble_eq_true rfl, Nat.le_of_ble_eq_true rfl⟩ [] rfl rfl hl.1 rfl (Nat.le_of_ble_eq_true rfl) dX7_runScript_44 ⟨Nat.le_refl _, Nat.le_refl _⟩ ?_
  refine lv_if_eq (tgt := 54) hx hb dX7_runScript_47 (by decide) (fun _ => ?_) (fun h9 => False.elim (by revert h9; decide))
  refine lv_iconst (v := (nI 1)) hx hb dX7_runScript_54 (by decide) ?_
  refine ip_V (C := RX7) (n := 1) (wl' := [(b, .inr (6, [.int (nI 1), .ref b1, .ref b2, .ref b3, .int (nI n), .ref b4, .ref b5, .ref b6, .int (nI ln)])), (b1, .inl (tc 0, 60, .inl ((fun k => nI (g k))))), (b2, .inl (tc 0, 60, .inl ((fun k => nI (ga k))))), (b3, .inl (tc 0, 840, .inl ((fun k => nI (sv k))))), (b4, .inl (tc 0, 120, .inl ((fun k => nI (sl k))))), (b5, .inl (tc 3, 2, .inl ((fun k => bI (iz k))))), (b6, .inl (tc 2, 100, .inl ((fun k => byI (u k)))))]) ⟨hx, hb, hml, hown, hts⟩ hM hS hP hD (c7_holdsP l D tc zb b th (fun k9 => match k9 with | 1 => .ref b1 | 2 => .ref b2 | 3 => .ref b3 | 4 => .int (nI n) | 5 => .ref b4 | 6 => .ref b5 | 7 => .ref b6 | 8 => .int (nI ln) | _ => .null) 1 (by omega)) gX7_runScript_X7_holds rfl (by decide +kernel) ⟨Nat.le_of_ble_eq_true rfl, Nat.le_of_ble_eq_true rfl⟩ [0] rfl rfl [(true, 0), (false, 1), (false, 2), (false, 3), (false, 4), (false, 5), (false, 6)] rfl rfl rfl (va_recv hM.1 hP (ci := 6) (q0 := 0) rfl rfl) rfl hl.1 rfl (Nat.le_of_ble_eq_true rfl) dX7_runScript_55 ⟨Nat.le_refl _, Nat.le_refl _⟩ (fun H locs hP hD hS => ?_)
  refine W.eq (g2 := F0 m 58 ls [.int (bI (false))]) rfl ?_
  refine lv_if_ne (tgt := 63) hx hb dX7_runScript_58 (by decide) (fun h9 => False.elim (by revert h9; decide)) (fun _ => ?_)
  refine lv_iconst (v := (nI 0)) hx hb dX7_runScript_61 (by decide) ?_
  exact ip_iret hx hb hr hlk dX7_runScript_62 hS (rfl) hP
