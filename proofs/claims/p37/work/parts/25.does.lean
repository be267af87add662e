set_option maxHeartbeats 4000000 in
set_option maxRecDepth 100000 in
theorem l_does_add (l : Launch) (D : va_G) (tc : Nat → ClassId) (zb : Nat) (x0 : Nat) (as : Nat → Nat) (tr : Nat → Int32) (qs : Nat → Int32) (g : Nat → Nat) (trc : Nat → Int32) (qsc : Nat → Int32) (gc : Nat → Nat) (od : Nat) (n : Nat) (tri : Nat → Nat → Int32) (qsi : Nat → Nat → Int32) (gi : Nat → Nat → Nat) (fc : Nat → Int32) (hc : Nat → Int32) (v1 : Int32) (v2 : Int32) (v3 : Int32) (v4 : Int32) (trs : Nat → Nat → Int32) (qss : Nat → Nat → Int32) (gs : Nat → Nat → Nat) (iz : Nat → Bool) (u : Nat → Nat) (ln : Nat) (v : Int32) (hk : k_ok g) (hR : k_R tr qs g) (hod : od < 14) (hn : n ≤ 14) (hv : bk v 15 ≤ 4) (hf : g 0 < 40) : IP l yL_does wsL_does 4 87 D tc zb (CW tc x0 as tr qs g trc qsc gc od n tri qsi gi fc hc v1 v2 v3 v4 trs qss gs iz u ln) (CW tc x0 as (k_ptr tr g (k_dgs (v >>> (nI 4 &&& 31)))) qs (m_put g (k_dgs (v >>> (nI 4 &&& 31)))) trc qsc gc (k_od od n) (k_n1 n + 1) (u_at tri ((od + n) % 14) (k_cp tr (tri ((od + n) % 14)) (g 0))) (u_at qsi ((od + n) % 14) (k_cp qs (qsi ((od + n) % 14)) (g 46))) (u_at gi ((od + n) % 14) g) fc hc v1 v2 v3 v4 trs qss gs iz u ln) [.ref x0, .int (v)] (some (.int (nI (k_pv g (k_dgs (v >>> (nI 4 &&& 31))))))) := by
  refine IP.of (cc := cL_does) (maxL := 3) (ret := (some .int)) (by decide) rfl (Nat.le_of_ble_eq_true rfl) ?_
  intro p e s m args below meth c A hx hb hr hml hlk hts hown hM hS hP hD ls hl
  have hl : lv_has ls 3 [(0, .ref x0), (1, .int (v))] := hl
  obtain ⟨ok0, ok1, ok2, ok3, ok4, ok5, ok6⟩ := id hk
  have hlo : k_low (v >>> (nI 4 &&& 31)) 6 < 6 := k_low_lt _ (by decide)
  have htd := k_dgs_lt (v >>> (nI 4 &&& 31))
  refine lv_iload_n hx hb dL_does_0 rfl (lv_at hl 1 rfl) ?_
  refine lv_iconst (v := (nI 4)) hx hb dL_does_1 (by decide) ?_
  refine lv_ishr hx hb dL_does_2 ?_
  refine lv_bipush (v := (nI 6)) hx hb dL_does_3 (by decide) ?_
  refine ro_S (n := 2) ⟨hx, hb, hml, hown, hts⟩ hM hS hP (l_low l D tc zb ((v >>> (nI 4 &&& 31))) 6 (by omega)) gL_does_L_low rfl (by decide +kernel) ⟨Nat.le_of_ble_eq_true rfl, Nat.le_of_ble_eq_true rfl⟩ [] rfl rfl hl.1 rfl (Nat.le_of_ble_eq_true rfl) dL_does_5 ⟨Nat.le_refl _, Nat.le_refl _⟩ ?_
  refine lv_istore_n (lv' := [(2, .int (nI (k_low ((v >>> (nI 4 &&& 31))) 6))), (0, .ref x0), (1, .int (v))]) hx hb dL_does_8 rfl hl (by decide) rfl (fun ls hl => ?_)
  refine lv_iload_n hx hb dL_does_9 rfl (lv_at hl 2 rfl) ?_
  refine lv_bipush (v := (nI 15)) hx hb dL_does_10 (by decide) ?_
  refine lv_iand hx hb dL_does_12 ?_
  refine ln_eq (x' := nI (bk v 15)) (bk_eq _ _) ?_
  refine ln_eq (x' := (nI (bk v 15))) (rfl) ?_
  rcases (show bk v 15 = 0 ∨ bk v 15 = 1 ∨ bk v 15 = 2 ∨ bk v 15 = 3 ∨ bk v 15 = 4 by omega) with hsw | hsw | hsw | hsw | hsw
  · refine ln_eq (x' := nI 0) (congrArg nI hsw) ?_
    refine lv_tableIn (off := 55) (tgt := 68) hx hb dL_does_13 (by decide) (by decide) (by decide) (by decide) ?_
    refine lv_aload_n hx hb dL_does_68 rfl (lv_at hl 1 rfl) ?_
    refine lv_iconst (v := (nI 0)) hx hb dL_does_69 (by decide) ?_
    refine ro_V (C := RX6) (n := 1) ⟨hx, hb, hml, hown, hts⟩ hM hS hP (c6_about_ok l D tc zb x0 (fun k9 => match k9 with | 0 => .ref (as 0) | 2 => .ref (as 5) | 3 => .ref (as 8) | 4 => .ref (as 52) | 5 => .ref (as 55) | 6 => .ref (as 59) | _ => .null) (as 2) (as 3) (as 4) tr qs g 0 hk hR (by omega)) gL_does_X6_about rfl (by decide +kernel) ⟨Nat.le_of_ble_eq_true rfl, Nat.le_of_ble_eq_true rfl⟩ [0, 3, 4, 5] rfl (va_recv hM.1 hP (ci := 5) (q0 := 0) rfl rfl) rfl hl.1 rfl (Nat.le_of_ble_eq_true rfl) dL_does_70 ⟨Nat.le_refl _, Nat.le_refl _⟩ ?_
    refine ln_eq (x' := (nI (g 0))) (rfl) ?_
    refine lv_bipush (v := (nI 40)) hx hb dL_does_73 (by decide) ?_
    refine ln_icmp_ge (tgt := 91) hx hb dL_does_75 (by decide) (by omega) (by decide) (fun h1 => ?_) (fun h1 => ?_)
    · exfalso; omega
    · refine lv_aload_n hx hb dL_does_78 rfl (lv_at hl 1 rfl) ?_
      refine lv_iload_n hx hb dL_does_79 rfl (lv_at hl 2 rfl) ?_
      refine lv_iconst (v := (nI 4)) hx hb dL_does_80 (by decide) ?_
      refine lv_ishr hx hb dL_does_81 ?_
      refine ro_S (n := 1) ⟨hx, hb, hml, hown, hts⟩ hM hS hP (l_digits l D tc zb ((v >>> (nI 4 &&& 31)))) gL_does_L_digits rfl (by decide +kernel) ⟨Nat.le_of_ble_eq_true rfl, Nat.le_of_ble_eq_true rfl⟩ [] rfl rfl hl.1 rfl (Nat.le_of_ble_eq_true rfl) dL_does_82 ⟨Nat.le_refl _, Nat.le_refl _⟩ ?_
      refine ipF_V (C := RX6) (n := 1) ⟨hx, hb, hml, hown, hts⟩ hM hS hP hD (mc := 0) (ms := 0) (up_add l D tc zb x0 as tr qs g trc qsc gc od n tri qsi gi fc hc ((v1)) ((v2)) ((v3)) ((v4)) trs qss gs iz u ln (by assumption) (by assumption) (by assumption) (by assumption) (k_dgs ((v >>> (nI 4 &&& 31)))) (by omega) (by exact Or.inl (by omega))) gL_does_X6_add rfl (by decide +kernel) ⟨Nat.le_of_ble_eq_true rfl, Nat.le_of_ble_eq_true rfl⟩ rfl (va_recv hM.1 hP (ci := 5) (q0 := 0) rfl rfl) rfl hl.1 rfl (Nat.le_of_ble_eq_true rfl) dL_does_85 ⟨Nat.le_refl _, Nat.le_refl _⟩ (fun H locs hP hD hS => ?_)
      refine W.eq (g2 := F0 m 88 ls [.int (nI (k_pv g (k_dgs ((v >>> (nI 4 &&& 31))))))]) rfl ?_
      refine lv_goto (tgt := 92) hx hb dL_does_88 (by decide) ?_
      exact ip_iret hx hb hr hlk dL_does_92 hS (congrArg nI (by rfl)) hP
  · refine ln_eq (x' := nI 1) (congrArg nI hsw) ?_
    refine lv_tableIn (off := 55) (tgt := 68) hx hb dL_does_13 (by decide) (by decide) (by decide) (by decide) ?_
    refine lv_aload_n hx hb dL_does_68 rfl (lv_at hl 1 rfl) ?_
    refine lv_iconst (v := (nI 0)) hx hb dL_does_69 (by decide) ?_
    refine ro_V (C := RX6) (n := 1) ⟨hx, hb, hml, hown, hts⟩ hM hS hP (c6_about_ok l D tc zb x0 (fun k9 => match k9 with | 0 => .ref (as 0) | 2 => .ref (as 5) | 3 => .ref (as 8) | 4 => .ref (as 52) | 5 => .ref (as 55) | 6 => .ref (as 59) | _ => .null) (as 2) (as 3) (as 4) tr qs g 0 hk hR (by omega)) gL_does_X6_about rfl (by decide +kernel) ⟨Nat.le_of_ble_eq_true rfl, Nat.le_of_ble_eq_true rfl⟩ [0, 3, 4, 5] rfl (va_recv hM.1 hP (ci := 5) (q0 := 0) rfl rfl) rfl hl.1 rfl (Nat.le_of_ble_eq_true rfl) dL_does_70 ⟨Nat.le_refl _, Nat.le_refl _⟩ ?_
    refine ln_eq (x' := (nI (g 0))) (rfl) ?_
    refine lv_bipush (v := (nI 40)) hx hb dL_does_73 (by decide) ?_
    refine ln_icmp_ge (tgt := 91) hx hb dL_does_75 (by decide) (by omega) (by decide) (fun h2 => ?_) (fun h2 => ?_)
    · exfalso; omega
    · refine lv_aload_n hx hb dL_does_78 rfl (lv_at hl 1 rfl) ?_
      refine lv_iload_n hx hb dL_does_79 rfl (lv_at hl 2 rfl) ?_
      refine lv_iconst (v := (nI 4)) hx hb dL_does_80 (by decide) ?_
      refine lv_ishr hx hb dL_does_81 ?_
      refine ro_S (n := 1) ⟨hx, hb, hml, hown, hts⟩ hM hS hP (l_digits l D tc zb ((v >>> (nI 4 &&& 31)))) gL_does_L_digits rfl (by decide +kernel) ⟨Nat.le_of_ble_eq_true rfl, Nat.le_of_ble_eq_true rfl⟩ [] rfl rfl hl.1 rfl (Nat.le_of_ble_eq_true rfl) dL_does_82 ⟨Nat.le_refl _, Nat.le_refl _⟩ ?_
      refine ipF_V (C := RX6) (n := 1) ⟨hx, hb, hml, hown, hts⟩ hM hS hP hD (mc := 0) (ms := 0) (up_add l D tc zb x0 as tr qs g trc qsc gc od n tri qsi gi fc hc ((v1)) ((v2)) ((v3)) ((v4)) trs qss gs iz u ln (by assumption) (by assumption) (by assumption) (by assumption) (k_dgs ((v >>> (nI 4 &&& 31)))) (by omega) (by exact Or.inl (by omega))) gL_does_X6_add rfl (by decide +kernel) ⟨Nat.le_of_ble_eq_true rfl, Nat.le_of_ble_eq_true rfl⟩ rfl (va_recv hM.1 hP (ci := 5) (q0 := 0) rfl rfl) rfl hl.1 rfl (Nat.le_of_ble_eq_true rfl) dL_does_85 ⟨Nat.le_refl _, Nat.le_refl _⟩ (fun H locs hP hD hS => ?_)
      refine W.eq (g2 := F0 m 88 ls [.int (nI (k_pv g (k_dgs ((v >>> (nI 4 &&& 31))))))]) rfl ?_
      refine lv_goto (tgt := 92) hx hb dL_does_88 (by decide) ?_
      exact ip_iret hx hb hr hlk dL_does_92 hS (congrArg nI (by rfl)) hP
  · refine ln_eq (x' := nI 2) (congrArg nI hsw) ?_
    refine lv_tableIn (off := 55) (tgt := 68) hx hb dL_does_13 (by decide) (by decide) (by decide) (by decide) ?_
    refine lv_aload_n hx hb dL_does_68 rfl (lv_at hl 1 rfl) ?_
    refine lv_iconst (v := (nI 0)) hx hb dL_does_69 (by decide) ?_
    refine ro_V (C := RX6) (n := 1) ⟨hx, hb, hml, hown, hts⟩ hM hS hP (c6_about_ok l D tc zb x0 (fun k9 => match k9 with | 0 => .ref (as 0) | 2 => .ref (as 5) | 3 => .ref (as 8) | 4 => .ref (as 52) | 5 => .ref (as 55) | 6 => .ref (as 59) | _ => .null) (as 2) (as 3) (as 4) tr qs g 0 hk hR (by omega)) gL_does_X6_about rfl (by decide +kernel) ⟨Nat.le_of_ble_eq_true rfl, Nat.le_of_ble_eq_true rfl⟩ [0, 3, 4, 5] rfl (va_recv hM.1 hP (ci := 5) (q0 := 0) rfl rfl) rfl hl.1 rfl (Nat.le_of_ble_eq_true rfl) dL_does_70 ⟨Nat.le_refl _, Nat.le_refl _⟩ ?_
    refine ln_eq (x' := (nI (g 0))) (rfl) ?_
    refine lv_bipush (v := (nI 40)) hx hb dL_does_73 (by decide) ?_
    refine ln_icmp_ge (tgt := 91) hx hb dL_does_75 (by decide) (by omega) (by decide) (fun h3 => ?_) (fun h3 => ?_)
    · exfalso; omega
    · refine lv_aload_n hx hb dL_does_78 rfl (lv_at hl 1 rfl) ?_
      refine lv_iload_n hx hb dL_does_79 rfl (lv_at hl 2 rfl) ?_
      refine lv_iconst (v := (nI 4)) hx hb dL_does_80 (by decide) ?_
      refine lv_ishr hx hb dL_does_81 ?_
      refine ro_S (n := 1) ⟨hx, hb, hml, hown, hts⟩ hM hS hP (l_digits l D tc zb ((v >>> (nI 4 &&& 31)))) gL_does_L_digits rfl (by decide +kernel) ⟨Nat.le_of_ble_eq_true rfl, Nat.le_of_ble_eq_true rfl⟩ [] rfl rfl hl.1 rfl (Nat.le_of_ble_eq_true rfl) dL_does_82 ⟨Nat.le_refl _, Nat.le_refl _⟩ ?_
      refine ipF_V (C := RX6) (n := 1) ⟨hx, hb, hml, hown, hts⟩ hM hS hP hD (mc := 0) (ms := 0) (up_add l D tc zb x0 as tr qs g trc qsc gc od n tri qsi gi fc hc ((v1)) ((v2)) ((v3)) ((v4)) trs qss gs iz u ln (by assumption) (by assumption) (by assumption) (by assumption) (k_dgs ((v >>> (nI 4 &&& 31)))) (by omega) (by exact Or.inl (by omega))) gL_does_X6_add rfl (by decide +kernel) ⟨Nat.le_of_ble_eq_true rfl, Nat.le_of_ble_eq_true rfl⟩ rfl (va_recv hM.1 hP (ci := 5) (q0 := 0) rfl rfl) rfl hl.1 rfl (Nat.le_of_ble_eq_true rfl) dL_does_85 ⟨Nat.le_refl _, Nat.le_refl _⟩ (fun H locs hP hD hS => ?_)
      refine W.eq (g2 := F0 m 88 ls [.int (nI (k_pv g (k_dgs ((v >>> (nI 4 &&& 31))))))]) rfl ?_
      refine lv_goto (tgt := 92) hx hb dL_does_88 (by decide) ?_
      exact ip_iret hx hb hr hlk dL_does_92 hS (congrArg nI (by rfl)) hP
  · refine ln_eq (x' := nI 3) (congrArg nI hsw) ?_
    refine lv_tableIn (off := 55) (tgt := 68) hx hb dL_does_13 (by decide) (by decide) (by decide) (by decide) ?_
    refine lv_aload_n hx hb dL_does_68 rfl (lv_at hl 1 rfl) ?_
    refine lv_iconst (v := (nI 0)) hx hb dL_does_69 (by decide) ?_
    refine ro_V (C := RX6) (n := 1) ⟨hx, hb, hml, hown, hts⟩ hM hS hP (c6_about_ok l D tc zb x0 (fun k9 => match k9 with | 0 => .ref (as 0) | 2 => .ref (as 5) | 3 => .ref (as 8) | 4 => .ref (as 52) | 5 => .ref (as 55) | 6 => .ref (as 59) | _ => .null) (as 2) (as 3) (as 4) tr qs g 0 hk hR (by omega)) gL_does_X6_about rfl (by decide +kernel) ⟨Nat.le_of_ble_eq_true rfl, Nat.le_of_ble_eq_true rfl⟩ [0, 3, 4, 5] rfl (va_recv hM.1 hP (ci := 5) (q0 := 0) rfl rfl) rfl hl.1 rfl (Nat.le_of_ble_eq_true rfl) dL_does_70 ⟨Nat.le_refl _, Nat.le_refl _⟩ ?_
    refine ln_eq (x' := (nI (g 0))) (rfl) ?_
    refine lv_bipush (v := (nI 40)) hx hb dL_does_73 (by decide) ?_
    refine ln_icmp_ge (tgt := 91) hx hb dL_does_75 (by decide) (by omega) (by decide) (fun h4 => ?_) (fun h4 => ?_)
    · exfalso; omega
    · refine lv_aload_n hx hb dL_does_78 rfl (lv_at hl 1 rfl) ?_
      refine lv_iload_n hx hb dL_does_79 rfl (lv_at hl 2 rfl) ?_
      refine lv_iconst (v := (nI 4)) hx hb dL_does_80 (by decide) ?_
      refine lv_ishr hx hb dL_does_81 ?_
      refine ro_S (n := 1) ⟨hx, hb, hml, hown, hts⟩ hM hS hP (l_digits l D tc zb ((v >>> (nI 4 &&& 31)))) gL_does_L_digits rfl (by decide +kernel) ⟨Nat.le_of_ble_eq_true rfl, Nat.le_of_ble_eq_true rfl⟩ [] rfl rfl hl.1 rfl (Nat.le_of_ble_eq_true rfl) dL_does_82 ⟨Nat.le_refl _, Nat.le_refl _⟩ ?_
      refine ipF_V (C := RX6) (n := 1) ⟨hx, hb, hml, hown, hts⟩ hM hS hP hD (mc := 0) (ms := 0) (up_add l D tc zb x0 as tr qs g trc qsc gc od n tri qsi gi fc hc ((v1)) ((v2)) ((v3)) ((v4)) trs qss gs iz u ln (by assumption) (by assumption) (by assumption) (by assumption) (k_dgs ((v >>> (nI 4 &&& 31)))) (by omega) (by exact Or.inl (by omega))) gL_does_X6_add rfl (by decide +kernel) ⟨Nat.le_of_ble_eq_true rfl, Nat.le_of_ble_eq_true rfl⟩ rfl (va_recv hM.1 hP (ci := 5) (q0 := 0) rfl rfl) rfl hl.1 rfl (Nat.le_of_ble_eq_true rfl) dL_does_85 ⟨Nat.le_refl _, Nat.le_refl _⟩ (fun H locs hP hD hS => ?_)
      refine W.eq (g2 := F0 m 88 ls [.int (nI (k_pv g (k_dgs ((v >>> (nI 4 &&& 31))))))]) rfl ?_
      refine lv_goto (tgt := 92) hx hb dL_does_88 (by decide) ?_
      exact ip_iret hx hb hr hlk dL_does_92 hS (congrArg nI (by rfl)) hP
  · refine ln_eq (x' := nI 4) (congrArg nI hsw) ?_
    refine lv_tableIn (off := 55) (tgt := 68) hx hb dL_does_13 (by decide) (by decide) (by decide) (by decide) ?_
    refine lv_aload_n hx hb dL_does_68 rfl (lv_at hl 1 rfl) ?_
    refine lv_iconst (v := (nI 0)) hx hb dL_does_69 (by decide) ?_
    refine ro_V (C := RX6) (n := 1) ⟨hx, hb, hml, hown, hts⟩ hM hS hP (c6_about_ok l D tc zb x0 (fun k9 => match k9 with | 0 => .ref (as 0) | 2 => .ref (as 5) | 3 => .ref (as 8) | 4 => .ref (as 52) | 5 => .ref (as 55) | 6 => .ref (as 59) | _ => .null) (as 2) (as 3) (as 4) tr qs g 0 hk hR (by omega)) gL_does_X6_about rfl (by decide +kernel) ⟨Nat.le_of_ble_eq_true rfl, Nat.le_of_ble_eq_true rfl⟩ [0, 3, 4, 5] rfl (va_recv hM.1 hP (ci := 5) (q0 := 0) rfl rfl) rfl hl.1 rfl (Nat.le_of_ble_eq_true rfl) dL_does_70 ⟨Nat.le_refl _, Nat.le_refl _⟩ ?_
    refine ln_eq (x' := (nI (g 0))) (rfl) ?_
    refine lv_bipush (v := (nI 40)) hx hb dL_does_73 (by decide) ?_
    refine ln_icmp_ge (tgt := 91) hx hb dL_does_75 (by decide) (by omega) (by decide) (fun h5 => ?_) (fun h5 => ?_)
    · exfalso; omega
    · refine lv_aload_n hx hb dL_does_78 rfl (lv_at hl 1 rfl) ?_
      refine lv_iload_n hx hb dL_does_79 rfl (lv_at hl 2 rfl) ?_
      refine lv_iconst (v := (nI 4)) hx hb dL_does_80 (by decide) ?_
      refine lv_ishr hx hb dL_does_81 ?_
      refine ro_S (n := 1) ⟨hx, hb, hml, hown, hts⟩ hM hS hP (l_digits l D tc zb ((v >>> (nI 4 &&& 31)))) gL_does_L_digits rfl (by decide +kernel) ⟨Nat.le_of_ble_eq_true rfl, Nat.le_of_ble_eq_true rfl⟩ [] rfl rfl hl.1 rfl (Nat.le_of_ble_eq_true rfl) dL_does_82 ⟨Nat.le_refl _, Nat.le_refl _⟩ ?_
      refine ipF_V (C := RX6) (n := 1) ⟨hx, hb, hml, hown, hts⟩ hM hS hP hD (mc := 0) (ms := 0) (up_add l D tc zb x0 as tr qs g trc qsc gc od n tri qsi gi fc hc ((v1)) ((v2)) ((v3)) ((v4)) trs qss gs iz u ln (by assumption) (by assumption) (by assumption) (by assumption) (k_dgs ((v >>> (nI 4 &&& 31)))) (by omega) (by exact Or.inl (by omega))) gL_does_X6_add rfl (by decide +kernel) ⟨Nat.le_of_ble_eq_true rfl, Nat.le_of_ble_eq_true rfl⟩ rfl (va_recv hM.1 hP (ci := 5) (q0 := 0) rfl rfl) rfl hl.1 rfl (Nat.le_of_ble_eq_true rfl) dL_does_85 ⟨Nat.le_refl _, Nat.le_refl _⟩ (fun H locs hP hD hS => ?_)
      refine W.eq (g2 := F0 m 88 ls [.int (nI (k_pv g (k_dgs ((v >>> (nI 4 &&& 31))))))]) rfl ?_
      refine lv_goto (tgt := 92) hx hb dL_does_88 (by decide) ?_
      exact ip_iret hx hb hr hlk dL_does_92 hS (congrArg nI (by rfl)) hP
set_option maxHeartbeats 4000000 in
set_option maxRecDepth 100000 in
theorem l_does_full (l : Launch) (D : va_G) (tc : Nat → ClassId) (zb : Nat) (x0 : Nat) (as : Nat → Nat) (tr : Nat → Int32) (qs : Nat → Int32) (g : Nat → Nat) (trc : Nat → Int32) (qsc : Nat → Int32) (gc : Nat → Nat) (od : Nat) (n : Nat) (tri : Nat → Nat → Int32) (qsi : Nat → Nat → Int32) (gi : Nat → Nat → Nat) (fc : Nat → Int32) (hc : Nat → Int32) (v1 : Int32) (v2 : Int32) (v3 : Int32) (v4 : Int32) (trs : Nat → Nat → Int32) (qss : Nat → Nat → Int32) (gs : Nat → Nat → Nat) (iz : Nat → Bool) (u : Nat → Nat) (ln : Nat) (v : Int32) (hk : k_ok g) (hR : k_R tr qs g) (hod : od < 14) (hn : n ≤ 14) (hv : bk v 15 ≤ 4) (hf : ¬ g 0 < 40) : IP l yL_does wsL_does 2 42 D tc zb (CW tc x0 as tr qs g trc qsc gc od n tri qsi gi fc hc v1 v2 v3 v4 trs qss gs iz u ln) (CW tc x0 as tr qs g trc qsc gc od n tri qsi gi fc hc v1 v2 v3 v4 trs qss gs iz u ln) [.ref x0, .int (v)] (some (.int (nI 0))) := by
  refine IP.of (cc := cL_does) (maxL := 3) (ret := (some .int)) (by decide) rfl (Nat.le_of_ble_eq_true rfl) ?_
  intro p e s m args below meth c A hx hb hr hml hlk hts hown hM hS hP hD ls hl
  have hl : lv_has ls 3 [(0, .ref x0), (1, .int (v))] := hl
  obtain ⟨ok0, ok1, ok2, ok3, ok4, ok5, ok6⟩ := id hk
  have hlo : k_low (v >>> (nI 4 &&& 31)) 6 < 6 := k_low_lt _ (by decide)
  refine lv_iload_n hx hb dL_does_0 rfl (lv_at hl 1 rfl) ?_
  refine lv_iconst (v := (nI 4)) hx hb dL_does_1 (by decide) ?_
  refine lv_ishr hx hb dL_does_2 ?_
  refine lv_bipush (v := (nI 6)) hx hb dL_does_3 (by decide) ?_
  refine ro_S (n := 2) ⟨hx, hb, hml, hown, hts⟩ hM hS hP (l_low l D tc zb ((v >>> (nI 4 &&& 31))) 6 (by omega)) gL_does_L_low rfl (by decide +kernel) ⟨Nat.le_of_ble_eq_true rfl, Nat.le_of_ble_eq_true rfl⟩ [] rfl rfl hl.1 rfl (Nat.le_of_ble_eq_true rfl) dL_does_5 ⟨Nat.le_refl _, Nat.le_refl _⟩ ?_
  refine lv_istore_n (lv' := [(2, .int (nI (k_low ((v >>> (nI 4 &&& 31))) 6))), (0, .ref x0), (1, .int (v))]) hx hb dL_does_8 rfl hl (by decide) rfl (fun ls hl => ?_)
  refine lv_iload_n hx hb dL_does_9 rfl (lv_at hl 2 rfl) ?_
  refine lv_bipush (v := (nI 15)) hx hb dL_does_10 (by decide) ?_
  refine lv_iand hx hb dL_does_12 ?_
  refine ln_eq (x' := nI (bk v 15)) (bk_eq _ _) ?_
  refine ln_eq (x' := (nI (bk v 15))) (rfl) ?_
  rcases (show bk v 15 = 0 ∨ bk v 15 = 1 ∨ bk v 15 = 2 ∨ bk v 15 = 3 ∨ bk v 15 = 4 by omega) with hsw | hsw | hsw | hsw | hsw
  · refine ln_eq (x' := nI 0) (congrArg nI hsw) ?_
    refine lv_tableIn (off := 55) (tgt := 68) hx hb dL_does_13 (by decide) (by decide) (by decide) (by decide) ?_
    refine lv_aload_n hx hb dL_does_68 rfl (lv_at hl 1 rfl) ?_
    refine lv_iconst (v := (nI 0)) hx hb dL_does_69 (by decide) ?_
    refine ro_V (C := RX6) (n := 1) ⟨hx, hb, hml, hown, hts⟩ hM hS hP (c6_about_ok l D tc zb x0 (fun k9 => match k9 with | 0 => .ref (as 0) | 2 => .ref (as 5) | 3 => .ref (as 8) | 4 => .ref (as 52) | 5 => .ref (as 55) | 6 => .ref (as 59) | _ => .null) (as 2) (as 3) (as 4) tr qs g 0 hk hR (by omega)) gL_does_X6_about rfl (by decide +kernel) ⟨Nat.le_of_ble_eq_true rfl, Nat.le_of_ble_eq_true rfl⟩ [0, 3, 4, 5] rfl (va_recv hM.1 hP (ci := 5) (q0 := 0) rfl rfl) rfl hl.1 rfl (Nat.le_of_ble_eq_true rfl) dL_does_70 ⟨Nat.le_refl _, Nat.le_refl _⟩ ?_
    refine ln_eq (x' := (nI (g 0))) (rfl) ?_
    refine lv_bipush (v := (nI 40)) hx hb dL_does_73 (by decide) ?_
    refine ln_icmp_ge (tgt := 91) hx hb dL_does_75 (by decide) (by omega) (by decide) (fun h1 => ?_) (fun h1 => ?_)
    · refine lv_iconst (v := (nI 0)) hx hb dL_does_91 (by decide) ?_
      exact ip_iret hx hb hr hlk dL_does_92 hS (rfl) hP
    · exfalso; omega
  · refine ln_eq (x' := nI 1) (congrArg nI hsw) ?_
    refine lv_tableIn (off := 55) (tgt := 68) hx hb dL_does_13 (by decide) (by decide) (by decide) (by decide) ?_
    refine lv_aload_n hx hb dL_does_68 rfl (lv_at hl 1 rfl) ?_
    refine lv_iconst (v := (nI 0)) hx hb dL_does_69 (by decide) ?_
    refine ro_V (C := RX6) (n := 1) ⟨hx, hb, hml, hown, hts⟩ hM hS hP (c6_about_ok l D tc zb x0 (fun k9 => match k9 with | 0 => .ref (as 0) | 2 => .ref (as 5) | 3 => .ref (as 8) | 4 => .ref (as 52) | 5 => .ref (as 55) | 6 => .ref (as 59) | _ => .null) (as 2) (as 3) (as 4) tr qs g 0 hk hR (by omega)) gL_does_X6_about rfl (by decide +kernel) ⟨Nat.le_of_ble_eq_true rfl, Nat.le_of_ble_eq_true rfl⟩ [0, 3, 4, 5] rfl (va_recv hM.1 hP (ci := 5) (q0 := 0) rfl rfl) rfl hl.1 rfl (Nat.le_of_ble_eq_true rfl) dL_does_70 ⟨Nat.le_refl _, Nat.le_refl _⟩ ?_
    refine ln_eq (x' := (nI (g 0))) (rfl) ?_
    refine lv_bipush (v := (nI 40)) hx hb dL_does_73 (by decide) ?_
    refine ln_icmp_ge (tgt := 91) hx hb dL_does_75 (by decide) (by omega) (by decide) (fun h2 => ?_) (fun h2 => ?_)
    · refine lv_iconst (v := (nI 0)) hx hb dL_does_91 (by decide) ?_
      exact ip_iret hx hb hr hlk dL_does_92 hS (rfl) hP
    · exfalso; omega
  · refine ln_eq (x' := nI 2) (congrArg nI hsw) ?_
    refine lv_tableIn (off := 55) (tgt := 68) hx hb dL_does_13 (by decide) (by decide) (by decide) (by decide) ?_
    refine lv_aload_n hx hb dL_does_68 rfl (lv_at hl 1 rfl) ?_
    refine lv_iconst (v := (nI 0)) hx hb dL_does_69 (by decide) ?_
    refine ro_V (C := RX6) (n := 1) ⟨hx, hb, hml, hown, hts⟩ hM hS hP (c6_about_ok l D tc zb x0 (fun k9 => match k9 with | 0 => .ref (as 0) | 2 => .ref (as 5) | 3 => .ref (as 8) | 4 => .ref (as 52) | 5 => .ref (as 55) | 6 => .ref (as 59) | _ => .null) (as 2) (as 3) (as 4) tr qs g 0 hk hR (by omega)) gL_does_X6_about rfl (by decide +kernel) ⟨Nat.le_of_ble_eq_true rfl, Nat.le_of_ble_eq_true rfl⟩ [0, 3, 4, 5] rfl (va_recv hM.1 hP (ci := 5) (q0 := 0) rfl rfl) rfl hl.1 rfl (Nat.le_of_ble_eq_true rfl) dL_does_70 ⟨Nat.le_refl _, Nat.le_refl _⟩ ?_
    refine ln_eq (x' := (nI (g 0))) (rfl) ?_
    refine lv_bipush (v := (nI 40)) hx hb dL_does_73 (by decide) ?_
    refine ln_icmp_ge (tgt := 91) hx hb dL_does_75 (by decide) (by omega) (by decide) (fun h3 => ?_) (fun h3 => ?_)
    · refine lv_iconst (v := (nI 0)) hx hb dL_does_91 (by decide) ?_
      exact ip_iret hx hb hr hlk dL_does_92 hS (rfl) hP
    · exfalso; omega
  · refine ln_eq (x' := nI 3) (congrArg nI hsw) ?_
    refine lv_tableIn (off := 55) (tgt := 68) hx hb dL_does_13 (by decide) (by decide) (by decide) (by decide) ?_
    refine lv_aload_n hx hb dL_does_68 rfl (lv_at hl 1 rfl) ?_
    refine lv_iconst (v := (nI 0)) hx hb dL_does_69 (by decide) ?_
    refine ro_V (C := RX6) (n := 1) ⟨hx, hb, hml, hown, hts⟩ hM hS hP (c6_about_ok l D tc zb x0 (fun k9 => match k9 with | 0 => .ref (as 0) | 2 => .ref (as 5) | 3 => .ref (as 8) | 4 => .ref (as 52) | 5 => .ref (as 55) | 6 => .ref (as 59) | _ => .null) (as 2) (as 3) (as 4) tr qs g 0 hk hR (by omega)) gL_does_X6_about rfl (by decide +kernel) ⟨Nat.le_of_ble_eq_true rfl, Nat.le_of_ble_eq_true rfl⟩ [0, 3, 4, 5] rfl (va_recv hM.1 hP (ci := 5) (q0 := 0) rfl rfl) rfl hl.1 rfl (Nat.le_of_ble_eq_true rfl) dL_does_70 ⟨Nat.le_refl _, Nat.le_refl _⟩ ?_
    refine ln_eq (x' := (nI (g 0))) (rfl) ?_
    refine lv_bipush (v := (nI 40)) hx hb dL_does_73 (by decide) ?_
    refine ln_icmp_ge (tgt := 91) hx hb dL_does_75 (by decide) (by omega) (by decide) (fun h4 => ?_) (fun h4 => ?_)
    · refine lv_iconst (v := (nI 0)) hx hb dL_does_91 (by decide) ?_
      exact ip_iret hx hb hr hlk dL_does_92 hS (rfl) hP
    · exfalso; omega
  · refine ln_eq (x' := nI 4) (congrArg nI hsw) ?_
    refine lv_tableIn (off := 55) (tgt := 68) hx hb dL_does_13 (by decide) (by decide) (by decide) (by decide) ?_
    refine lv_aload_n hx hb dL_does_68 rfl (lv_at hl 1 rfl) ?_
    refine lv_iconst (v := (nI 0)) hx hb dL_does_69 (by decide) ?_
    refine ro_V (C := RX6) (n := 1) ⟨hx, hb, hml, hown, hts⟩ hM hS hP (c6_about_ok l D tc zb x0 (fun k9 => match k9 with | 0 => .ref (as 0) | 2 => .ref (as 5) | 3 => .ref (as 8) | 4 => .ref (as 52) | 5 => .ref (as 55) | 6 => .ref (as 59) | _ => .null) (as 2) (as 3) (as 4) tr qs g 0 hk hR (by omega)) gL_does_X6_about rfl (by decide +kernel) ⟨Nat.le_of_ble_eq_true rfl, Nat.le_of_ble_eq_true rfl⟩ [0, 3, 4, 5] rfl (va_recv hM.1 hP (ci := 5) (q0 := 0) rfl rfl) rfl hl.1 rfl (Nat.le_of_ble_eq_true rfl) dL_does_70 ⟨Nat.le_refl _, Nat.le_refl _⟩ ?_
    refine ln_eq (x' := (nI (g 0))) (rfl) ?_
    refine lv_bipush (v := (nI 40)) hx hb dL_does_73 (by decide) ?_
    refine ln_icmp_ge (tgt := 91) hx hb dL_does_75 (by decide) (by omega) (by decide) (fun h5 => ?_) (fun h5 => ?_)
    · refine lv_iconst (v := (nI 0)) hx hb dL_does_91 (by decide) ?_
      exact ip_iret hx hb hr hlk dL_does_92 hS (rfl) hP
    · exfalso; omega
set_option maxHeartbeats 4000000 in
set_option maxRecDepth 100000 in
theorem l_does_remove (l : Launch) (D : va_G) (tc : Nat → ClassId) (zb : Nat) (x0 : Nat) (as : Nat → Nat) (tr : Nat → Int32) (qs : Nat → Int32) (g : Nat → Nat) (trc : Nat → Int32) (qsc : Nat → Int32) (gc : Nat → Nat) (od : Nat) (n : Nat) (tri : Nat → Nat → Int32) (qsi : Nat → Nat → Int32) (gi : Nat → Nat → Nat) (fc : Nat → Int32) (hc : Nat → Int32) (v1 : Int32) (v2 : Int32) (v3 : Int32) (v4 : Int32) (trs : Nat → Nat → Int32) (qss : Nat → Nat → Int32) (gs : Nat → Nat → Nat) (iz : Nat → Bool) (u : Nat → Nat) (ln : Nat) (v : Int32) (hk : k_ok g) (hR : k_R tr qs g) (hod : od < 14) (hn : n ≤ 14) (hv : bk v 15 = 5) : IP l yL_does wsL_does 4 87 D tc zb (CW tc x0 as tr qs g trc qsc gc od n tri qsi gi fc hc v1 v2 v3 v4 trs qss gs iz u ln) (CW tc x0 as (k_rtr tr g (k_dgs (v >>> (nI 4 &&& 31)))) qs (m_rem g (k_dgs (v >>> (nI 4 &&& 31)))) trc qsc gc (k_od od n) (k_n1 n + 1) (u_at tri ((od + n) % 14) (k_cp tr (tri ((od + n) % 14)) (g 0))) (u_at qsi ((od + n) % 14) (k_cp qs (qsi ((od + n) % 14)) (g 46))) (u_at gi ((od + n) % 14) g) fc hc v1 v2 v3 v4 trs qss gs iz u ln) [.ref x0, .int (v)] (some (.int (nI (k_rv g (k_dgs (v >>> (nI 4 &&& 31))))))) := by
  refine IP.of (cc := cL_does) (maxL := 3) (ret := (some .int)) (by decide) rfl (Nat.le_of_ble_eq_true rfl) ?_
  intro p e s m args below meth c A hx hb hr hml hlk hts hown hM hS hP hD ls hl
  have hl : lv_has ls 3 [(0, .ref x0), (1, .int (v))] := hl
  obtain ⟨ok0, ok1, ok2, ok3, ok4, ok5, ok6⟩ := id hk
  have hlo : k_low (v >>> (nI 4 &&& 31)) 6 < 6 := k_low_lt _ (by decide)
  have htd := k_dgs_lt (v >>> (nI 4 &&& 31))
  refine lv_iload_n hx hb dL_does_0 rfl (lv_at hl 1 rfl) ?_
  refine lv_iconst (v := (nI 4)) hx hb dL_does_1 (by decide) ?_
  refine lv_ishr hx hb dL_does_2 ?_
  refine lv_bipush (v := (nI 6)) hx hb dL_does_3 (by decide) ?_
  refine ro_S (n := 2) ⟨hx, hb, hml, hown, hts⟩ hM hS hP (l_low l D tc zb ((v >>> (nI 4 &&& 31))) 6 (by omega)) gL_does_L_low rfl (by decide +kernel) ⟨Nat.le_of_ble_eq_true rfl, Nat.le_of_ble_eq_true rfl⟩ [] rfl rfl hl.1 rfl (Nat.le_of_ble_eq_true rfl) dL_does_5 ⟨Nat.le_refl _, Nat.le_refl _⟩ ?_
  refine lv_istore_n (lv' := [(2, .int (nI (k_low ((v >>> (nI 4 &&& 31))) 6))), (0, .ref x0), (1, .int (v))]) hx hb dL_does_8 rfl hl (by decide) rfl (fun ls hl => ?_)
  refine lv_iload_n hx hb dL_does_9 rfl (lv_at hl 2 rfl) ?_
  refine lv_bipush (v := (nI 15)) hx hb dL_does_10 (by decide) ?_
  refine lv_iand hx hb dL_does_12 ?_
  refine ln_eq (x' := nI (bk v 15)) (bk_eq _ _) ?_
  refine ln_eq (x' := (nI 5)) (congrArg nI hv) ?_
  refine lv_tableIn (off := 80) (tgt := 93) hx hb dL_does_13 (by decide) (by decide) (by decide) (by decide) ?_
  refine lv_aload_n hx hb dL_does_93 rfl (lv_at hl 1 rfl) ?_
  refine lv_iload_n hx hb dL_does_94 rfl (lv_at hl 2 rfl) ?_
  refine lv_iconst (v := (nI 4)) hx hb dL_does_95 (by decide) ?_
  refine lv_ishr hx hb dL_does_96 ?_
  refine ro_S (n := 1) ⟨hx, hb, hml, hown, hts⟩ hM hS hP (l_digits l D tc zb ((v >>> (nI 4 &&& 31)))) gL_does_L_digits rfl (by decide +kernel) ⟨Nat.le_of_ble_eq_true rfl, Nat.le_of_ble_eq_true rfl⟩ [] rfl rfl hl.1 rfl (Nat.le_of_ble_eq_true rfl) dL_does_97 ⟨Nat.le_refl _, Nat.le_refl _⟩ ?_
  refine ipF_V (C := RX6) (n := 1) ⟨hx, hb, hml, hown, hts⟩ hM hS hP hD (mc := 0) (ms := 0) (up_remove l D tc zb x0 as tr qs g trc qsc gc od n tri qsi gi fc hc ((v1)) ((v2)) ((v3)) ((v4)) trs qss gs iz u ln (by assumption) (by assumption) (by assumption) (by assumption) (k_dgs ((v >>> (nI 4 &&& 31)))) (by omega)) gL_does_X6_remove rfl (by decide +kernel) ⟨Nat.le_of_ble_eq_true rfl, Nat.le_of_ble_eq_true rfl⟩ rfl (va_recv hM.1 hP (ci := 5) (q0 := 0) rfl rfl) rfl hl.1 rfl (Nat.le_of_ble_eq_true rfl) dL_does_100 ⟨Nat.le_refl _, Nat.le_refl _⟩ (fun H locs hP hD hS => ?_)
  refine W.eq (g2 := F0 m 103 ls [.int (nI (k_rv g (k_dgs ((v >>> (nI 4 &&& 31))))))]) rfl ?_
  exact ip_iret hx hb hr hlk dL_does_103 hS (congrArg nI (by rfl)) hP
set_option maxHeartbeats 4000000 in
set_option maxRecDepth 100000 in
theorem l_does_build6 (l : Launch) (D : va_G) (tc : Nat → ClassId) (zb : Nat) (x0 : Nat) (as : Nat → Nat) (tr : Nat → Int32) (qs : Nat → Int32) (g : Nat → Nat) (trc : Nat → Int32) (qsc : Nat → Int32) (gc : Nat → Nat) (od : Nat) (n : Nat) (tri : Nat → Nat → Int32) (qsi : Nat → Nat → Int32) (gi : Nat → Nat → Nat) (fc : Nat → Int32) (hc : Nat → Int32) (v1 : Int32) (v2 : Int32) (v3 : Int32) (v4 : Int32) (trs : Nat → Nat → Int32) (qss : Nat → Nat → Int32) (gs : Nat → Nat → Nat) (iz : Nat → Bool) (u : Nat → Nat) (ln : Nat) (v : Int32) (hk : k_ok g) (hR : k_R tr qs g) (hod : od < 14) (hn : n ≤ 14) (hv : bk v 15 = 6) (hin : k_in (g 41) (k_low (v >>> (nI 4 &&& 31)) 6) = false) : IP l yL_does wsL_does 4 87 D tc zb (CW tc x0 as tr qs g trc qsc gc od n tri qsi gi fc hc v1 v2 v3 v4 trs qss gs iz u ln) (CW tc x0 as tr qs (m_bld g (k_low (v >>> (nI 4 &&& 31)) 6)) trc qsc gc (k_od od n) (k_n1 n + 1) (u_at tri ((od + n) % 14) (k_cp tr (tri ((od + n) % 14)) (g 0))) (u_at qsi ((od + n) % 14) (k_cp qs (qsi ((od + n) % 14)) (g 46))) (u_at gi ((od + n) % 14) g) fc hc v1 v2 v3 v4 trs qss gs iz u ln) [.ref x0, .int (v)] (some (.int (nI (g 0 * k_lk (g 0))))) := by
  refine IP.of (cc := cL_does) (maxL := 3) (ret := (some .int)) (by decide) rfl (Nat.le_of_ble_eq_true rfl) ?_
  intro p e s m args below meth c A hx hb hr hml hlk hts hown hM hS hP hD ls hl
  have hl : lv_has ls 3 [(0, .ref x0), (1, .int (v))] := hl
  obtain ⟨ok0, ok1, ok2, ok3, ok4, ok5, ok6⟩ := id hk
  have hlo : k_low (v >>> (nI 4 &&& 31)) 6 < 6 := k_low_lt _ (by decide)
  have hin9 := k_in_n hin
  refine lv_iload_n hx hb dL_does_0 rfl (lv_at hl 1 rfl) ?_
  refine lv_iconst (v := (nI 4)) hx hb dL_does_1 (by decide) ?_
  refine lv_ishr hx hb dL_does_2 ?_
  refine lv_bipush (v := (nI 6)) hx hb dL_does_3 (by decide) ?_
  refine ro_S (n := 2) ⟨hx, hb, hml, hown, hts⟩ hM hS hP (l_low l D tc zb ((v >>> (nI 4 &&& 31))) 6 (by omega)) gL_does_L_low rfl (by decide +kernel) ⟨Nat.le_of_ble_eq_true rfl, Nat.le_of_ble_eq_true rfl⟩ [] rfl rfl hl.1 rfl (Nat.le_of_ble_eq_true rfl) dL_does_5 ⟨Nat.le_refl _, Nat.le_refl _⟩ ?_
  refine lv_istore_n (lv' := [(2, .int (nI (k_low ((v >>> (nI 4 &&& 31))) 6))), (0, .ref x0), (1, .int (v))]) hx hb dL_does_8 rfl hl (by decide) rfl (fun ls hl => ?_)
  refine lv_iload_n hx hb dL_does_9 rfl (lv_at hl 2 rfl) ?_
  refine lv_bipush (v := (nI 15)) hx hb dL_does_10 (by decide) ?_
  refine lv_iand hx hb dL_does_12 ?_
  refine ln_eq (x' := nI (bk v 15)) (bk_eq _ _) ?_
  refine ln_eq (x' := (nI 6)) (congrArg nI hv) ?_
  refine lv_tableIn (off := 91) (tgt := 104) hx hb dL_does_13 (by decide) (by decide) (by decide) (by decide) ?_
  refine lv_aload_n hx hb dL_does_104 rfl (lv_at hl 1 rfl) ?_
  refine lv_iconst (v := (nI 1)) hx hb dL_does_105 (by decide) ?_
  refine ro_V (C := RX6) (n := 1) ⟨hx, hb, hml, hown, hts⟩ hM hS hP (c6_about_ok l D tc zb x0 (fun k9 => match k9 with | 0 => .ref (as 0) | 2 => .ref (as 5) | 3 => .ref (as 8) | 4 => .ref (as 52) | 5 => .ref (as 55) | 6 => .ref (as 59) | _ => .null) (as 2) (as 3) (as 4) tr qs g 1 hk hR (by omega)) gL_does_X6_about rfl (by decide +kernel) ⟨Nat.le_of_ble_eq_true rfl, Nat.le_of_ble_eq_true rfl⟩ [0, 3, 4, 5] rfl (va_recv hM.1 hP (ci := 5) (q0 := 0) rfl rfl) rfl hl.1 rfl (Nat.le_of_ble_eq_true rfl) dL_does_106 ⟨Nat.le_refl _, Nat.le_refl _⟩ ?_
  refine ln_eq (x' := (nI (g 41))) (rfl) ?_
  refine lv_iload_n hx hb dL_does_109 rfl (lv_at hl 0 rfl) ?_
  refine ln_ishr hx hb dL_does_110 (by omega) (by omega) ?_
  refine lv_iconst (v := (nI 1)) hx hb dL_does_111 (by decide) ?_
  refine ln_iand1 hx hb dL_does_112 (Nat.lt_of_le_of_lt (Nat.div_le_self _ _) (by omega)) ?_
  refine ln_if_ne (tgt := 124) hx hb dL_does_113 (by decide) (by omega) (fun h1 => ?_) (fun h1 => ?_)
  · exfalso; omega
  · refine lv_aload_n hx hb dL_does_116 rfl (lv_at hl 1 rfl) ?_
    refine lv_iload_n hx hb dL_does_117 rfl (lv_at hl 0 rfl) ?_
    refine ipF_V (C := RX6) (n := 1) ⟨hx, hb, hml, hown, hts⟩ hM hS hP hD (mc := 0) (ms := 0) (up_build l D tc zb x0 as tr qs g trc qsc gc od n tri qsi gi fc hc ((v1)) ((v2)) ((v3)) ((v4)) trs qss gs iz u ln (by assumption) (by assumption) (by assumption) (by assumption) (k_low ((v >>> (nI 4 &&& 31))) 6) (by omega) (by assumption)) gL_does_X6_build rfl (by decide +kernel) ⟨Nat.le_of_ble_eq_true rfl, Nat.le_of_ble_eq_true rfl⟩ rfl (va_recv hM.1 hP (ci := 5) (q0 := 0) rfl rfl) rfl hl.1 rfl (Nat.le_of_ble_eq_true rfl) dL_does_118 ⟨Nat.le_refl _, Nat.le_refl _⟩ (fun H locs hP hD hS => ?_)
    refine W.eq (g2 := F0 m 121 ls [.int (nI (g 0 * k_lk (g 0)))]) rfl ?_
    refine lv_goto (tgt := 129) hx hb dL_does_121 (by decide) ?_
    exact ip_iret hx hb hr hlk dL_does_129 hS (rfl) hP
set_option maxHeartbeats 4000000 in
set_option maxRecDepth 100000 in
theorem l_does_build7 (l : Launch) (D : va_G) (tc : Nat → ClassId) (zb : Nat) (x0 : Nat) (as : Nat → Nat) (tr : Nat → Int32) (qs : Nat → Int32) (g : Nat → Nat) (trc : Nat → Int32) (qsc : Nat → Int32) (gc : Nat → Nat) (od : Nat) (n : Nat) (tri : Nat → Nat → Int32) (qsi : Nat → Nat → Int32) (gi : Nat → Nat → Nat) (fc : Nat → Int32) (hc : Nat → Int32) (v1 : Int32) (v2 : Int32) (v3 : Int32) (v4 : Int32) (trs : Nat → Nat → Int32) (qss : Nat → Nat → Int32) (gs : Nat → Nat → Nat) (iz : Nat → Bool) (u : Nat → Nat) (ln : Nat) (v : Int32) (hk : k_ok g) (hR : k_R tr qs g) (hod : od < 14) (hn : n ≤ 14) (hv : bk v 15 = 7) (hin : k_in (g 41) (k_low (v >>> (nI 4 &&& 31)) 6) = false) : IP l yL_does wsL_does 4 87 D tc zb (CW tc x0 as tr qs g trc qsc gc od n tri qsi gi fc hc v1 v2 v3 v4 trs qss gs iz u ln) (CW tc x0 as tr qs (m_bld g (k_low (v >>> (nI 4 &&& 31)) 6)) trc qsc gc (k_od od n) (k_n1 n + 1) (u_at tri ((od + n) % 14) (k_cp tr (tri ((od + n) % 14)) (g 0))) (u_at qsi ((od + n) % 14) (k_cp qs (qsi ((od + n) % 14)) (g 46))) (u_at gi ((od + n) % 14) g) fc hc v1 v2 v3 v4 trs qss gs iz u ln) [.ref x0, .int (v)] (some (.int (nI (g 0 * k_lk (g 0))))) := by
  refine IP.of (cc := cL_does) (maxL := 3) (ret := (some .int)) (by decide) rfl (Nat.le_of_ble_eq_true rfl) ?_
  intro p e s m args below meth c A hx hb hr hml hlk hts hown hM hS hP hD ls hl
  have hl : lv_has ls 3 [(0, .ref x0), (1, .int (v))] := hl
  obtain ⟨ok0, ok1, ok2, ok3, ok4, ok5, ok6⟩ := id hk
  have hlo : k_low (v >>> (nI 4 &&& 31)) 6 < 6 := k_low_lt _ (by decide)
  have hin9 := k_in_n hin
  refine lv_iload_n hx hb dL_does_0 rfl (lv_at hl 1 rfl) ?_
  refine lv_iconst (v := (nI 4)) hx hb dL_does_1 (by decide) ?_
  refine lv_ishr hx hb dL_does_2 ?_
  refine lv_bipush (v := (nI 6)) hx hb dL_does_3 (by decide) ?_
  refine ro_S (n := 2) ⟨hx, hb, hml, hown, hts⟩ hM hS hP (l_low l D tc zb ((v >>> (nI 4 &&& 31))) 6 (by omega)) gL_does_L_low rfl (by decide +kernel) ⟨Nat.le_of_ble_eq_true rfl, Nat.le_of_ble_eq_true rfl⟩ [] rfl rfl hl.1 rfl (Nat.le_of_ble_eq_true rfl) dL_does_5 ⟨Nat.le_refl _, Nat.le_refl _⟩ ?_
  refine lv_istore_n (lv' := [(2, .int (nI (k_low ((v >>> (nI 4 &&& 31))) 6))), (0, .ref x0), (1, .int (v))]) hx hb dL_does_8 rfl hl (by decide) rfl (fun ls hl => ?_)
  refine lv_iload_n hx hb dL_does_9 rfl (lv_at hl 2 rfl) ?_
  refine lv_bipush (v := (nI 15)) hx hb dL_does_10 (by decide) ?_
  refine lv_iand hx hb dL_does_12 ?_
  refine ln_eq (x' := nI (bk v 15)) (bk_eq _ _) ?_
  refine ln_eq (x' := (nI 7)) (congrArg nI hv) ?_
  refine lv_tableIn (off := 91) (tgt := 104) hx hb dL_does_13 (by decide) (by decide) (by decide) (by decide) ?_
  refine lv_aload_n hx hb dL_does_104 rfl (lv_at hl 1 rfl) ?_
  refine lv_iconst (v := (nI 1)) hx hb dL_does_105 (by decide) ?_
  refine ro_V (C := RX6) (n := 1) ⟨hx, hb, hml, hown, hts⟩ hM hS hP (c6_about_ok l D tc zb x0 (fun k9 => match k9 with | 0 => .ref (as 0) | 2 => .ref (as 5) | 3 => .ref (as 8) | 4 => .ref (as 52) | 5 => .ref (as 55) | 6 => .ref (as 59) | _ => .null) (as 2) (as 3) (as 4) tr qs g 1 hk hR (by omega)) gL_does_X6_about rfl (by decide +kernel) ⟨Nat.le_of_ble_eq_true rfl, Nat.le_of_ble_eq_true rfl⟩ [0, 3, 4, 5] rfl (va_recv hM.1 hP (ci := 5) (q0 := 0) rfl rfl) rfl hl.1 rfl (Nat.le_of_ble_eq_true rfl) dL_does_106 ⟨Nat.le_refl _, Nat.le_refl _⟩ ?_
  refine ln_eq (x' := (nI (g 41))) (rfl) ?_
  refine lv_iload_n hx hb dL_does_109 rfl (lv_at hl 0 rfl) ?_
  refine ln_ishr hx hb dL_does_110 (by omega) (by omega) ?_
  refine lv_iconst (v := (nI 1)) hx hb dL_does_111 (by decide) ?_
  refine ln_iand1 hx hb dL_does_112 (Nat.lt_of_le_of_lt (Nat.div_le_self _ _) (by omega)) ?_
  refine ln_if_ne (tgt := 124) hx hb dL_does_113 (by decide) (by omega) (fun h1 => ?_) (fun h1 => ?_)
  · exfalso; omega
  · refine lv_aload_n hx hb dL_does_116 rfl (lv_at hl 1 rfl) ?_
    refine lv_iload_n hx hb dL_does_117 rfl (lv_at hl 0 rfl) ?_
    refine ipF_V (C := RX6) (n := 1) ⟨hx, hb, hml, hown, hts⟩ hM hS hP hD (mc := 0) (ms := 0) (up_build l D tc zb x0 as tr qs g trc qsc gc od n tri qsi gi fc hc ((v1)) ((v2)) ((v3)) ((v4)) trs qss gs iz u ln (by assumption) (by assumption) (by assumption) (by assumption) (k_low ((v >>> (nI 4 &&& 31))) 6) (by omega) (by assumption)) gL_does_X6_build rfl (by decide +kernel) ⟨Nat.le_of_ble_eq_true rfl, Nat.le_of_ble_eq_true rfl⟩ rfl (va_recv hM.1 hP (ci := 5) (q0 := 0) rfl rfl) rfl hl.1 rfl (Nat.le_of_ble_eq_true rfl) dL_does_118 ⟨Nat.le_refl _, Nat.le_refl _⟩ (fun H locs hP hD hS => ?_)
    refine W.eq (g2 := F0 m 121 ls [.int (nI (g 0 * k_lk (g 0)))]) rfl ?_
    refine lv_goto (tgt := 129) hx hb dL_does_121 (by decide) ?_
    exact ip_iret hx hb hr hlk dL_does_129 hS (rfl) hP
set_option maxHeartbeats 4000000 in
set_option maxRecDepth 100000 in
theorem l_does_drop6 (l : Launch) (D : va_G) (tc : Nat → ClassId) (zb : Nat) (x0 : Nat) (as : Nat → Nat) (tr : Nat → Int32) (qs : Nat → Int32) (g : Nat → Nat) (trc : Nat → Int32) (qsc : Nat → Int32) (gc : Nat → Nat) (od : Nat) (n : Nat) (tri : Nat → Nat → Int32) (qsi : Nat → Nat → Int32) (gi : Nat → Nat → Nat) (fc : Nat → Int32) (hc : Nat → Int32) (v1 : Int32) (v2 : Int32) (v3 : Int32) (v4 : Int32) (trs : Nat → Nat → Int32) (qss : Nat → Nat → Int32) (gs : Nat → Nat → Nat) (iz : Nat → Bool) (u : Nat → Nat) (ln : Nat) (v : Int32) (hk : k_ok g) (hR : k_R tr qs g) (hod : od < 14) (hn : n ≤ 14) (hv : bk v 15 = 6) (hin : k_in (g 41) (k_low (v >>> (nI 4 &&& 31)) 6) = true) : IP l yL_does wsL_does 4 87 D tc zb (CW tc x0 as tr qs g trc qsc gc od n tri qsi gi fc hc v1 v2 v3 v4 trs qss gs iz u ln) (CW tc x0 as tr qs (m_drp g (k_low (v >>> (nI 4 &&& 31)) 6)) trc qsc gc (k_od od n) (k_n1 n + 1) (u_at tri ((od + n) % 14) (k_cp tr (tri ((od + n) % 14)) (g 0))) (u_at qsi ((od + n) % 14) (k_cp qs (qsi ((od + n) % 14)) (g 46))) (u_at gi ((od + n) % 14) g) fc hc v1 v2 v3 v4 trs qss gs iz u ln) [.ref x0, .int (v)] (some (.int (nI (k_pc (g 41 &&& (63 ^^^ 2 ^ (k_low (v >>> (nI 4 &&& 31)) 6))))))) := by
  refine IP.of (cc := cL_does) (maxL := 3) (ret := (some .int)) (by decide) rfl (Nat.le_of_ble_eq_true rfl) ?_
  intro p e s m args below meth c A hx hb hr hml hlk hts hown hM hS hP hD ls hl
  have hl : lv_has ls 3 [(0, .ref x0), (1, .int (v))] := hl
  obtain ⟨ok0, ok1, ok2, ok3, ok4, ok5, ok6⟩ := id hk
  have hlo : k_low (v >>> (nI 4 &&& 31)) 6 < 6 := k_low_lt _ (by decide)
  have hin9 := k_in_o hin
  refine lv_iload_n hx hb dL_does_0 rfl (lv_at hl 1 rfl) ?_
  refine lv_iconst (v := (nI 4)) hx hb dL_does_1 (by decide) ?_
  refine lv_ishr hx hb dL_does_2 ?_
  refine lv_bipush (v := (nI 6)) hx hb dL_does_3 (by decide) ?_
  refine ro_S (n := 2) ⟨hx, hb, hml, hown, hts⟩ hM hS hP (l_low l D tc zb ((v >>> (nI 4 &&& 31))) 6 (by omega)) gL_does_L_low rfl (by decide +kernel) ⟨Nat.le_of_ble_eq_true rfl, Nat.le_of_ble_eq_true rfl⟩ [] rfl rfl hl.1 rfl (Nat.le_of_ble_eq_true rfl) dL_does_5 ⟨Nat.le_refl _, Nat.le_refl _⟩ ?_
  refine lv_istore_n (lv' := [(2, .int (nI (k_low ((v >>> (nI 4 &&& 31))) 6))), (0, .ref x0), (1, .int (v))]) hx hb dL_does_8 rfl hl (by decide) rfl (fun ls hl => ?_)
  refine lv_iload_n hx hb dL_does_9 rfl (lv_at hl 2 rfl) ?_
  refine lv_bipush (v := (nI 15)) hx hb dL_does_10 (by decide) ?_
  refine lv_iand hx hb dL_does_12 ?_
  refine ln_eq (x' := nI (bk v 15)) (bk_eq _ _) ?_
  refine ln_eq (x' := (nI 6)) (congrArg nI hv) ?_
  refine lv_tableIn (off := 91) (tgt := 104) hx hb dL_does_13 (by decide) (by decide) (by decide) (by decide) ?_
  refine lv_aload_n hx hb dL_does_104 rfl (lv_at hl 1 rfl) ?_
  refine lv_iconst (v := (nI 1)) hx hb dL_does_105 (by decide) ?_
  refine ro_V (C := RX6) (n := 1) ⟨hx, hb, hml, hown, hts⟩ hM hS hP (c6_about_ok l D tc zb x0 (fun k9 => match k9 with | 0 => .ref (as 0) | 2 => .ref (as 5) | 3 => .ref (as 8) | 4 => .ref (as 52) | 5 => .ref (as 55) | 6 => .ref (as 59) | _ => .null) (as 2) (as 3) (as 4) tr qs g 1 hk hR (by omega)) gL_does_X6_about rfl (by decide +kernel) ⟨Nat.le_of_ble_eq_true rfl, Nat.le_of_ble_eq_true rfl⟩ [0, 3, 4, 5] rfl (va_recv hM.1 hP (ci := 5) (q0 := 0) rfl rfl) rfl hl.1 rfl (Nat.le_of_ble_eq_true rfl) dL_does_106 ⟨Nat.le_refl _, Nat.le_refl _⟩ ?_
  refine ln_eq (x' := (nI (g 41))) (rfl) ?_
  refine lv_iload_n hx hb dL_does_109 rfl (lv_at hl 0 rfl) ?_
  refine ln_ishr hx hb dL_does_110 (by omega) (by omega) ?_
  refine lv_iconst (v := (nI 1)) hx hb dL_does_111 (by decide) ?_
  refine ln_iand1 hx hb dL_does_112 (Nat.lt_of_le_of_lt (Nat.div_le_self _ _) (by omega)) ?_
  refine ln_if_ne (tgt := 124) hx hb dL_does_113 (by decide) (by omega) (fun h1 => ?_) (fun h1 => ?_)
  · refine lv_aload_n hx hb dL_does_124 rfl (lv_at hl 1 rfl) ?_
    refine lv_iload_n hx hb dL_does_125 rfl (lv_at hl 0 rfl) ?_
    refine ipF_V (C := RX6) (n := 1) ⟨hx, hb, hml, hown, hts⟩ hM hS hP hD (mc := 0) (ms := 0) (up_drop l D tc zb x0 as tr qs g trc qsc gc od n tri qsi gi fc hc ((v1)) ((v2)) ((v3)) ((v4)) trs qss gs iz u ln (by assumption) (by assumption) (by assumption) (by assumption) (k_low ((v >>> (nI 4 &&& 31))) 6) (by omega) (by assumption)) gL_does_X6_drop rfl (by decide +kernel) ⟨Nat.le_of_ble_eq_true rfl, Nat.le_of_ble_eq_true rfl⟩ rfl (va_recv hM.1 hP (ci := 5) (q0 := 0) rfl rfl) rfl hl.1 rfl (Nat.le_of_ble_eq_true rfl) dL_does_126 ⟨Nat.le_refl _, Nat.le_refl _⟩ (fun H locs hP hD hS => ?_)
    refine W.eq (g2 := F0 m 129 ls [.int (nI (k_pc (g 41 &&& (63 ^^^ 2 ^ (k_low ((v >>> (nI 4 &&& 31))) 6)))))]) rfl ?_
    exact ip_iret hx hb hr hlk dL_does_129 hS (congrArg nI (by rfl)) hP
  · exfalso; omega
set_option maxHeartbeats 4000000 in
set_option maxRecDepth 100000 in
theorem l_does_drop7 (l : Launch) (D : va_G) (tc : Nat → ClassId) (zb : Nat) (x0 : Nat) (as : Nat → Nat) (tr : Nat → Int32) (qs : Nat → Int32) (g : Nat → Nat) (trc : Nat → Int32) (qsc : Nat → Int32) (gc : Nat → Nat) (od : Nat) (n : Nat) (tri : Nat → Nat → Int32) (qsi : Nat → Nat → Int32) (gi : Nat → Nat → Nat) (fc : Nat → Int32) (hc : Nat → Int32) (v1 : Int32) (v2 : Int32) (v3 : Int32) (v4 : Int32) (trs : Nat → Nat → Int32) (qss : Nat → Nat → Int32) (gs : Nat → Nat → Nat) (iz : Nat → Bool) (u : Nat → Nat) (ln : Nat) (v : Int32) (hk : k_ok g) (hR : k_R tr qs g) (hod : od < 14) (hn : n ≤ 14) (hv : bk v 15 = 7) (hin : k_in (g 41) (k_low (v >>> (nI 4 &&& 31)) 6) = true) : IP l yL_does wsL_does 4 87 D tc zb (CW tc x0 as tr qs g trc qsc gc od n tri qsi gi fc hc v1 v2 v3 v4 trs qss gs iz u ln) (CW tc x0 as tr qs (m_drp g (k_low (v >>> (nI 4 &&& 31)) 6)) trc qsc gc (k_od od n) (k_n1 n + 1) (u_at tri ((od + n) % 14) (k_cp tr (tri ((od + n) % 14)) (g 0))) (u_at qsi ((od + n) % 14) (k_cp qs (qsi ((od + n) % 14)) (g 46))) (u_at gi ((od + n) % 14) g) fc hc v1 v2 v3 v4 trs qss gs iz u ln) [.ref x0, .int (v)] (some (.int (nI (k_pc (g 41 &&& (63 ^^^ 2 ^ (k_low (v >>> (nI 4 &&& 31)) 6))))))) := by
  refine IP.of (cc := cL_does) (maxL := 3) (ret := (some .int)) (by decide) rfl (Nat.le_of_ble_eq_true rfl) ?_
  intro p e s m args below meth c A hx hb hr hml hlk hts hown hM hS hP hD ls hl
  have hl : lv_has ls 3 [(0, .ref x0), (1, .int (v))] := hl
  obtain ⟨ok0, ok1, ok2, ok3, ok4, ok5, ok6⟩ := id hk
  have hlo : k_low (v >>> (nI 4 &&& 31)) 6 < 6 := k_low_lt _ (by decide)
  have hin9 := k_in_o hin
  refine lv_iload_n hx hb dL_does_0 rfl (lv_at hl 1 rfl) ?_
  refine lv_iconst (v := (nI 4)) hx hb dL_does_1 (by decide) ?_
  refine lv_ishr hx hb dL_does_2 ?_
  refine lv_bipush (v := (nI 6)) hx hb dL_does_3 (by decide) ?_
  refine ro_S (n := 2) ⟨hx, hb, hml, hown, hts⟩ hM hS hP (l_low l D tc zb ((v >>> (nI 4 &&& 31))) 6 (by omega)) gL_does_L_low rfl (by decide +kernel) ⟨Nat.le_of_ble_eq_true rfl, Nat.le_of_ble_eq_true rfl⟩ [] rfl rfl hl.1 rfl (Nat.le_of_ble_eq_true rfl) dL_does_5 ⟨Nat.le_refl _, Nat.le_refl _⟩ ?_
  refine lv_istore_n (lv' := [(2, .int (nI (k_low ((v >>> (nI 4 &&& 31))) 6))), (0, .ref x0), (1, .int (v))]) hx hb dL_does_8 rfl hl (by decide) rfl (fun ls hl => ?_)
  refine lv_iload_n hx hb dL_does_9 rfl (lv_at hl 2 rfl) ?_
  refine lv_bipush (v := (nI 15)) hx hb dL_does_10 (by decide) ?_
  refine lv_iand hx hb dL_does_12 ?_
  refine ln_eq (x' := nI (bk v 15)) (bk_eq _ _) ?_
  refine ln_eq (x' := (nI 7)) (congrArg nI hv) ?_
  refine lv_tableIn (off := 91) (tgt := 104) hx hb dL_does_13 (by decide) (by decide) (by decide) (by decide) ?_
  refine lv_aload_n hx hb dL_does_104 rfl (lv_at hl 1 rfl) ?_
  refine lv_iconst (v := (nI 1)) hx hb dL_does_105 (by decide) ?_
  refine ro_V (C := RX6) (n := 1) ⟨hx, hb, hml, hown, hts⟩ hM hS hP (c6_about_ok l D tc zb x0 (fun k9 => match k9 with | 0 => .ref (as 0) | 2 => .ref (as 5) | 3 => .ref (as 8) | 4 => .ref (as 52) | 5 => .ref (as 55) | 6 => .ref (as 59) | _ => .null) (as 2) (as 3) (as 4) tr qs g 1 hk hR (by omega)) gL_does_X6_about rfl (by decide +kernel) ⟨Nat.le_of_ble_eq_true rfl, Nat.le_of_ble_eq_true rfl⟩ [0, 3, 4, 5] rfl (va_recv hM.1 hP (ci := 5) (q0 := 0) rfl rfl) rfl hl.1 rfl (Nat.le_of_ble_eq_true rfl) dL_does_106 ⟨Nat.le_refl _, Nat.le_refl _⟩ ?_
  refine ln_eq (x' := (nI (g 41))) (rfl) ?_
  refine lv_iload_n hx hb dL_does_109 rfl (lv_at hl 0 rfl) ?_
  refine ln_ishr hx hb dL_does_110 (by omega) (by omega) ?_
  refine lv_iconst (v := (nI 1)) hx hb dL_does_111 (by decide) ?_
  refine ln_iand1 hx hb dL_does_112 (Nat.lt_of_le_of_lt (Nat.div_le_self _ _) (by omega)) ?_
  refine ln_if_ne (tgt := 124) hx hb dL_does_113 (by decide) (by omega) (fun h1 => ?_) (fun h1 => ?_)
  · refine lv_aload_n hx hb dL_does_124 rfl (lv_at hl 1 rfl) ?_
    refine lv_iload_n hx hb dL_does_125 rfl (lv_at hl 0 rfl) ?_
    refine ipF_V (C := RX6) (n := 1) ⟨hx, hb, hml, hown, hts⟩ hM hS hP hD (mc := 0) (ms := 0) (up_drop l D tc zb x0 as tr qs g trc qsc gc od n tri qsi gi fc hc ((v1)) ((v2)) ((v3)) ((v4)) trs qss gs iz u ln (by assumption) (by assumption) (by assumption) (by assumption) (k_low ((v >>> (nI 4 &&& 31))) 6) (by omega) (by assumption)) gL_does_X6_drop rfl (by decide +kernel) ⟨Nat.le_of_ble_eq_true rfl, Nat.le_of_ble_eq_true rfl⟩ rfl (va_recv hM.1 hP (ci := 5) (q0 := 0) rfl rfl) rfl hl.1 rfl (Nat.le_of_ble_eq_true rfl) dL_does_126 ⟨Nat.le_refl _, Nat.le_refl _⟩ (fun H locs hP hD hS => ?_)
    refine W.eq (g2 := F0 m 129 ls [.int (nI (k_pc (g 41 &&& (63 ^^^ 2 ^ (k_low ((v >>> (nI 4 &&& 31))) 6)))))]) rfl ?_
    exact ip_iret hx hb hr hlk dL_does_129 hS (congrArg nI (by rfl)) hP
  · exfalso; omega
set_option maxHeartbeats 4000000 in
set_option maxRecDepth 100000 in
theorem l_does_weight (l : Launch) (D : va_G) (tc : Nat → ClassId) (zb : Nat) (x0 : Nat) (as : Nat → Nat) (tr : Nat → Int32) (qs : Nat → Int32) (g : Nat → Nat) (trc : Nat → Int32) (qsc : Nat → Int32) (gc : Nat → Nat) (od : Nat) (n : Nat) (tri : Nat → Nat → Int32) (qsi : Nat → Nat → Int32) (gi : Nat → Nat → Nat) (fc : Nat → Int32) (hc : Nat → Int32) (v1 : Int32) (v2 : Int32) (v3 : Int32) (v4 : Int32) (trs : Nat → Nat → Int32) (qss : Nat → Nat → Int32) (gs : Nat → Nat → Nat) (iz : Nat → Bool) (u : Nat → Nat) (ln : Nat) (v : Int32) (hk : k_ok g) (hR : k_R tr qs g) (hod : od < 14) (hn : n ≤ 14) (hv : bk v 15 = 8) : IP l yL_does wsL_does 4 88 D tc zb (CW tc x0 as tr qs g trc qsc gc od n tri qsi gi fc hc v1 v2 v3 v4 trs qss gs iz u ln) (CW tc x0 as tr qs (k_up g 59 (k_low (v >>> (nI 4 &&& 31)) 12)) trc qsc gc (k_od od n) (k_n1 n + 1) (u_at tri ((od + n) % 14) (k_cp tr (tri ((od + n) % 14)) (g 0))) (u_at qsi ((od + n) % 14) (k_cp qs (qsi ((od + n) % 14)) (g 46))) (u_at gi ((od + n) % 14) g) fc hc v1 v2 v3 v4 trs qss gs iz u ln) [.ref x0, .int (v)] (some (.int (nI (g 59)))) := by
  refine IP.of (cc := cL_does) (maxL := 3) (ret := (some .int)) (by decide) rfl (Nat.le_of_ble_eq_true rfl) ?_
  intro p e s m args below meth c A hx hb hr hml hlk hts hown hM hS hP hD ls hl
  have hl : lv_has ls 3 [(0, .ref x0), (1, .int (v))] := hl
  obtain ⟨ok0, ok1, ok2, ok3, ok4, ok5, ok6⟩ := id hk
  have hlo : k_low (v >>> (nI 4 &&& 31)) 6 < 6 := k_low_lt _ (by decide)
  have hlo2 : k_low (v >>> (nI 4 &&& 31)) 12 < 12 := k_low_lt _ (by decide)
  refine lv_iload_n hx hb dL_does_0 rfl (lv_at hl 1 rfl) ?_
  refine lv_iconst (v := (nI 4)) hx hb dL_does_1 (by decide) ?_
  refine lv_ishr hx hb dL_does_2 ?_
  refine lv_bipush (v := (nI 6)) hx hb dL_does_3 (by decide) ?_
  refine ro_S (n := 2) ⟨hx, hb, hml, hown, hts⟩ hM hS hP (l_low l D tc zb ((v >>> (nI 4 &&& 31))) 6 (by omega)) gL_does_L_low rfl (by decide +kernel) ⟨Nat.le_of_ble_eq_true rfl, Nat.le_of_ble_eq_true rfl⟩ [] rfl rfl hl.1 rfl (Nat.le_of_ble_eq_true rfl) dL_does_5 ⟨Nat.le_refl _, Nat.le_refl _⟩ ?_
  refine lv_istore_n (lv' := [(2, .int (nI (k_low ((v >>> (nI 4 &&& 31))) 6))), (0, .ref x0), (1, .int (v))]) hx hb dL_does_8 rfl hl (by decide) rfl (fun ls hl => ?_)
  refine lv_iload_n hx hb dL_does_9 rfl (lv_at hl 2 rfl) ?_
  refine lv_bipush (v := (nI 15)) hx hb dL_does_10 (by decide) ?_
  refine lv_iand hx hb dL_does_12 ?_
  refine ln_eq (x' := nI (bk v 15)) (bk_eq _ _) ?_
  refine ln_eq (x' := (nI 8)) (congrArg nI hv) ?_
  refine lv_tableIn (off := 117) (tgt := 130) hx hb dL_does_13 (by decide) (by decide) (by decide) (by decide) ?_
  refine lv_aload_n hx hb dL_does_130 rfl (lv_at hl 1 rfl) ?_
  refine lv_iload_n hx hb dL_does_131 rfl (lv_at hl 2 rfl) ?_
  refine lv_iconst (v := (nI 4)) hx hb dL_does_132 (by decide) ?_
  refine lv_ishr hx hb dL_does_133 ?_
  refine lv_bipush (v := (nI 12)) hx hb dL_does_134 (by decide) ?_
  refine ro_S (n := 2) ⟨hx, hb, hml, hown, hts⟩ hM hS hP (l_low l D tc zb ((v >>> (nI 4 &&& 31))) 12 (by omega)) gL_does_L_low rfl (by decide +kernel) ⟨Nat.le_of_ble_eq_true rfl, Nat.le_of_ble_eq_true rfl⟩ [] rfl rfl hl.1 rfl (Nat.le_of_ble_eq_true rfl) dL_does_136 ⟨Nat.le_refl _, Nat.le_refl _⟩ ?_
  refine ipF_V (C := RX6) (n := 1) ⟨hx, hb, hml, hown, hts⟩ hM hS hP hD (mc := 0) (ms := 0) (up_setWeight l D tc zb x0 as tr qs g trc qsc gc od n tri qsi gi fc hc ((v1)) ((v2)) ((v3)) ((v4)) trs qss gs iz u ln (by assumption) (by assumption) (by assumption) (by assumption) (k_low ((v >>> (nI 4 &&& 31))) 12) (by omega)) gL_does_X6_setWeight rfl (by decide +kernel) ⟨Nat.le_of_ble_eq_true rfl, Nat.le_of_ble_eq_true rfl⟩ rfl (va_recv hM.1 hP (ci := 5) (q0 := 0) rfl rfl) rfl hl.1 rfl (Nat.le_of_ble_eq_true rfl) dL_does_139 ⟨Nat.le_refl _, Nat.le_refl _⟩ (fun H locs hP hD hS => ?_)
  refine W.eq (g2 := F0 m 142 ls [.int (nI (g 59))]) rfl ?_
  exact ip_iret hx hb hr hlk dL_does_142 hS (rfl) hP
set_option maxHeartbeats 4000000 in
set_option maxRecDepth 100000 in
theorem l_does_tidy (l : Launch) (D : va_G) (tc : Nat → ClassId) (zb : Nat) (x0 : Nat) (as : Nat → Nat) (tr : Nat → Int32) (qs : Nat → Int32) (g : Nat → Nat) (trc : Nat → Int32) (qsc : Nat → Int32) (gc : Nat → Nat) (od : Nat) (n : Nat) (tri : Nat → Nat → Int32) (qsi : Nat → Nat → Int32) (gi : Nat → Nat → Nat) (fc : Nat → Int32) (hc : Nat → Int32) (v1 : Int32) (v2 : Int32) (v3 : Int32) (v4 : Int32) (trs : Nat → Nat → Int32) (qss : Nat → Nat → Int32) (gs : Nat → Nat → Nat) (iz : Nat → Bool) (u : Nat → Nat) (ln : Nat) (v : Int32) (hk : k_ok g) (hR : k_R tr qs g) (hod : od < 14) (hn : n ≤ 14) (hv : bk v 15 = 9) : IP l yL_does wsL_does 6 139 D tc zb (CW tc x0 as tr qs g trc qsc gc od n tri qsi gi fc hc v1 v2 v3 v4 trs qss gs iz u ln) (CW tc x0 as tr qs (m_tdy g) trc qsc gc (k_od od n) (k_n1 n + 1) (u_at tri ((od + n) % 14) (k_cp tr (tri ((od + n) % 14)) (g 0))) (u_at qsi ((od + n) % 14) (k_cp qs (qsi ((od + n) % 14)) (g 46))) (u_at gi ((od + n) % 14) g) (k_lf fc g (6 * g 46)) (k_lh hc g (g 46)) (nI (g 46)) (nI (g 0)) (nI (g 41)) (nI (k_due g)) trs qss gs iz u ln) [.ref x0, .int (v)] (some (.int (oI (k_tv g)))) := by
  refine IP.of (cc := cL_does) (maxL := 3) (ret := (some .int)) (by decide) rfl (Nat.le_of_ble_eq_true rfl) ?_
  intro p e s m args below meth c A hx hb hr hml hlk hts hown hM hS hP hD ls hl
  have hl : lv_has ls 3 [(0, .ref x0), (1, .int (v))] := hl
  obtain ⟨ok0, ok1, ok2, ok3, ok4, ok5, ok6⟩ := id hk
  have hlo : k_low (v >>> (nI 4 &&& 31)) 6 < 6 := k_low_lt _ (by decide)
  refine lv_iload_n hx hb dL_does_0 rfl (lv_at hl 1 rfl) ?_
  refine lv_iconst (v := (nI 4)) hx hb dL_does_1 (by decide) ?_
  refine lv_ishr hx hb dL_does_2 ?_
  refine lv_bipush (v := (nI 6)) hx hb dL_does_3 (by decide) ?_
  refine ro_S (n := 2) ⟨hx, hb, hml, hown, hts⟩ hM hS hP (l_low l D tc zb ((v >>> (nI 4 &&& 31))) 6 (by omega)) gL_does_L_low rfl (by decide +kernel) ⟨Nat.le_of_ble_eq_true rfl, Nat.le_of_ble_eq_true rfl⟩ [] rfl rfl hl.1 rfl (Nat.le_of_ble_eq_true rfl) dL_does_5 ⟨Nat.le_refl _, Nat.le_refl _⟩ ?_
  refine lv_istore_n (lv' := [(2, .int (nI (k_low ((v >>> (nI 4 &&& 31))) 6))), (0, .ref x0), (1, .int (v))]) hx hb dL_does_8 rfl hl (by decide) rfl (fun ls hl => ?_)
  refine lv_iload_n hx hb dL_does_9 rfl (lv_at hl 2 rfl) ?_
  refine lv_bipush (v := (nI 15)) hx hb dL_does_10 (by decide) ?_
  refine lv_iand hx hb dL_does_12 ?_
  refine ln_eq (x' := nI (bk v 15)) (bk_eq _ _) ?_
  refine ln_eq (x' := (nI 9)) (congrArg nI hv) ?_
  refine lv_tableIn (off := 130) (tgt := 143) hx hb dL_does_13 (by decide) (by decide) (by decide) (by decide) ?_
  refine lv_aload_n hx hb dL_does_143 rfl (lv_at hl 1 rfl) ?_
  refine ipF_V (C := RX6) (n := 0) ⟨hx, hb, hml, hown, hts⟩ hM hS hP hD (mc := 0) (ms := 0) (up_tidy l D tc zb x0 as tr qs g trc qsc gc od n tri qsi gi fc hc ((v1)) ((v2)) ((v3)) ((v4)) trs qss gs iz u ln (by assumption) (by assumption) (by assumption) (by assumption)) gL_does_X6_tidy rfl (by decide +kernel) ⟨Nat.le_of_ble_eq_true rfl, Nat.le_of_ble_eq_true rfl⟩ rfl (va_recv hM.1 hP (ci := 5) (q0 := 0) rfl rfl) rfl hl.1 rfl (Nat.le_of_ble_eq_true rfl) dL_does_144 ⟨Nat.le_refl _, Nat.le_refl _⟩ (fun H locs hP hD hS => ?_)
  refine W.eq (g2 := F0 m 147 ls [.int (oI (k_tv g))]) rfl ?_
  exact ip_iret hx hb hr hlk dL_does_147 hS (rfl) hP
set_option maxHeartbeats 4000000 in
set_option maxRecDepth 100000 in
theorem l_does_ask (l : Launch) (D : va_G) (tc : Nat → ClassId) (zb : Nat) (x0 : Nat) (as : Nat → Nat) (tr : Nat → Int32) (qs : Nat → Int32) (g : Nat → Nat) (trc : Nat → Int32) (qsc : Nat → Int32) (gc : Nat → Nat) (od : Nat) (n : Nat) (tri : Nat → Nat → Int32) (qsi : Nat → Nat → Int32) (gi : Nat → Nat → Nat) (fc : Nat → Int32) (hc : Nat → Int32) (v1 : Int32) (v2 : Int32) (v3 : Int32) (v4 : Int32) (trs : Nat → Nat → Int32) (qss : Nat → Nat → Int32) (gs : Nat → Nat → Nat) (iz : Nat → Bool) (u : Nat → Nat) (ln : Nat) (v : Int32) (hk : k_ok g) (hR : k_R tr qs g) (hod : od < 14) (hn : n ≤ 14) (hv : 10 ≤ bk v 15) : IP l yL_does wsL_does 6 135 D tc zb (CW tc x0 as tr qs g trc qsc gc od n tri qsi gi fc hc v1 v2 v3 v4 trs qss gs iz u ln) (CW tc x0 as tr (k_aqs qs g (k_qn (v >>> (nI 4 &&& 31)))) (m_ask g (k_qn (v >>> (nI 4 &&& 31)))) trc qsc gc (k_od od n) (k_n1 n + 1) (u_at tri ((od + n) % 14) (k_cp tr (tri ((od + n) % 14)) (g 0))) (u_at qsi ((od + n) % 14) (k_cp qs (qsi ((od + n) % 14)) (g 46))) (u_at gi ((od + n) % 14) g) fc hc v1 v2 v3 v4 trs qss gs iz u ln) [.ref x0, .int (v)] (some (.int (nI (k_cnt g (k_qn (v >>> (nI 4 &&& 31))))))) := by
  refine IP.of (cc := cL_does) (maxL := 3) (ret := (some .int)) (by decide) rfl (Nat.le_of_ble_eq_true rfl) ?_
  intro p e s m args below meth c A hx hb hr hml hlk hts hown hM hS hP hD ls hl
  have hl : lv_has ls 3 [(0, .ref x0), (1, .int (v))] := hl
  obtain ⟨ok0, ok1, ok2, ok3, ok4, ok5, ok6⟩ := id hk
  have hlo : k_low (v >>> (nI 4 &&& 31)) 6 < 6 := k_low_lt _ (by decide)
  have hbk := bk_le v 15
  have hqn := k_qn_lt (v >>> (nI 4 &&& 31))
  refine lv_iload_n hx hb dL_does_0 rfl (lv_at hl 1 rfl) ?_
  refine lv_iconst (v := (nI 4)) hx hb dL_does_1 (by decide) ?_
  refine lv_ishr hx hb dL_does_2 ?_
  refine lv_bipush (v := (nI 6)) hx hb dL_does_3 (by decide) ?_
  refine ro_S (n := 2) ⟨hx, hb, hml, hown, hts⟩ hM hS hP (l_low l D tc zb ((v >>> (nI 4 &&& 31))) 6 (by omega)) gL_does_L_low rfl (by decide +kernel) ⟨Nat.le_of_ble_eq_true rfl, Nat.le_of_ble_eq_true rfl⟩ [] rfl rfl hl.1 rfl (Nat.le_of_ble_eq_true rfl) dL_does_5 ⟨Nat.le_refl _, Nat.le_refl _⟩ ?_
  refine lv_istore_n (lv' := [(2, .int (nI (k_low ((v >>> (nI 4 &&& 31))) 6))), (0, .ref x0), (1, .int (v))]) hx hb dL_does_8 rfl hl (by decide) rfl (fun ls hl => ?_)
  refine lv_iload_n hx hb dL_does_9 rfl (lv_at hl 2 rfl) ?_
  refine lv_bipush (v := (nI 15)) hx hb dL_does_10 (by decide) ?_
  refine lv_iand hx hb dL_does_12 ?_
  refine ln_eq (x' := nI (bk v 15)) (bk_eq _ _) ?_
  refine ln_eq (x' := (nI (bk v 15))) (rfl) ?_
  refine lv_tableOut (tgt := 148) hx hb dL_does_13 (Or.inr (by rw [nI_toInt (by omega)]; omega)) (by decide) ?_
  refine lv_aload_n hx hb dL_does_148 rfl (lv_at hl 1 rfl) ?_
  refine lv_iload_n hx hb dL_does_149 rfl (lv_at hl 2 rfl) ?_
  refine lv_iconst (v := (nI 4)) hx hb dL_does_150 (by decide) ?_
  refine lv_ishr hx hb dL_does_151 ?_
  refine ro_S (n := 1) ⟨hx, hb, hml, hown, hts⟩ hM hS hP (l_question l D tc zb ((v >>> (nI 4 &&& 31)))) gL_does_L_question rfl (by decide +kernel) ⟨Nat.le_of_ble_eq_true rfl, Nat.le_of_ble_eq_true rfl⟩ [] rfl rfl hl.1 rfl (Nat.le_of_ble_eq_true rfl) dL_does_152 ⟨Nat.le_refl _, Nat.le_refl _⟩ ?_
  refine ipF_V (C := RX6) (n := 1) ⟨hx, hb, hml, hown, hts⟩ hM hS hP hD (mc := 0) (ms := 0) (up_ask l D tc zb x0 as tr qs g trc qsc gc od n tri qsi gi fc hc ((v1)) ((v2)) ((v3)) ((v4)) trs qss gs iz u ln (by assumption) (by assumption) (by assumption) (by assumption) (k_qn ((v >>> (nI 4 &&& 31)))) (by omega)) gL_does_X6_ask rfl (by decide +kernel) ⟨Nat.le_of_ble_eq_true rfl, Nat.le_of_ble_eq_true rfl⟩ rfl (va_recv hM.1 hP (ci := 5) (q0 := 0) rfl rfl) rfl hl.1 rfl (Nat.le_of_ble_eq_true rfl) dL_does_155 ⟨Nat.le_refl _, Nat.le_refl _⟩ (fun H locs hP hD hS => ?_)
  refine W.eq (g2 := F0 m 158 ls [.int (nI (k_cnt g (k_qn ((v >>> (nI 4 &&& 31))))))]) rfl ?_
  exact ip_iret hx hb hr hlk dL_does_158 hS (congrArg nI (by rfl)) hP
