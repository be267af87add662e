set_option maxHeartbeats 4000000 in
set_option maxRecDepth 100000 in
theorem l_advice (l : Launch) (D : va_G) (tc : Nat → ClassId) (zb : Nat) (x0 : Nat) (as : Nat → Nat) (tr : Nat → Int32) (qs : Nat → Int32) (g : Nat → Nat) (trc : Nat → Int32) (qsc : Nat → Int32) (gc : Nat → Nat) (od : Nat) (n : Nat) (tri : Nat → Nat → Int32) (qsi : Nat → Nat → Int32) (gi : Nat → Nat → Nat) (fc : Nat → Int32) (hc : Nat → Int32) (v1 : Int32) (v2 : Int32) (v3 : Int32) (v4 : Int32) (trs : Nat → Nat → Int32) (qss : Nat → Nat → Int32) (gs : Nat → Nat → Nat) (iz : Nat → Bool) (u : Nat → Nat) (ln : Nat) (ot : Nat) (hk : k_ok g) (hR : k_R tr qs g) (hot : ot < 64) : IP l yL_isAdviceSo wsL_isAdviceSo 5 117 D tc zb (CW tc x0 as tr qs g trc qsc gc od n tri qsi gi fc hc v1 v2 v3 v4 trs qss gs iz u ln) (CW tc x0 as tr qs g trc qsc gc od n tri qsi gi (k_lf fc g (6 * g 46)) (k_lh hc g (g 46)) (nI (g 46)) (nI (g 0)) (nI (g 41)) (nI (k_due g)) trs qss gs iz u ln) [.ref x0, .int (nI ot)] (some (.int (bI (true)))) := by
  refine IP.of (cc := cL_isAdviceSo) (maxL := 12) (ret := (some .boolean)) (by decide) rfl (Nat.le_of_ble_eq_true rfl) ?_
  intro p e s m args below meth c A hx hb hr hml hlk hts hown hM hS hP hD ls hl
  have hl : lv_has ls 12 [(0, .ref x0), (1, .int (nI ot))] := hl
  obtain ⟨ok0, ok1, ok2, ok3, ok4, ok5, ok6⟩ := id hk
  have hdu := k_due_le hk
  refine lv_aload_n hx hb dL_isAdviceSo_0 rfl (lv_at hl 0 rfl) ?_
  refine lv_iconst (v := (nI 1)) hx hb dL_isAdviceSo_1 (by decide) ?_
  refine ro_V (C := RX6) (n := 1) ⟨hx, hb, hml, hown, hts⟩ hM hS hP (c6_about_ok l D tc zb x0 (fun k9 => match k9 with | 0 => .ref (as 0) | 2 => .ref (as 5) | 3 => .ref (as 8) | 4 => .ref (as 52) | 5 => .ref (as 55) | 6 => .ref (as 59) | _ => .null) (as 2) (as 3) (as 4) tr qs g 1 hk hR (by omega)) gL_isAdviceSo_X6_about rfl (by decide +kernel) ⟨Nat.le_of_ble_eq_true rfl, Nat.le_of_ble_eq_true rfl⟩ [0, 3, 4, 5] rfl (va_recv hM.1 hP (ci := 5) (q0 := 0) rfl rfl) rfl hl.1 rfl (Nat.le_of_ble_eq_true rfl) dL_isAdviceSo_2 ⟨Nat.le_refl _, Nat.le_refl _⟩ ?_
  refine ln_eq (x' := (nI (g 41))) (rfl) ?_
  refine lv_istore_n (lv' := [(2, .int (nI (g 41))), (0, .ref x0), (1, .int (nI ot))]) hx hb dL_isAdviceSo_5 rfl hl (by decide) rfl (fun ls hl => ?_)
  refine lv_aload_n hx hb dL_isAdviceSo_6 rfl (lv_at hl 1 rfl) ?_
  refine ro_V (C := RX6) (n := 0) ⟨hx, hb, hml, hown, hts⟩ hM hS hP (c6_weight l D tc zb x0 (fun k9 => match k9 with | 0 => .ref (as 0) | 2 => .ref (as 5) | 3 => .ref (as 8) | 4 => .ref (as 52) | 5 => .ref (as 55) | 6 => .ref (as 59) | _ => .null) (as 2) (as 3) (as 4) tr qs g hk hR) gL_isAdviceSo_X6_weight rfl (by decide +kernel) ⟨Nat.le_of_ble_eq_true rfl, Nat.le_of_ble_eq_true rfl⟩ [0, 3, 4, 5] rfl (va_recv hM.1 hP (ci := 5) (q0 := 0) rfl rfl) rfl hl.1 rfl (Nat.le_of_ble_eq_true rfl) dL_isAdviceSo_7 ⟨Nat.le_refl _, Nat.le_refl _⟩ ?_
  refine lv_aload_n hx hb dL_isAdviceSo_10 rfl (lv_at hl 1 rfl) ?_
  refine lv_bipush (v := (nI 7)) hx hb dL_isAdviceSo_11 (by decide) ?_
  refine ro_V (C := RX6) (n := 1) ⟨hx, hb, hml, hown, hts⟩ hM hS hP (c6_about_ok l D tc zb x0 (fun k9 => match k9 with | 0 => .ref (as 0) | 2 => .ref (as 5) | 3 => .ref (as 8) | 4 => .ref (as 52) | 5 => .ref (as 55) | 6 => .ref (as 59) | _ => .null) (as 2) (as 3) (as 4) tr qs g 7 hk hR (by omega)) gL_isAdviceSo_X6_about rfl (by decide +kernel) ⟨Nat.le_of_ble_eq_true rfl, Nat.le_of_ble_eq_true rfl⟩ [0, 3, 4, 5] rfl (va_recv hM.1 hP (ci := 5) (q0 := 0) rfl rfl) rfl hl.1 rfl (Nat.le_of_ble_eq_true rfl) dL_isAdviceSo_13 ⟨Nat.le_refl _, Nat.le_refl _⟩ ?_
  refine ln_eq (x' := (nI (k_lk (g 0)))) (rfl) ?_
  refine lv_iconst (v := (nI 1)) hx hb dL_isAdviceSo_16 (by decide) ?_
  refine ln_iadd hx hb dL_isAdviceSo_17 ?_
  refine ln_imul hx hb dL_isAdviceSo_18 ?_
  refine ln_eq (x' := (nI (k_due g))) (rfl) ?_
  refine lv_istore_n (lv' := [(3, .int (nI (k_due g))), (2, .int (nI (g 41))), (0, .ref x0), (1, .int (nI ot))]) hx hb dL_isAdviceSo_19 rfl hl (by decide) rfl (fun ls hl => ?_)
  refine lv_aload_n hx hb dL_isAdviceSo_20 rfl (lv_at hl 2 rfl) ?_
  refine ipF_V (C := RX6) (n := 0) ⟨hx, hb, hml, hown, hts⟩ hM hS hP hD (mc := 0) (ms := 0) (up_advised l D tc zb x0 as tr qs g trc qsc gc od n tri qsi gi fc hc ((v1)) ((v2)) ((v3)) ((v4)) trs qss gs iz u ln (by assumption) (by assumption)) gL_isAdviceSo_X6_advised rfl (by decide +kernel) ⟨Nat.le_of_ble_eq_true rfl, Nat.le_of_ble_eq_true rfl⟩ rfl (va_recv hM.1 hP (ci := 5) (q0 := 0) rfl rfl) rfl hl.1 rfl (Nat.le_of_ble_eq_true rfl) dL_isAdviceSo_21 ⟨Nat.le_refl _, Nat.le_refl _⟩ (fun H locs hP hD hS => ?_)
  refine W.eq (g2 := F0 m 24 ls [.int (oI (k_go g 6))]) rfl ?_
  refine lv_istore (lv' := [(4, .int (oI (k_go g 6))), (3, .int (nI (k_due g))), (2, .int (nI (g 41))), (0, .ref x0), (1, .int (nI ot))]) hx hb dL_isAdviceSo_24 hl (by decide) rfl (fun ls hl => ?_)
  refine lv_aload_n hx hb dL_isAdviceSo_26 rfl (lv_at hl 3 rfl) ?_
  refine ipF_V (C := RX6) (n := 0) ⟨hx, hb, hml, hown, hts⟩ hM hS hP hD (mc := 0) (ms := 0) (ua_spare l D tc zb x0 as tr qs g trc qsc gc od n tri qsi gi fc hc v1 v2 v3 v4 trs qss gs iz u ln (by assumption) (by assumption)) gL_isAdviceSo_X6_spare rfl (by decide +kernel) ⟨Nat.le_of_ble_eq_true rfl, Nat.le_of_ble_eq_true rfl⟩ rfl (va_recv hM.1 hP (ci := 5) (q0 := 0) rfl rfl) rfl hl.1 rfl (Nat.le_of_ble_eq_true rfl) dL_isAdviceSo_27 ⟨Nat.le_refl _, Nat.le_refl _⟩ (fun H locs hP hD hS => ?_)
  refine W.eq (g2 := F0 m 30 ls [.int (oI (k_lo g 6))]) rfl ?_
  refine lv_istore (lv' := [(5, .int (oI (k_lo g 6))), (4, .int (oI (k_go g 6))), (3, .int (nI (k_due g))), (2, .int (nI (g 41))), (0, .ref x0), (1, .int (nI ot))]) hx hb dL_isAdviceSo_30 hl (by decide) rfl (fun ls hl => ?_)
  refine lv_aload_n hx hb dL_isAdviceSo_32 rfl (lv_at hl 4 rfl) ?_
  refine lv_iload_n hx hb dL_isAdviceSo_33 rfl (lv_at hl 3 rfl) ?_
  refine ipF_V (C := RX6) (n := 1) ⟨hx, hb, hml, hown, hts⟩ hM hS hP hD (mc := 0) (ms := 0) (ua_ifKept l D tc zb x0 as tr qs g trc qsc gc od n tri qsi gi fc hc v1 v2 v3 v4 trs qss gs iz u ln (by assumption) (by assumption) (g 41) (by omega)) gL_isAdviceSo_X6_ifKept rfl (by decide +kernel) ⟨Nat.le_of_ble_eq_true rfl, Nat.le_of_ble_eq_true rfl⟩ rfl (va_recv hM.1 hP (ci := 5) (q0 := 0) rfl rfl) rfl hl.1 rfl (Nat.le_of_ble_eq_true rfl) dL_isAdviceSo_34 ⟨Nat.le_refl _, Nat.le_refl _⟩ (fun H locs hP hD hS => ?_)
  refine W.eq (g2 := F0 m 37 ls [.int (nI (k_sum g (g 41)))]) rfl ?_
  refine lv_istore (lv' := [(6, .int (nI (k_sum g (g 41)))), (5, .int (oI (k_lo g 6))), (4, .int (oI (k_go g 6))), (3, .int (nI (k_due g))), (2, .int (nI (g 41))), (0, .ref x0), (1, .int (nI ot))]) hx hb dL_isAdviceSo_37 hl (by decide) rfl (fun ls hl => ?_)
  have kj1 : ∀ (H : Heap) (locs : List Loc), va_P D vwCl (CW tc x0 as tr qs g trc qsc gc od n tri qsi gi (k_lf fc g (6 * g 46)) (k_lh hc g (g 46)) (nI (g 46)) (nI (g 0)) (nI (g 41)) (nI (k_due g)) trs qss gs iz u ln) H → va_D A (CW tc x0 as tr qs g trc qsc gc od n tri qsi gi (k_lf fc g (6 * g 46)) (k_lh hc g (g 46)) (nI (g 46)) (nI (g 0)) (nI (g 41)) (nI (k_due g)) trs qss gs iz u ln) → va_S A s.heap H locs → ∀ ls : Array Slot, lv_has ls 12 [(6, .int (nI (k_sum g (g 41)))), (5, .int (oI (k_lo g 6))), (4, .int (oI (k_go g 6))), (3, .int (nI (k_due g))), (2, .int (nI (g 41))), (0, .ref x0), (1, .int (nI ot)), (7, .int (nI 1))] → W p l e ({ frames := 5, cells := 0, slots := 0, locals := 117 } : Room) s m args below meth c H locs 0 0 (MQ below (ipQ D A (CW tc x0 as tr qs g trc qsc gc od n tri qsi gi (k_lf fc g (6 * g 46)) (k_lh hc g (g 46)) (nI (g 46)) (nI (g 0)) (nI (g 41)) (nI (k_due g)) trs qss gs iz u ln) (some (.int (bI (true))))) args s 0 0 A) (F0 m 70 ls []) := by
    intro H locs hP hD hS ls hl
    refine lv_iload hx hb dL_isAdviceSo_70 (lv_at hl 7 rfl) ?_
    refine lv_if_eq (tgt := 104) hx hb dL_isAdviceSo_72 (by decide) (fun h9 => False.elim (by revert h9; decide)) (fun _ => ?_)
    have kj2 : ∀ (H : Heap) (locs : List Loc), va_P D vwCl (CW tc x0 as tr qs g trc qsc gc od n tri qsi gi (k_lf fc g (6 * g 46)) (k_lh hc g (g 46)) (nI (g 46)) (nI (g 0)) (nI (g 41)) (nI (k_due g)) trs qss gs iz u ln) H → va_D A (CW tc x0 as tr qs g trc qsc gc od n tri qsi gi (k_lf fc g (6 * g 46)) (k_lh hc g (g 46)) (nI (g 46)) (nI (g 0)) (nI (g 41)) (nI (k_due g)) trs qss gs iz u ln) → va_S A s.heap H locs → ∀ ls : Array Slot, lv_has ls 12 [(6, .int (nI (k_sum g (g 41)))), (5, .int (oI (k_lo g 6))), (4, .int (oI (k_go g 6))), (3, .int (nI (k_due g))), (2, .int (nI (g 41))), (0, .ref x0), (1, .int (nI ot)), (7, .int (nI 1))] → W p l e ({ frames := 5, cells := 0, slots := 0, locals := 117 } : Room) s m args below meth c H locs 0 0 (MQ below (ipQ D A (CW tc x0 as tr qs g trc qsc gc od n tri qsi gi (k_lf fc g (6 * g 46)) (k_lh hc g (g 46)) (nI (g 46)) (nI (g 0)) (nI (g 41)) (nI (k_due g)) trs qss gs iz u ln) (some (.int (bI (true))))) args s 0 0 A) (F0 m 107 ls []) := by
      intro H locs hP hD hS ls hl
      refine lv_iconst (v := (nI 0)) hx hb dL_isAdviceSo_107 (by decide) ?_
      refine lv_istore (lv' := [(8, .int (nI 0)), (6, .int (nI (k_sum g (g 41)))), (5, .int (oI (k_lo g 6))), (4, .int (oI (k_go g 6))), (3, .int (nI (k_due g))), (2, .int (nI (g 41))), (0, .ref x0), (1, .int (nI ot)), (7, .int (nI 1))]) hx hb dL_isAdviceSo_108 hl (by decide) rfl (fun ls hl => ?_)
      have lp110 : ∀ (n9 : Nat) (q : Nat), (6 - q) < n9 → (q ≤ 6) → ∀ (H : Heap) (locs : List Loc), va_P D vwCl (CW tc x0 as tr qs g trc qsc gc od n tri qsi gi (k_lf fc g (6 * g 46)) (k_lh hc g (g 46)) (nI (g 46)) (nI (g 0)) (nI (g 41)) (nI (k_due g)) trs qss gs iz u ln) H → va_D A (CW tc x0 as tr qs g trc qsc gc od n tri qsi gi (k_lf fc g (6 * g 46)) (k_lh hc g (g 46)) (nI (g 46)) (nI (g 0)) (nI (g 41)) (nI (k_due g)) trs qss gs iz u ln) → va_S A s.heap H locs → ∀ ls : Array Slot, lv_has ls 12 [(8, .int (nI q)), (6, .int (nI (k_sum g (g 41)))), (5, .int (oI (k_lo g 6))), (4, .int (oI (k_go g 6))), (3, .int (nI (k_due g))), (2, .int (nI (g 41))), (0, .ref x0), (1, .int (nI ot)), (7, .int (nI 1))] → W p l e ({ frames := 5, cells := 0, slots := 0, locals := 117 } : Room) s m args below meth c H locs 0 0 (MQ below (ipQ D A (CW tc x0 as tr qs g trc qsc gc od n tri qsi gi (k_lf fc g (6 * g 46)) (k_lh hc g (g 46)) (nI (g 46)) (nI (g 0)) (nI (g 41)) (nI (k_due g)) trs qss gs iz u ln) (some (.int (bI (true))))) args s 0 0 A) (F0 m 110 ls []) := by
        intro n9
        induction n9 with
        | zero => intro q hmu; exact absurd hmu (Nat.not_lt_zero _)
        | succ n9 ih110 =>
          intro q hmu hq H locs hP hD hS ls hl
          refine lv_iload hx hb dL_isAdviceSo_110 (lv_at hl 0 rfl) ?_
          refine lv_bipush (v := (nI 6)) hx hb dL_isAdviceSo_112 (by decide) ?_
          refine ln_icmp_ge (tgt := 277) hx hb dL_isAdviceSo_114 (by decide) (by omega) (by decide) (fun h3 => ?_) (fun h3 => ?_)
          · have hbs := k_bs_le (g := g) 63
            have hs1 := k_sum_le hk (set := k_bs g 63)
            have hs2 := k_sum_le hk (set := ot)
            have hs3 := k_sum_le hk (set := 63)
            have hm1 : k_due g * k_pc (k_bs g 63) ≤ 693 * 6 := Nat.mul_le_mul (k_due_le hk) (k_pc_le _)
            have hm2 : k_due g * k_pc ot ≤ 693 * 6 := Nat.mul_le_mul (k_due_le hk) (k_pc_le _)
            have hbe := k_best (g := g) (s := ot) (by omega)
            have h63 := k_sum_63 (g := g) ot
            have hdl := k_dn_le g 64
            have hp1 := k_pc_le (k_dn g 64)
            have hp2 := k_pc_le ot
            refine lv_aload_n hx hb dL_isAdviceSo_277 rfl (lv_at hl 6 rfl) ?_
            refine ipF_V (C := RX6) (n := 0) ⟨hx, hb, hml, hown, hts⟩ hM hS hP hD (mc := 0) (ms := 0) (ua_bestSet l D tc zb x0 as tr qs g trc qsc gc od n tri qsi gi fc hc v1 v2 v3 v4 trs qss gs iz u ln (by assumption) (by assumption)) gL_isAdviceSo_X6_bestSet rfl (by decide +kernel) ⟨Nat.le_of_ble_eq_true rfl, Nat.le_of_ble_eq_true rfl⟩ rfl (va_recv hM.1 hP (ci := 5) (q0 := 0) rfl rfl) rfl hl.1 rfl (Nat.le_of_ble_eq_true rfl) dL_isAdviceSo_278 ⟨Nat.le_refl _, Nat.le_refl _⟩ (fun H locs hP hD hS => ?_)
            refine W.eq (g2 := F0 m 281 ls [.int (nI (k_bs g 63))]) rfl ?_
            refine lv_istore (lv' := [(8, .int (nI (k_bs g 63))), (6, .int (nI (k_sum g (g 41)))), (5, .int (oI (k_lo g 6))), (4, .int (oI (k_go g 6))), (3, .int (nI (k_due g))), (2, .int (nI (g 41))), (0, .ref x0), (1, .int (nI ot)), (7, .int (nI 1))]) hx hb dL_isAdviceSo_281 hl (by decide) rfl (fun ls hl => ?_)
            refine lv_iload hx hb dL_isAdviceSo_283 (lv_at hl 8 rfl) ?_
            refine lv_if_eq (tgt := 335) hx hb dL_isAdviceSo_285 (by decide) (fun h9 => False.elim (by revert h9; decide)) (fun _ => ?_)
            refine lv_aload_n hx hb dL_isAdviceSo_288 rfl (lv_at hl 6 rfl) ?_
            refine lv_iload hx hb dL_isAdviceSo_289 (lv_at hl 0 rfl) ?_
            refine ipF_V (C := RX6) (n := 1) ⟨hx, hb, hml, hown, hts⟩ hM hS hP hD (mc := 0) (ms := 0) (ua_ifKept l D tc zb x0 as tr qs g trc qsc gc od n tri qsi gi fc hc v1 v2 v3 v4 trs qss gs iz u ln (by assumption) (by assumption) (k_bs g 63) (by omega)) gL_isAdviceSo_X6_ifKept rfl (by decide +kernel) ⟨Nat.le_of_ble_eq_true rfl, Nat.le_of_ble_eq_true rfl⟩ rfl (va_recv hM.1 hP (ci := 5) (q0 := 0) rfl rfl) rfl hl.1 rfl (Nat.le_of_ble_eq_true rfl) dL_isAdviceSo_291 ⟨Nat.le_refl _, Nat.le_refl _⟩ (fun H locs hP hD hS => ?_)
            refine W.eq (g2 := F0 m 294 ls [.int (nI (k_sum g (k_bs g 63)))]) rfl ?_
            refine lv_iload_n hx hb dL_isAdviceSo_294 rfl (lv_at hl 4 rfl) ?_
            refine lv_iload hx hb dL_isAdviceSo_295 (lv_at hl 0 rfl) ?_
            refine ro_S (n := 1) ⟨hx, hb, hml, hown, hts⟩ hM hS hP (l_bits l D tc zb (k_bs g 63) (by omega)) gL_isAdviceSo_L_bits rfl (by decide +kernel) ⟨Nat.le_of_ble_eq_true rfl, Nat.le_of_ble_eq_true rfl⟩ [] rfl rfl hl.1 rfl (Nat.le_of_ble_eq_true rfl) dL_isAdviceSo_297 ⟨Nat.le_refl _, Nat.le_refl _⟩ ?_
            refine ln_imul hx hb dL_isAdviceSo_300 ?_
            refine ln_iadd hx hb dL_isAdviceSo_301 ?_
            refine lv_aload_n hx hb dL_isAdviceSo_302 rfl (lv_at hl 6 rfl) ?_
            refine lv_iload_n hx hb dL_isAdviceSo_303 rfl (lv_at hl 7 rfl) ?_
            refine ipF_V (C := RX6) (n := 1) ⟨hx, hb, hml, hown, hts⟩ hM hS hP hD (mc := 0) (ms := 0) (ua_ifKept l D tc zb x0 as tr qs g trc qsc gc od n tri qsi gi fc hc v1 v2 v3 v4 trs qss gs iz u ln (by assumption) (by assumption) ot (by omega)) gL_isAdviceSo_X6_ifKept rfl (by decide +kernel) ⟨Nat.le_of_ble_eq_true rfl, Nat.le_of_ble_eq_true rfl⟩ rfl (va_recv hM.1 hP (ci := 5) (q0 := 0) rfl rfl) rfl hl.1 rfl (Nat.le_of_ble_eq_true rfl) dL_isAdviceSo_304 ⟨Nat.le_refl _, Nat.le_refl _⟩ (fun H locs hP hD hS => ?_)
            refine W.eq (g2 := F0 m 307 ls [.int (nI (k_sum g ot)), .int (nI ((k_sum g (k_bs g 63)) + ((k_due g) * (k_pc (k_bs g 63)))))]) rfl ?_
            refine lv_iload_n hx hb dL_isAdviceSo_307 rfl (lv_at hl 4 rfl) ?_
            refine lv_iload_n hx hb dL_isAdviceSo_308 rfl (lv_at hl 7 rfl) ?_
            refine ro_S (n := 1) ⟨hx, hb, hml, hown, hts⟩ hM hS hP (l_bits l D tc zb ot (by omega)) gL_isAdviceSo_L_bits rfl (by decide +kernel) ⟨Nat.le_of_ble_eq_true rfl, Nat.le_of_ble_eq_true rfl⟩ [] rfl rfl hl.1 rfl (Nat.le_of_ble_eq_true rfl) dL_isAdviceSo_309 ⟨Nat.le_refl _, Nat.le_refl _⟩ ?_
            refine ln_imul hx hb dL_isAdviceSo_312 ?_
            refine ln_iadd hx hb dL_isAdviceSo_313 ?_
            refine ln_icmp_gt (tgt := 335) hx hb dL_isAdviceSo_314 (by decide) (by omega) (by omega) (fun h4 => ?_) (fun h4 => ?_)
            · exfalso; omega
            · refine lv_aload_n hx hb dL_isAdviceSo_317 rfl (lv_at hl 6 rfl) ?_
              refine lv_bipush (v := (nI 63)) hx hb dL_isAdviceSo_318 (by decide) ?_
              refine ipF_V (C := RX6) (n := 1) ⟨hx, hb, hml, hown, hts⟩ hM hS hP hD (mc := 0) (ms := 0) (ua_ifKept l D tc zb x0 as tr qs g trc qsc gc od n tri qsi gi fc hc v1 v2 v3 v4 trs qss gs iz u ln (by assumption) (by assumption) 63 (by omega)) gL_isAdviceSo_X6_ifKept rfl (by decide +kernel) ⟨Nat.le_of_ble_eq_true rfl, Nat.le_of_ble_eq_true rfl⟩ rfl (va_recv hM.1 hP (ci := 5) (q0 := 0) rfl rfl) rfl hl.1 rfl (Nat.le_of_ble_eq_true rfl) dL_isAdviceSo_320 ⟨Nat.le_refl _, Nat.le_refl _⟩ (fun H locs hP hD hS => ?_)
              refine W.eq (g2 := F0 m 323 ls [.int (nI (k_sum g 63))]) rfl ?_
              refine lv_aload_n hx hb dL_isAdviceSo_323 rfl (lv_at hl 6 rfl) ?_
              refine lv_iload_n hx hb dL_isAdviceSo_324 rfl (lv_at hl 7 rfl) ?_
              refine ipF_V (C := RX6) (n := 1) ⟨hx, hb, hml, hown, hts⟩ hM hS hP hD (mc := 0) (ms := 0) (ua_ifKept l D tc zb x0 as tr qs g trc qsc gc od n tri qsi gi fc hc v1 v2 v3 v4 trs qss gs iz u ln (by assumption) (by assumption) ot (by omega)) gL_isAdviceSo_X6_ifKept rfl (by decide +kernel) ⟨Nat.le_of_ble_eq_true rfl, Nat.le_of_ble_eq_true rfl⟩ rfl (va_recv hM.1 hP (ci := 5) (q0 := 0) rfl rfl) rfl hl.1 rfl (Nat.le_of_ble_eq_true rfl) dL_isAdviceSo_325 ⟨Nat.le_refl _, Nat.le_refl _⟩ (fun H locs hP hD hS => ?_)
              refine W.eq (g2 := F0 m 328 ls [.int (nI (k_sum g ot)), .int (nI (k_sum g 63))]) rfl ?_
              refine ln_icmp_gt (tgt := 335) hx hb dL_isAdviceSo_328 (by decide) (by omega) (by omega) (fun h5 => ?_) (fun h5 => ?_)
              · exfalso; omega
              · refine lv_iconst (v := (nI 1)) hx hb dL_isAdviceSo_331 (by decide) ?_
                refine lv_goto (tgt := 336) hx hb dL_isAdviceSo_332 (by decide) ?_
                refine lv_istore (lv' := [(7, .int (nI 1)), (8, .int (nI (k_bs g 63))), (6, .int (nI (k_sum g (g 41)))), (5, .int (oI (k_lo g 6))), (4, .int (oI (k_go g 6))), (3, .int (nI (k_due g))), (2, .int (nI (g 41))), (0, .ref x0), (1, .int (nI ot))]) hx hb dL_isAdviceSo_336 hl (by decide) rfl (fun ls hl => ?_)
                refine lv_aload_n hx hb dL_isAdviceSo_338 rfl (lv_at hl 7 rfl) ?_
                refine ipF_V (C := RX6) (n := 0) ⟨hx, hb, hml, hown, hts⟩ hM hS hP hD (mc := 0) (ms := 0) (ua_needed l D tc zb x0 as tr qs g trc qsc gc od n tri qsi gi fc hc v1 v2 v3 v4 trs qss gs iz u ln (by assumption) (by assumption)) gL_isAdviceSo_X6_needed rfl (by decide +kernel) ⟨Nat.le_of_ble_eq_true rfl, Nat.le_of_ble_eq_true rfl⟩ rfl (va_recv hM.1 hP (ci := 5) (q0 := 0) rfl rfl) rfl hl.1 rfl (Nat.le_of_ble_eq_true rfl) dL_isAdviceSo_339 ⟨Nat.le_refl _, Nat.le_refl _⟩ (fun H locs hP hD hS => ?_)
                refine W.eq (g2 := F0 m 342 ls [.int (nI (k_dn g 64))]) rfl ?_
                refine lv_istore (lv' := [(9, .int (nI (k_dn g 64))), (7, .int (nI 1)), (8, .int (nI (k_bs g 63))), (6, .int (nI (k_sum g (g 41)))), (5, .int (oI (k_lo g 6))), (4, .int (oI (k_go g 6))), (3, .int (nI (k_due g))), (2, .int (nI (g 41))), (0, .ref x0), (1, .int (nI ot))]) hx hb dL_isAdviceSo_342 hl (by decide) rfl (fun ls hl => ?_)
                refine lv_iload hx hb dL_isAdviceSo_344 (lv_at hl 1 rfl) ?_
                refine lv_if_eq (tgt := 400) hx hb dL_isAdviceSo_346 (by decide) (fun h9 => False.elim (by revert h9; decide)) (fun _ => ?_)
                refine lv_aload_n hx hb dL_isAdviceSo_349 rfl (lv_at hl 8 rfl) ?_
                refine lv_iload hx hb dL_isAdviceSo_350 (lv_at hl 0 rfl) ?_
                refine ro_S (n := 2) ⟨hx, hb, hml, hown, hts⟩ hM hS hP (l_enough l D tc zb x0 as tr qs g trc qsc gc od n tri qsi gi ((k_lf fc g (6 * g 46))) ((k_lh hc g (g 46))) ((nI (g 46))) ((nI (g 0))) ((nI (g 41))) ((nI (k_due g))) trs qss gs iz u ln (k_dn g 64) (by assumption) (by assumption) (by omega)) gL_isAdviceSo_L_isEnough rfl (by decide +kernel) ⟨Nat.le_of_ble_eq_true rfl, Nat.le_of_ble_eq_true rfl⟩ [0, 1, 2, 3, 4, 5, 6, 7, 8, 9, 10, 11, 12, 13, 14, 15, 16, 17, 18, 19, 20, 21, 22, 23, 24, 25, 26, 27, 28, 29, 30, 31, 32, 33, 34, 35, 36, 37, 38, 39, 40, 41, 42, 43, 44, 45, 46, 47, 48, 49, 50, 51, 52, 53, 54, 55, 56, 57, 58, 59, 60, 61, 62, 63] rfl rfl hl.1 rfl (Nat.le_of_ble_eq_true rfl) dL_isAdviceSo_352 ⟨Nat.le_refl _, Nat.le_refl _⟩ ?_
                refine ln_eq (x' := (bI (true))) (congrArg bI (k_dn_en hk 64)) ?_
                refine lv_if_eq (tgt := 400) hx hb dL_isAdviceSo_355 (by decide) (fun h9 => False.elim (by revert h9; decide)) (fun _ => ?_)
                refine lv_aload_n hx hb dL_isAdviceSo_358 rfl (lv_at hl 8 rfl) ?_
                refine lv_iload_n hx hb dL_isAdviceSo_359 rfl (lv_at hl 9 rfl) ?_
                refine ro_S (n := 2) ⟨hx, hb, hml, hown, hts⟩ hM hS hP (l_enough l D tc zb x0 as tr qs g trc qsc gc od n tri qsi gi ((k_lf fc g (6 * g 46))) ((k_lh hc g (g 46))) ((nI (g 46))) ((nI (g 0))) ((nI (g 41))) ((nI (k_due g))) trs qss gs iz u ln ot (by assumption) (by assumption) (by omega)) gL_isAdviceSo_L_isEnough rfl (by decide +kernel) ⟨Nat.le_of_ble_eq_true rfl, Nat.le_of_ble_eq_true rfl⟩ [0, 1, 2, 3, 4, 5, 6, 7, 8, 9, 10, 11, 12, 13, 14, 15, 16, 17, 18, 19, 20, 21, 22, 23, 24, 25, 26, 27, 28, 29, 30, 31, 32, 33, 34, 35, 36, 37, 38, 39, 40, 41, 42, 43, 44, 45, 46, 47, 48, 49, 50, 51, 52, 53, 54, 55, 56, 57, 58, 59, 60, 61, 62, 63] rfl rfl hl.1 rfl (Nat.le_of_ble_eq_true rfl) dL_isAdviceSo_360 ⟨Nat.le_refl _, Nat.le_refl _⟩ ?_
                refine ln_if_eqB (tgt := 396) hx hb dL_isAdviceSo_363 (by decide) (fun h6 => ?_) (fun h6 => ?_)
                · refine lv_iconst (v := (nI 1)) hx hb dL_isAdviceSo_396 (by decide) ?_
                  refine lv_goto (tgt := 401) hx hb dL_isAdviceSo_397 (by decide) ?_
                  exact ip_zret hx hb hr hlk dL_isAdviceSo_401 hS (show bI true = _ from congrArg bI (by rfl)) hP
                · have hdm := k_dn_min hk 64 (Nat.le_refl _) ot (by omega) (by omega) (by assumption)
                  refine lv_iload hx hb dL_isAdviceSo_366 (lv_at hl 0 rfl) ?_
                  refine ro_S (n := 1) ⟨hx, hb, hml, hown, hts⟩ hM hS hP (l_bits l D tc zb (k_dn g 64) (by omega)) gL_isAdviceSo_L_bits rfl (by decide +kernel) ⟨Nat.le_of_ble_eq_true rfl, Nat.le_of_ble_eq_true rfl⟩ [] rfl rfl hl.1 rfl (Nat.le_of_ble_eq_true rfl) dL_isAdviceSo_368 ⟨Nat.le_refl _, Nat.le_refl _⟩ ?_
                  refine lv_iload_n hx hb dL_isAdviceSo_371 rfl (lv_at hl 9 rfl) ?_
                  refine ro_S (n := 1) ⟨hx, hb, hml, hown, hts⟩ hM hS hP (l_bits l D tc zb ot (by omega)) gL_isAdviceSo_L_bits rfl (by decide +kernel) ⟨Nat.le_of_ble_eq_true rfl, Nat.le_of_ble_eq_true rfl⟩ [] rfl rfl hl.1 rfl (Nat.le_of_ble_eq_true rfl) dL_isAdviceSo_372 ⟨Nat.le_refl _, Nat.le_refl _⟩ ?_
                  refine ln_icmp_lt (tgt := 396) hx hb dL_isAdviceSo_375 (by decide) (by omega) (by omega) (fun h7 => ?_) (fun h7 => ?_)
                  · refine lv_iconst (v := (nI 1)) hx hb dL_isAdviceSo_396 (by decide) ?_
                    refine lv_goto (tgt := 401) hx hb dL_isAdviceSo_397 (by decide) ?_
                    exact ip_zret hx hb hr hlk dL_isAdviceSo_401 hS (show bI true = _ from congrArg bI (by rfl)) hP
                  · refine lv_iload hx hb dL_isAdviceSo_378 (lv_at hl 0 rfl) ?_
                    refine ro_S (n := 1) ⟨hx, hb, hml, hown, hts⟩ hM hS hP (l_bits l D tc zb (k_dn g 64) (by omega)) gL_isAdviceSo_L_bits rfl (by decide +kernel) ⟨Nat.le_of_ble_eq_true rfl, Nat.le_of_ble_eq_true rfl⟩ [] rfl rfl hl.1 rfl (Nat.le_of_ble_eq_true rfl) dL_isAdviceSo_380 ⟨Nat.le_refl _, Nat.le_refl _⟩ ?_
                    refine lv_iload_n hx hb dL_isAdviceSo_383 rfl (lv_at hl 9 rfl) ?_
                    refine ro_S (n := 1) ⟨hx, hb, hml, hown, hts⟩ hM hS hP (l_bits l D tc zb ot (by omega)) gL_isAdviceSo_L_bits rfl (by decide +kernel) ⟨Nat.le_of_ble_eq_true rfl, Nat.le_of_ble_eq_true rfl⟩ [] rfl rfl hl.1 rfl (Nat.le_of_ble_eq_true rfl) dL_isAdviceSo_384 ⟨Nat.le_refl _, Nat.le_refl _⟩ ?_
                    refine ln_icmp_ne (tgt := 400) hx hb dL_isAdviceSo_387 (by decide) (by omega) (by omega) (fun h8 => ?_) (fun h8 => ?_)
                    · exfalso; omega
                    · refine lv_iload hx hb dL_isAdviceSo_390 (lv_at hl 0 rfl) ?_
                      refine lv_iload_n hx hb dL_isAdviceSo_392 rfl (lv_at hl 9 rfl) ?_
                      refine ln_icmp_gt (tgt := 400) hx hb dL_isAdviceSo_393 (by decide) (by omega) (by omega) (fun h9 => ?_) (fun h9 => ?_)
                      · exfalso; omega
                      · refine lv_iconst (v := (nI 1)) hx hb dL_isAdviceSo_396 (by decide) ?_
                        refine lv_goto (tgt := 401) hx hb dL_isAdviceSo_397 (by decide) ?_
                        exact ip_zret hx hb hr hlk dL_isAdviceSo_401 hS (show bI true = _ from congrArg bI (by rfl)) hP
          · have hvb := k_val_bd hk q
            have ha64 := k_and64 (y := 63 ^^^ 2 ^ q) ok1
            have ho64 := k_or64 (g 41) ok1 q (by omega)
            refine lv_iload_n hx hb dL_isAdviceSo_117 rfl (lv_at hl 5 rfl) ?_
            refine lv_iload hx hb dL_isAdviceSo_118 (lv_at hl 0 rfl) ?_
            refine ln_ishr hx hb dL_isAdviceSo_120 (by omega) (by omega) ?_
            refine lv_iconst (v := (nI 1)) hx hb dL_isAdviceSo_121 (by decide) ?_
            refine ln_iand1 hx hb dL_isAdviceSo_122 (Nat.lt_of_le_of_lt (Nat.div_le_self _ _) (by omega)) ?_
            refine lv_iconst (v := (nI 1)) hx hb dL_isAdviceSo_123 (by decide) ?_
            refine ln_icmp_ne (tgt := 131) hx hb dL_isAdviceSo_124 (by decide) (by omega) (by decide) (fun h10 => ?_) (fun h10 => ?_)
            · refine lv_iconst (v := (nI 0)) hx hb dL_isAdviceSo_131 (by decide) ?_
              refine lv_istore (lv' := [(9, .int (nI 0)), (8, .int (nI q)), (6, .int (nI (k_sum g (g 41)))), (5, .int (oI (k_lo g 6))), (4, .int (oI (k_go g 6))), (3, .int (nI (k_due g))), (2, .int (nI (g 41))), (0, .ref x0), (1, .int (nI ot)), (7, .int (nI 1))]) hx hb dL_isAdviceSo_132 hl (by decide) rfl (fun ls hl => ?_)
              refine lv_aload_n hx hb dL_isAdviceSo_134 rfl (lv_at hl 7 rfl) ?_
              refine lv_iload hx hb dL_isAdviceSo_135 (lv_at hl 1 rfl) ?_
              refine ipF_V (C := RX6) (n := 1) ⟨hx, hb, hml, hown, hts⟩ hM hS hP hD (mc := 0) (ms := 0) (ua_value l D tc zb x0 as tr qs g trc qsc gc od n tri qsi gi fc hc v1 v2 v3 v4 trs qss gs iz u ln (by assumption) (by assumption) q (by omega)) gL_isAdviceSo_X6_value rfl (by decide +kernel) ⟨Nat.le_of_ble_eq_true rfl, Nat.le_of_ble_eq_true rfl⟩ rfl (va_recv hM.1 hP (ci := 5) (q0 := 0) rfl rfl) rfl hl.1 rfl (Nat.le_of_ble_eq_true rfl) dL_isAdviceSo_137 ⟨Nat.le_refl _, Nat.le_refl _⟩ (fun H locs hP hD hS => ?_)
              refine W.eq (g2 := F0 m 140 ls [.int (zI (k_val g q))]) rfl ?_
              refine lv_istore (lv' := [(10, .int (zI (k_val g q))), (9, .int (nI 0)), (8, .int (nI q)), (6, .int (nI (k_sum g (g 41)))), (5, .int (oI (k_lo g 6))), (4, .int (oI (k_go g 6))), (3, .int (nI (k_due g))), (2, .int (nI (g 41))), (0, .ref x0), (1, .int (nI ot)), (7, .int (nI 1))]) hx hb dL_isAdviceSo_140 hl (by decide) rfl (fun ls hl => ?_)
              refine lv_aload_n hx hb dL_isAdviceSo_142 rfl (lv_at hl 8 rfl) ?_
              refine lv_iload hx hb dL_isAdviceSo_143 (lv_at hl 1 rfl) ?_
              refine lv_if_eq (tgt := 159) hx hb dL_isAdviceSo_145 (by decide) (fun _ => ?_) (fun h9 => False.elim (by revert h9; decide))
              refine lv_iload_n hx hb dL_isAdviceSo_159 rfl (lv_at hl 7 rfl) ?_
              refine lv_iconst (v := (nI 1)) hx hb dL_isAdviceSo_160 (by decide) ?_
              refine lv_iload hx hb dL_isAdviceSo_161 (lv_at hl 2 rfl) ?_
              refine ln_ishl1 hx hb dL_isAdviceSo_163 (by omega) ?_
              refine ln_ior hx hb dL_isAdviceSo_164 ?_
              refine ipF_V (C := RX6) (n := 1) ⟨hx, hb, hml, hown, hts⟩ hM hS hP hD (mc := 0) (ms := 0) (ua_ifKept l D tc zb x0 as tr qs g trc qsc gc od n tri qsi gi fc hc v1 v2 v3 v4 trs qss gs iz u ln (by assumption) (by assumption) ((g 41) ||| (2 ^ q)) (by omega)) gL_isAdviceSo_X6_ifKept rfl (by decide +kernel) ⟨Nat.le_of_ble_eq_true rfl, Nat.le_of_ble_eq_true rfl⟩ rfl (va_recv hM.1 hP (ci := 5) (q0 := 0) rfl rfl) rfl hl.1 rfl (Nat.le_of_ble_eq_true rfl) dL_isAdviceSo_165 ⟨Nat.le_refl _, Nat.le_refl _⟩ (fun H locs hP hD hS => ?_)
              refine W.eq (g2 := F0 m 168 ls [.int (nI (k_sum g ((g 41) ||| (2 ^ q))))]) rfl ?_
              refine lv_istore (lv' := [(11, .int (nI (k_sum g ((g 41) ||| (2 ^ q))))), (10, .int (zI (k_val g q))), (9, .int (nI 0)), (8, .int (nI q)), (6, .int (nI (k_sum g (g 41)))), (5, .int (oI (k_lo g 6))), (4, .int (oI (k_go g 6))), (3, .int (nI (k_due g))), (2, .int (nI (g 41))), (0, .ref x0), (1, .int (nI ot)), (7, .int (nI 1))]) hx hb dL_isAdviceSo_168 hl (by decide) rfl (fun ls hl => ?_)
              refine lv_iload hx hb dL_isAdviceSo_170 (lv_at hl 11 rfl) ?_
              refine lv_if_eq (tgt := 204) hx hb dL_isAdviceSo_172 (by decide) (fun h9 => False.elim (by revert h9; decide)) (fun _ => ?_)
              refine lv_iload hx hb dL_isAdviceSo_175 (lv_at hl 1 rfl) ?_
              refine lv_iload hx hb dL_isAdviceSo_177 (lv_at hl 2 rfl) ?_
              refine lv_if_eq (tgt := 190) hx hb dL_isAdviceSo_179 (by decide) (fun _ => ?_) (fun h9 => False.elim (by revert h9; decide))
              refine lv_iload hx hb dL_isAdviceSo_190 (lv_at hl 4 rfl) ?_
              refine lv_iload hx hb dL_isAdviceSo_192 (lv_at hl 0 rfl) ?_
              refine ln_isubZ hx hb dL_isAdviceSo_194 ?_
              refine lv_iload_n hx hb dL_isAdviceSo_195 rfl (lv_at hl 7 rfl) ?_
              refine ln_isubZN hx hb dL_isAdviceSo_196 ?_
              refine ln_eq (x' := zI (k_val g q)) (congrArg zI (by first | exact k_val_in hk (by omega) (k_in_t (by assumption)) | exact k_val_out hk (by omega) (k_in_f (by assumption)))) ?_
              refine lv_icmp_ne (tgt := 204) hx hb dL_isAdviceSo_197 (by decide) (fun h11 => ?_) (fun h11 => ?_)
              · exact absurd rfl h11
              · refine lv_iconst (v := (nI 1)) hx hb dL_isAdviceSo_200 (by decide) ?_
                refine lv_goto (tgt := 205) hx hb dL_isAdviceSo_201 (by decide) ?_
                refine lv_istore (lv' := [(7, .int (nI 1)), (11, .int (nI (k_sum g ((g 41) ||| (2 ^ q))))), (10, .int (zI (k_val g q))), (9, .int (nI 0)), (8, .int (nI q)), (6, .int (nI (k_sum g (g 41)))), (5, .int (oI (k_lo g 6))), (4, .int (oI (k_go g 6))), (3, .int (nI (k_due g))), (2, .int (nI (g 41))), (0, .ref x0), (1, .int (nI ot))]) hx hb dL_isAdviceSo_205 hl (by decide) rfl (fun ls hl => ?_)
                refine lv_iload hx hb dL_isAdviceSo_207 (lv_at hl 0 rfl) ?_
                refine lv_if_eq (tgt := 268) hx hb dL_isAdviceSo_209 (by decide) (fun h9 => False.elim (by revert h9; decide)) (fun _ => ?_)
                refine lv_iload hx hb dL_isAdviceSo_212 (lv_at hl 3 rfl) ?_
                refine lv_if_eq (tgt := 242) hx hb dL_isAdviceSo_214 (by decide) (fun _ => ?_) (fun h9 => False.elim (by revert h9; decide))
                refine lv_iload hx hb dL_isAdviceSo_242 (lv_at hl 2 rfl) ?_
                refine ln_if_leZ (x := (k_val g q)) (tgt := 264) hx hb dL_isAdviceSo_244 (by decide) (by omega) (by omega) (fun h12 => ?_) (fun h12 => ?_)
                · refine lv_iconst (v := (nI 1)) hx hb dL_isAdviceSo_264 (by decide) ?_
                  refine lv_goto (tgt := 269) hx hb dL_isAdviceSo_265 (by decide) ?_
                  refine lv_istore (lv' := [(7, .int (nI 1)), (11, .int (nI (k_sum g ((g 41) ||| (2 ^ q))))), (10, .int (zI (k_val g q))), (9, .int (nI 0)), (8, .int (nI q)), (6, .int (nI (k_sum g (g 41)))), (5, .int (oI (k_lo g 6))), (4, .int (oI (k_go g 6))), (3, .int (nI (k_due g))), (2, .int (nI (g 41))), (0, .ref x0), (1, .int (nI ot))]) hx hb dL_isAdviceSo_269 hl (by decide) rfl (fun ls hl => ?_)
                  refine lv_iinc (v := (nI (q + 1))) (lv' := [(8, .int (nI (q + 1))), (7, .int (nI 1)), (11, .int (nI (k_sum g ((g 41) ||| (2 ^ q))))), (10, .int (zI (k_val g q))), (9, .int (nI 0)), (6, .int (nI (k_sum g (g 41)))), (5, .int (oI (k_lo g 6))), (4, .int (oI (k_go g 6))), (3, .int (nI (k_due g))), (2, .int (nI (g 41))), (0, .ref x0), (1, .int (nI ot))]) hx hb dL_isAdviceSo_271 hl (k := 4) rfl (nI_add q 1) (by decide) rfl (fun ls hl => ?_)
                  refine lv_goto (tgt := 110) hx hb dL_isAdviceSo_274 (by decide) ?_
                  exact ih110 (q + 1) (by omega) (by omega) _ _ hP hD hS _ (lv_sub hl [0, 5, 6, 7, 8, 9, 10, 11, 1] rfl)
                · obtain ⟨r9, hr9, hr6, hrv⟩ := k_go_ok (g := g) (q := q) (by omega) (k_in_f (by assumption)) (by omega)
                  have hrb := k_val_bd hk r9
                  have hop9 : oI (k_go g 6) = nI r9 := congrArg oI hr9
                  refine lv_iload hx hb dL_isAdviceSo_247 (lv_at hl 7 rfl) ?_
                  refine ln_eq (x' := (nI r9)) hop9 ?_
                  refine lv_iconst (v := (-1)) hx hb dL_isAdviceSo_249 (by decide) ?_
                  refine ln_eq_m1 (tgt := 268) hx hb dL_isAdviceSo_250 (by decide) (by omega) ?_
                  refine lv_aload_n hx hb dL_isAdviceSo_253 rfl (lv_at hl 10 rfl) ?_
                  refine lv_iload hx hb dL_isAdviceSo_254 (lv_at hl 7 rfl) ?_
                  refine ln_eq (x' := (nI r9)) hop9 ?_
                  refine ipF_V (C := RX6) (n := 1) ⟨hx, hb, hml, hown, hts⟩ hM hS hP hD (mc := 0) (ms := 0) (ua_value l D tc zb x0 as tr qs g trc qsc gc od n tri qsi gi fc hc v1 v2 v3 v4 trs qss gs iz u ln (by assumption) (by assumption) r9 (by omega)) gL_isAdviceSo_X6_value rfl (by decide +kernel) ⟨Nat.le_of_ble_eq_true rfl, Nat.le_of_ble_eq_true rfl⟩ rfl (va_recv hM.1 hP (ci := 5) (q0 := 0) rfl rfl) rfl hl.1 rfl (Nat.le_of_ble_eq_true rfl) dL_isAdviceSo_256 ⟨Nat.le_refl _, Nat.le_refl _⟩ (fun H locs hP hD hS => ?_)
                  refine W.eq (g2 := F0 m 259 ls [.int (zI (k_val g r9))]) rfl ?_
                  refine lv_iload hx hb dL_isAdviceSo_259 (lv_at hl 2 rfl) ?_
                  refine ln_icmp_ltZ (x := (k_val g r9)) (y := (k_val g q)) (tgt := 268) hx hb dL_isAdviceSo_261 (by decide) rfl rfl (by omega) (by omega) (by omega) (by omega) (fun h13 => ?_) (fun h13 => ?_)
                  · exfalso; omega
                  · refine lv_iconst (v := (nI 1)) hx hb dL_isAdviceSo_264 (by decide) ?_
                    refine lv_goto (tgt := 269) hx hb dL_isAdviceSo_265 (by decide) ?_
                    refine lv_istore (lv' := [(7, .int (nI 1)), (11, .int (nI (k_sum g ((g 41) ||| (2 ^ q))))), (10, .int (zI (k_val g q))), (9, .int (nI 0)), (8, .int (nI q)), (6, .int (nI (k_sum g (g 41)))), (5, .int (oI (k_lo g 6))), (4, .int (oI (k_go g 6))), (3, .int (nI (k_due g))), (2, .int (nI (g 41))), (0, .ref x0), (1, .int (nI ot))]) hx hb dL_isAdviceSo_269 hl (by decide) rfl (fun ls hl => ?_)
                    refine lv_iinc (v := (nI (q + 1))) (lv' := [(8, .int (nI (q + 1))), (7, .int (nI 1)), (11, .int (nI (k_sum g ((g 41) ||| (2 ^ q))))), (10, .int (zI (k_val g q))), (9, .int (nI 0)), (6, .int (nI (k_sum g (g 41)))), (5, .int (oI (k_lo g 6))), (4, .int (oI (k_go g 6))), (3, .int (nI (k_due g))), (2, .int (nI (g 41))), (0, .ref x0), (1, .int (nI ot))]) hx hb dL_isAdviceSo_271 hl (k := 4) rfl (nI_add q 1) (by decide) rfl (fun ls hl => ?_)
                    refine lv_goto (tgt := 110) hx hb dL_isAdviceSo_274 (by decide) ?_
                    exact ih110 (q + 1) (by omega) (by omega) _ _ hP hD hS _ (lv_sub hl [0, 5, 6, 7, 8, 9, 10, 11, 1] rfl)
            · refine lv_iconst (v := (nI 1)) hx hb dL_isAdviceSo_127 (by decide) ?_
              refine lv_goto (tgt := 132) hx hb dL_isAdviceSo_128 (by decide) ?_
              refine lv_istore (lv' := [(9, .int (nI 1)), (8, .int (nI q)), (6, .int (nI (k_sum g (g 41)))), (5, .int (oI (k_lo g 6))), (4, .int (oI (k_go g 6))), (3, .int (nI (k_due g))), (2, .int (nI (g 41))), (0, .ref x0), (1, .int (nI ot)), (7, .int (nI 1))]) hx hb dL_isAdviceSo_132 hl (by decide) rfl (fun ls hl => ?_)
              refine lv_aload_n hx hb dL_isAdviceSo_134 rfl (lv_at hl 7 rfl) ?_
              refine lv_iload hx hb dL_isAdviceSo_135 (lv_at hl 1 rfl) ?_
              refine ipF_V (C := RX6) (n := 1) ⟨hx, hb, hml, hown, hts⟩ hM hS hP hD (mc := 0) (ms := 0) (ua_value l D tc zb x0 as tr qs g trc qsc gc od n tri qsi gi fc hc v1 v2 v3 v4 trs qss gs iz u ln (by assumption) (by assumption) q (by omega)) gL_isAdviceSo_X6_value rfl (by decide +kernel) ⟨Nat.le_of_ble_eq_true rfl, Nat.le_of_ble_eq_true rfl⟩ rfl (va_recv hM.1 hP (ci := 5) (q0 := 0) rfl rfl) rfl hl.1 rfl (Nat.le_of_ble_eq_true rfl) dL_isAdviceSo_137 ⟨Nat.le_refl _, Nat.le_refl _⟩ (fun H locs hP hD hS => ?_)
              refine W.eq (g2 := F0 m 140 ls [.int (zI (k_val g q))]) rfl ?_
              refine lv_istore (lv' := [(10, .int (zI (k_val g q))), (9, .int (nI 1)), (8, .int (nI q)), (6, .int (nI (k_sum g (g 41)))), (5, .int (oI (k_lo g 6))), (4, .int (oI (k_go g 6))), (3, .int (nI (k_due g))), (2, .int (nI (g 41))), (0, .ref x0), (1, .int (nI ot)), (7, .int (nI 1))]) hx hb dL_isAdviceSo_140 hl (by decide) rfl (fun ls hl => ?_)
              refine lv_aload_n hx hb dL_isAdviceSo_142 rfl (lv_at hl 8 rfl) ?_
              refine lv_iload hx hb dL_isAdviceSo_143 (lv_at hl 1 rfl) ?_
              refine lv_if_eq (tgt := 159) hx hb dL_isAdviceSo_145 (by decide) (fun h9 => False.elim (by revert h9; decide)) (fun _ => ?_)
              refine lv_iload_n hx hb dL_isAdviceSo_148 rfl (lv_at hl 7 rfl) ?_
              refine lv_iconst (v := (nI 1)) hx hb dL_isAdviceSo_149 (by decide) ?_
              refine lv_iload hx hb dL_isAdviceSo_150 (lv_at hl 2 rfl) ?_
              refine ln_ishl1 hx hb dL_isAdviceSo_152 (by omega) ?_
              refine lv_iconst (v := (-1)) hx hb dL_isAdviceSo_153 (by decide) ?_
              refine lv_ixor hx hb dL_isAdviceSo_154 ?_
              refine ln_iandn hx hb dL_isAdviceSo_155 (by omega) (k_pow64 (by omega)) ?_
              refine lv_goto (tgt := 165) hx hb dL_isAdviceSo_156 (by decide) ?_
              refine ipF_V (C := RX6) (n := 1) ⟨hx, hb, hml, hown, hts⟩ hM hS hP hD (mc := 0) (ms := 0) (ua_ifKept l D tc zb x0 as tr qs g trc qsc gc od n tri qsi gi fc hc v1 v2 v3 v4 trs qss gs iz u ln (by assumption) (by assumption) ((g 41) &&& (63 ^^^ (2 ^ q))) (by omega)) gL_isAdviceSo_X6_ifKept rfl (by decide +kernel) ⟨Nat.le_of_ble_eq_true rfl, Nat.le_of_ble_eq_true rfl⟩ rfl (va_recv hM.1 hP (ci := 5) (q0 := 0) rfl rfl) rfl hl.1 rfl (Nat.le_of_ble_eq_true rfl) dL_isAdviceSo_165 ⟨Nat.le_refl _, Nat.le_refl _⟩ (fun H locs hP hD hS => ?_)
              refine W.eq (g2 := F0 m 168 ls [.int (nI (k_sum g ((g 41) &&& (63 ^^^ (2 ^ q)))))]) rfl ?_
              refine lv_istore (lv' := [(11, .int (nI (k_sum g ((g 41) &&& (63 ^^^ (2 ^ q)))))), (10, .int (zI (k_val g q))), (9, .int (nI 1)), (8, .int (nI q)), (6, .int (nI (k_sum g (g 41)))), (5, .int (oI (k_lo g 6))), (4, .int (oI (k_go g 6))), (3, .int (nI (k_due g))), (2, .int (nI (g 41))), (0, .ref x0), (1, .int (nI ot)), (7, .int (nI 1))]) hx hb dL_isAdviceSo_168 hl (by decide) rfl (fun ls hl => ?_)
              refine lv_iload hx hb dL_isAdviceSo_170 (lv_at hl 11 rfl) ?_
              refine lv_if_eq (tgt := 204) hx hb dL_isAdviceSo_172 (by decide) (fun h9 => False.elim (by revert h9; decide)) (fun _ => ?_)
              refine lv_iload hx hb dL_isAdviceSo_175 (lv_at hl 1 rfl) ?_
              refine lv_iload hx hb dL_isAdviceSo_177 (lv_at hl 2 rfl) ?_
              refine lv_if_eq (tgt := 190) hx hb dL_isAdviceSo_179 (by decide) (fun h9 => False.elim (by revert h9; decide)) (fun _ => ?_)
              refine lv_iload hx hb dL_isAdviceSo_182 (lv_at hl 0 rfl) ?_
              refine lv_iload hx hb dL_isAdviceSo_184 (lv_at hl 4 rfl) ?_
              refine ln_isubZ hx hb dL_isAdviceSo_186 ?_
              refine lv_goto (tgt := 195) hx hb dL_isAdviceSo_187 (by decide) ?_
              refine lv_iload_n hx hb dL_isAdviceSo_195 rfl (lv_at hl 7 rfl) ?_
              refine ln_isubZN hx hb dL_isAdviceSo_196 ?_
              refine ln_eq (x' := zI (k_val g q)) (congrArg zI (by first | exact k_val_in hk (by omega) (k_in_t (by assumption)) | exact k_val_out hk (by omega) (k_in_f (by assumption)))) ?_
              refine lv_icmp_ne (tgt := 204) hx hb dL_isAdviceSo_197 (by decide) (fun h14 => ?_) (fun h14 => ?_)
              · exact absurd rfl h14
              · refine lv_iconst (v := (nI 1)) hx hb dL_isAdviceSo_200 (by decide) ?_
                refine lv_goto (tgt := 205) hx hb dL_isAdviceSo_201 (by decide) ?_
                refine lv_istore (lv' := [(7, .int (nI 1)), (11, .int (nI (k_sum g ((g 41) &&& (63 ^^^ (2 ^ q)))))), (10, .int (zI (k_val g q))), (9, .int (nI 1)), (8, .int (nI q)), (6, .int (nI (k_sum g (g 41)))), (5, .int (oI (k_lo g 6))), (4, .int (oI (k_go g 6))), (3, .int (nI (k_due g))), (2, .int (nI (g 41))), (0, .ref x0), (1, .int (nI ot))]) hx hb dL_isAdviceSo_205 hl (by decide) rfl (fun ls hl => ?_)
                refine lv_iload hx hb dL_isAdviceSo_207 (lv_at hl 0 rfl) ?_
                refine lv_if_eq (tgt := 268) hx hb dL_isAdviceSo_209 (by decide) (fun h9 => False.elim (by revert h9; decide)) (fun _ => ?_)
                refine lv_iload hx hb dL_isAdviceSo_212 (lv_at hl 3 rfl) ?_
                refine lv_if_eq (tgt := 242) hx hb dL_isAdviceSo_214 (by decide) (fun h9 => False.elim (by revert h9; decide)) (fun _ => ?_)
                refine lv_iload hx hb dL_isAdviceSo_217 (lv_at hl 2 rfl) ?_
                refine ln_if_geZ (x := (k_val g q)) (tgt := 264) hx hb dL_isAdviceSo_219 (by decide) (by omega) (by omega) (fun h15 => ?_) (fun h15 => ?_)
                · refine lv_iconst (v := (nI 1)) hx hb dL_isAdviceSo_264 (by decide) ?_
                  refine lv_goto (tgt := 269) hx hb dL_isAdviceSo_265 (by decide) ?_
                  refine lv_istore (lv' := [(7, .int (nI 1)), (11, .int (nI (k_sum g ((g 41) &&& (63 ^^^ (2 ^ q)))))), (10, .int (zI (k_val g q))), (9, .int (nI 1)), (8, .int (nI q)), (6, .int (nI (k_sum g (g 41)))), (5, .int (oI (k_lo g 6))), (4, .int (oI (k_go g 6))), (3, .int (nI (k_due g))), (2, .int (nI (g 41))), (0, .ref x0), (1, .int (nI ot))]) hx hb dL_isAdviceSo_269 hl (by decide) rfl (fun ls hl => ?_)
                  refine lv_iinc (v := (nI (q + 1))) (lv' := [(8, .int (nI (q + 1))), (7, .int (nI 1)), (11, .int (nI (k_sum g ((g 41) &&& (63 ^^^ (2 ^ q)))))), (10, .int (zI (k_val g q))), (9, .int (nI 1)), (6, .int (nI (k_sum g (g 41)))), (5, .int (oI (k_lo g 6))), (4, .int (oI (k_go g 6))), (3, .int (nI (k_due g))), (2, .int (nI (g 41))), (0, .ref x0), (1, .int (nI ot))]) hx hb dL_isAdviceSo_271 hl (k := 4) rfl (nI_add q 1) (by decide) rfl (fun ls hl => ?_)
                  refine lv_goto (tgt := 110) hx hb dL_isAdviceSo_274 (by decide) ?_
                  exact ih110 (q + 1) (by omega) (by omega) _ _ hP hD hS _ (lv_sub hl [0, 5, 6, 7, 8, 9, 10, 11, 1] rfl)
                · obtain ⟨r9, hr9, hr6, hrv⟩ := k_lo_ok (g := g) (q := q) (by omega) (k_in_t (by assumption)) (by omega)
                  have hrb := k_val_bd hk r9
                  have hop9 : oI (k_lo g 6) = nI r9 := congrArg oI hr9
                  refine lv_iload hx hb dL_isAdviceSo_222 (lv_at hl 6 rfl) ?_
                  refine ln_eq (x' := (nI r9)) hop9 ?_
                  refine lv_iconst (v := (-1)) hx hb dL_isAdviceSo_224 (by decide) ?_
                  refine ln_eq_m1 (tgt := 268) hx hb dL_isAdviceSo_225 (by decide) (by omega) ?_
                  refine lv_aload_n hx hb dL_isAdviceSo_228 rfl (lv_at hl 10 rfl) ?_
                  refine lv_iload hx hb dL_isAdviceSo_229 (lv_at hl 6 rfl) ?_
                  refine ln_eq (x' := (nI r9)) hop9 ?_
                  refine ipF_V (C := RX6) (n := 1) ⟨hx, hb, hml, hown, hts⟩ hM hS hP hD (mc := 0) (ms := 0) (ua_value l D tc zb x0 as tr qs g trc qsc gc od n tri qsi gi fc hc v1 v2 v3 v4 trs qss gs iz u ln (by assumption) (by assumption) r9 (by omega)) gL_isAdviceSo_X6_value rfl (by decide +kernel) ⟨Nat.le_of_ble_eq_true rfl, Nat.le_of_ble_eq_true rfl⟩ rfl (va_recv hM.1 hP (ci := 5) (q0 := 0) rfl rfl) rfl hl.1 rfl (Nat.le_of_ble_eq_true rfl) dL_isAdviceSo_231 ⟨Nat.le_refl _, Nat.le_refl _⟩ (fun H locs hP hD hS => ?_)
                  refine W.eq (g2 := F0 m 234 ls [.int (zI (k_val g r9))]) rfl ?_
                  refine lv_iload hx hb dL_isAdviceSo_234 (lv_at hl 2 rfl) ?_
                  refine ln_icmp_gtZ (x := (k_val g r9)) (y := (k_val g q)) (tgt := 268) hx hb dL_isAdviceSo_236 (by decide) rfl rfl (by omega) (by omega) (by omega) (by omega) (fun h16 => ?_) (fun h16 => ?_)
                  · exfalso; omega
                  · refine lv_goto (tgt := 264) hx hb dL_isAdviceSo_239 (by decide) ?_
                    refine lv_iconst (v := (nI 1)) hx hb dL_isAdviceSo_264 (by decide) ?_
                    refine lv_goto (tgt := 269) hx hb dL_isAdviceSo_265 (by decide) ?_
                    refine lv_istore (lv' := [(7, .int (nI 1)), (11, .int (nI (k_sum g ((g 41) &&& (63 ^^^ (2 ^ q)))))), (10, .int (zI (k_val g q))), (9, .int (nI 1)), (8, .int (nI q)), (6, .int (nI (k_sum g (g 41)))), (5, .int (oI (k_lo g 6))), (4, .int (oI (k_go g 6))), (3, .int (nI (k_due g))), (2, .int (nI (g 41))), (0, .ref x0), (1, .int (nI ot))]) hx hb dL_isAdviceSo_269 hl (by decide) rfl (fun ls hl => ?_)
                    refine lv_iinc (v := (nI (q + 1))) (lv' := [(8, .int (nI (q + 1))), (7, .int (nI 1)), (11, .int (nI (k_sum g ((g 41) &&& (63 ^^^ (2 ^ q)))))), (10, .int (zI (k_val g q))), (9, .int (nI 1)), (6, .int (nI (k_sum g (g 41)))), (5, .int (oI (k_lo g 6))), (4, .int (oI (k_go g 6))), (3, .int (nI (k_due g))), (2, .int (nI (g 41))), (0, .ref x0), (1, .int (nI ot))]) hx hb dL_isAdviceSo_271 hl (k := 4) rfl (nI_add q 1) (by decide) rfl (fun ls hl => ?_)
                    refine lv_goto (tgt := 110) hx hb dL_isAdviceSo_274 (by decide) ?_
                    exact ih110 (q + 1) (by omega) (by omega) _ _ hP hD hS _ (lv_sub hl [0, 5, 6, 7, 8, 9, 10, 11, 1] rfl)
      exact lp110 _ 0 (Nat.lt_succ_self _) (by exact Nat.zero_le _) _ _ hP hD hS _ (lv_sub hl [0, 1, 2, 3, 4, 5, 6, 7, 8] rfl)
    cases hlo : k_lo g 6 with
    | none =>
      have hlo9 : oI (k_lo g 6) = (-1) := congrArg oI hlo
      refine lv_iload hx hb dL_isAdviceSo_75 (lv_at hl 1 rfl) ?_
      refine ln_eq (x' := (-1)) hlo9 ?_
      refine lv_iconst (v := (-1)) hx hb dL_isAdviceSo_77 (by decide) ?_
      refine lv_icmp_eq (tgt := 100) hx hb dL_isAdviceSo_78 (by decide) (fun _ => ?_) (fun h9 => False.elim (by revert h9; decide))
      refine lv_iconst (v := (nI 1)) hx hb dL_isAdviceSo_100 (by decide) ?_
      refine lv_goto (tgt := 105) hx hb dL_isAdviceSo_101 (by decide) ?_
      refine lv_istore (lv' := [(7, .int (nI 1)), (6, .int (nI (k_sum g (g 41)))), (5, .int (oI (k_lo g 6))), (4, .int (oI (k_go g 6))), (3, .int (nI (k_due g))), (2, .int (nI (g 41))), (0, .ref x0), (1, .int (nI ot))]) hx hb dL_isAdviceSo_105 hl (by decide) rfl (fun ls hl => ?_)
      exact kj2 _ _ hP hD hS _ (lv_sub hl [1, 2, 3, 4, 5, 6, 7, 0] rfl)
    | some r =>
      have hlo9 : oI (k_lo g 6) = (nI r) := congrArg oI hlo
      obtain ⟨hr6, hr1, hr2, hr3⟩ := k_lo_some hlo
      have hr7 := k_in_o hr1
      have hrb := k_val_bd hk r
      refine lv_iload hx hb dL_isAdviceSo_75 (lv_at hl 1 rfl) ?_
      refine ln_eq (x' := (nI r)) hlo9 ?_
      refine lv_iconst (v := (-1)) hx hb dL_isAdviceSo_77 (by decide) ?_
      refine ln_eq_m1 (tgt := 100) hx hb dL_isAdviceSo_78 (by decide) (by omega) ?_
      refine lv_iload_n hx hb dL_isAdviceSo_81 rfl (lv_at hl 4 rfl) ?_
      refine lv_iload hx hb dL_isAdviceSo_82 (lv_at hl 1 rfl) ?_
      refine ln_eq (x' := (nI r)) hlo9 ?_
      refine ln_ishr hx hb dL_isAdviceSo_84 (by omega) (by omega) ?_
      refine lv_iconst (v := (nI 1)) hx hb dL_isAdviceSo_85 (by decide) ?_
      refine ln_iand1 hx hb dL_isAdviceSo_86 (Nat.lt_of_le_of_lt (Nat.div_le_self _ _) (by omega)) ?_
      refine lv_iconst (v := (nI 1)) hx hb dL_isAdviceSo_87 (by decide) ?_
      refine ln_icmp_ne (tgt := 104) hx hb dL_isAdviceSo_88 (by decide) (by omega) (by decide) (fun h17 => ?_) (fun h17 => ?_)
      · exfalso; omega
      · refine lv_aload_n hx hb dL_isAdviceSo_91 rfl (lv_at hl 5 rfl) ?_
        refine lv_iload hx hb dL_isAdviceSo_92 (lv_at hl 1 rfl) ?_
        refine ln_eq (x' := (nI r)) hlo9 ?_
        refine ipF_V (C := RX6) (n := 1) ⟨hx, hb, hml, hown, hts⟩ hM hS hP hD (mc := 0) (ms := 0) (ua_value l D tc zb x0 as tr qs g trc qsc gc od n tri qsi gi fc hc v1 v2 v3 v4 trs qss gs iz u ln (by assumption) (by assumption) r (by omega)) gL_isAdviceSo_X6_value rfl (by decide +kernel) ⟨Nat.le_of_ble_eq_true rfl, Nat.le_of_ble_eq_true rfl⟩ rfl (va_recv hM.1 hP (ci := 5) (q0 := 0) rfl rfl) rfl hl.1 rfl (Nat.le_of_ble_eq_true rfl) dL_isAdviceSo_94 ⟨Nat.le_refl _, Nat.le_refl _⟩ (fun H locs hP hD hS => ?_)
        refine W.eq (g2 := F0 m 97 ls [.int (zI (k_val g r))]) rfl ?_
        refine ln_if_geZ (x := (k_val g r)) (tgt := 104) hx hb dL_isAdviceSo_97 (by decide) (by omega) (by omega) (fun h18 => ?_) (fun h18 => ?_)
        · exfalso; omega
        · refine lv_iconst (v := (nI 1)) hx hb dL_isAdviceSo_100 (by decide) ?_
          refine lv_goto (tgt := 105) hx hb dL_isAdviceSo_101 (by decide) ?_
          refine lv_istore (lv' := [(7, .int (nI 1)), (6, .int (nI (k_sum g (g 41)))), (5, .int (oI (k_lo g 6))), (4, .int (oI (k_go g 6))), (3, .int (nI (k_due g))), (2, .int (nI (g 41))), (0, .ref x0), (1, .int (nI ot))]) hx hb dL_isAdviceSo_105 hl (by decide) rfl (fun ls hl => ?_)
          exact kj2 _ _ hP hD hS _ (lv_sub hl [1, 2, 3, 4, 5, 6, 7, 0] rfl)
  cases hgo : k_go g 6 with
  | none =>
    have hgo9 : oI (k_go g 6) = (-1) := congrArg oI hgo
    refine lv_iload hx hb dL_isAdviceSo_39 (lv_at hl 2 rfl) ?_
    refine ln_eq (x' := (-1)) hgo9 ?_
    refine lv_iconst (v := (-1)) hx hb dL_isAdviceSo_41 (by decide) ?_
    refine lv_icmp_eq (tgt := 63) hx hb dL_isAdviceSo_42 (by decide) (fun _ => ?_) (fun h9 => False.elim (by revert h9; decide))
    refine lv_iconst (v := (nI 1)) hx hb dL_isAdviceSo_63 (by decide) ?_
    refine lv_goto (tgt := 68) hx hb dL_isAdviceSo_64 (by decide) ?_
    refine lv_istore (lv' := [(7, .int (nI 1)), (6, .int (nI (k_sum g (g 41)))), (5, .int (oI (k_lo g 6))), (4, .int (oI (k_go g 6))), (3, .int (nI (k_due g))), (2, .int (nI (g 41))), (0, .ref x0), (1, .int (nI ot))]) hx hb dL_isAdviceSo_68 hl (by decide) rfl (fun ls hl => ?_)
    exact kj1 _ _ hP hD hS _ (lv_sub hl [1, 2, 3, 4, 5, 6, 7, 0] rfl)
  | some r =>
    have hgo9 : oI (k_go g 6) = (nI r) := congrArg oI hgo
    obtain ⟨hr6, hr1, hr2, hr3⟩ := k_go_some hgo
    have hr7 := k_in_n hr1
    have hrb := k_val_bd hk r
    refine lv_iload hx hb dL_isAdviceSo_39 (lv_at hl 2 rfl) ?_
    refine ln_eq (x' := (nI r)) hgo9 ?_
    refine lv_iconst (v := (-1)) hx hb dL_isAdviceSo_41 (by decide) ?_
    refine ln_eq_m1 (tgt := 63) hx hb dL_isAdviceSo_42 (by decide) (by omega) ?_
    refine lv_iload_n hx hb dL_isAdviceSo_45 rfl (lv_at hl 4 rfl) ?_
    refine lv_iload hx hb dL_isAdviceSo_46 (lv_at hl 2 rfl) ?_
    refine ln_eq (x' := (nI r)) hgo9 ?_
    refine ln_ishr hx hb dL_isAdviceSo_48 (by omega) (by omega) ?_
    refine lv_iconst (v := (nI 1)) hx hb dL_isAdviceSo_49 (by decide) ?_
    refine ln_iand1 hx hb dL_isAdviceSo_50 (Nat.lt_of_le_of_lt (Nat.div_le_self _ _) (by omega)) ?_
    refine ln_if_ne (tgt := 67) hx hb dL_isAdviceSo_51 (by decide) (by omega) (fun h19 => ?_) (fun h19 => ?_)
    · exfalso; omega
    · refine lv_aload_n hx hb dL_isAdviceSo_54 rfl (lv_at hl 5 rfl) ?_
      refine lv_iload hx hb dL_isAdviceSo_55 (lv_at hl 2 rfl) ?_
      refine ln_eq (x' := (nI r)) hgo9 ?_
      refine ipF_V (C := RX6) (n := 1) ⟨hx, hb, hml, hown, hts⟩ hM hS hP hD (mc := 0) (ms := 0) (ua_value l D tc zb x0 as tr qs g trc qsc gc od n tri qsi gi fc hc v1 v2 v3 v4 trs qss gs iz u ln (by assumption) (by assumption) r (by omega)) gL_isAdviceSo_X6_value rfl (by decide +kernel) ⟨Nat.le_of_ble_eq_true rfl, Nat.le_of_ble_eq_true rfl⟩ rfl (va_recv hM.1 hP (ci := 5) (q0 := 0) rfl rfl) rfl hl.1 rfl (Nat.le_of_ble_eq_true rfl) dL_isAdviceSo_57 ⟨Nat.le_refl _, Nat.le_refl _⟩ (fun H locs hP hD hS => ?_)
      refine W.eq (g2 := F0 m 60 ls [.int (zI (k_val g r))]) rfl ?_
      refine ln_if_leZ (x := (k_val g r)) (tgt := 67) hx hb dL_isAdviceSo_60 (by decide) (by omega) (by omega) (fun h20 => ?_) (fun h20 => ?_)
      · exfalso; omega
      · refine lv_iconst (v := (nI 1)) hx hb dL_isAdviceSo_63 (by decide) ?_
        refine lv_goto (tgt := 68) hx hb dL_isAdviceSo_64 (by decide) ?_
        refine lv_istore (lv' := [(7, .int (nI 1)), (6, .int (nI (k_sum g (g 41)))), (5, .int (oI (k_lo g 6))), (4, .int (oI (k_go g 6))), (3, .int (nI (k_due g))), (2, .int (nI (g 41))), (0, .ref x0), (1, .int (nI ot))]) hx hb dL_isAdviceSo_68 hl (by decide) rfl (fun ls hl => ?_)
        exact kj1 _ _ hP hD hS _ (lv_sub hl [1, 2, 3, 4, 5, 6, 7, 0] rfl)
