set_option maxHeartbeats 4000000 in
set_option maxRecDepth 100000 in
theorem l_enough (l : Launch) (D : va_G) (tc : Nat → ClassId) (zb : Nat) (x0 : Nat) (as : Nat → Nat) (tr : Nat → Int32) (qs : Nat → Int32) (g : Nat → Nat) (trc : Nat → Int32) (qsc : Nat → Int32) (gc : Nat → Nat) (od : Nat) (n : Nat) (tri : Nat → Nat → Int32) (qsi : Nat → Nat → Int32) (gi : Nat → Nat → Nat) (fc : Nat → Int32) (hc : Nat → Int32) (v1 : Int32) (v2 : Int32) (v3 : Int32) (v4 : Int32) (trs : Nat → Nat → Int32) (qss : Nat → Nat → Int32) (gs : Nat → Nat → Nat) (iz : Nat → Bool) (u : Nat → Nat) (ln : Nat) (set : Nat) (hk : k_ok g) (hR : k_R tr qs g) (hst9 : set < 64) : RO l yL_isEnough wsL_isEnough 3 66 D tc zb (CW tc x0 as tr qs g trc qsc gc od n tri qsi gi fc hc v1 v2 v3 v4 trs qss gs iz u ln) [.ref x0, .int (nI set)] (.int (bI (k_en g set))) := by
  refine RO.of (cc := cL_isEnough) (maxL := 8) (ret := (some .boolean)) (by decide) rfl (Nat.le_of_ble_eq_true rfl) ?_
  intro p e s m args below meth c hx hb hr hml hlk hts hown hM hS hP ls hl
  have hl : lv_has ls 8 [(0, .ref x0), (1, .int (nI set))] := hl
  obtain ⟨ok0, ok1, ok2, ok3, ok4, ok5, ok6⟩ := id hk
  refine lv_iconst (v := (nI 1)) hx hb dL_isEnough_0 (by decide) ?_
  refine lv_istore_n (lv' := [(2, .int (nI 1)), (0, .ref x0), (1, .int (nI set))]) hx hb dL_isEnough_1 rfl hl (by decide) rfl (fun ls hl => ?_)
  refine lv_iconst (v := (nI 0)) hx hb dL_isEnough_2 (by decide) ?_
  refine lv_istore_n (lv' := [(3, .int (nI 0)), (2, .int (nI 1)), (0, .ref x0), (1, .int (nI set))]) hx hb dL_isEnough_3 rfl hl (by decide) rfl (fun ls hl => ?_)
  have lp4 : ∀ (n9 : Nat) (is9 : Bool) (i : Nat), (g 46 - i) < n9 → (i ≤ g 46) → (is9 = k_el g set i) → ∀ ls : Array Slot, lv_has ls 8 [(3, .int (nI i)), (2, .int (bI (is9))), (0, .ref x0), (1, .int (nI set))] → W p l e ({ frames := 3, cells := 0, slots := 0, locals := 66 } : Room) s m args below meth c s.heap [] 0 0 (MQ below (roQ (.int (bI (k_en g set)))) args s 0 0 (fun _ => False)) (F0 m 4 ls []) := by
    intro n9
    induction n9 with
    | zero => intro is9 i hmu; exact absurd hmu (Nat.not_lt_zero _)
    | succ n9 ih4 =>
      intro is9 i hmu hi his ls hl
      refine lv_iload_n hx hb dL_isEnough_4 rfl (lv_at hl 0 rfl) ?_
      refine lv_aload_n hx hb dL_isEnough_5 rfl (lv_at hl 2 rfl) ?_
      refine lv_bipush (v := (nI 6)) hx hb dL_isEnough_6 (by decide) ?_
      refine ro_V (C := RX6) (n := 1) ⟨hx, hb, hml, hown, hts⟩ hM hS hP (c6_about_ok l D tc zb x0 (fun k9 => match k9 with | 0 => .ref (as 0) | 2 => .ref (as 5) | 3 => .ref (as 8) | 4 => .ref (as 52) | 5 => .ref (as 55) | 6 => .ref (as 59) | _ => .null) (as 2) (as 3) (as 4) tr qs g 6 hk hR (by omega)) gL_isEnough_X6_about rfl (by decide +kernel) ⟨Nat.le_of_ble_eq_true rfl, Nat.le_of_ble_eq_true rfl⟩ [0, 3, 4, 5] rfl (va_recv hM.1 hP (ci := 5) (q0 := 0) rfl rfl) rfl hl.1 rfl (Nat.le_of_ble_eq_true rfl) dL_isEnough_8 ⟨Nat.le_refl _, Nat.le_refl _⟩ ?_
      refine ln_eq (x' := (nI (g 46))) (rfl) ?_
      refine ln_icmp_ge (tgt := 148) hx hb dL_isEnough_11 (by decide) (by omega) (by omega) (fun h1 => ?_) (fun h1 => ?_)
      · refine lv_iload_n hx hb dL_isEnough_148 rfl (lv_at hl 1 rfl) ?_
        exact ro_zret hx hb hr hlk dL_isEnough_149 (congrArg bI (by (have e9 : i = g 46 := by omega); rw [his, e9]; exact k_el_en g set))
      · obtain ⟨x, hxe⟩ : ∃ x, x = g (47 + g 46 - 1 - i) := ⟨_, rfl⟩
        have hx7 : 47 + (g 46 - 1 - i) = 47 + g 46 - 1 - i := (by omega)
        have hx9 : x < 1331 := Nat.lt_of_le_of_lt (Nat.le_of_eq (hxe.trans (congrArg g hx7.symm))) (ok5 (g 46 - 1 - i) (by omega))
        refine lv_aload_n hx hb dL_isEnough_14 rfl (lv_at hl 2 rfl) ?_
        refine lv_iload_n hx hb dL_isEnough_15 rfl (lv_at hl 0 rfl) ?_
        refine ro_V (C := RX6) (n := 1) ⟨hx, hb, hml, hown, hts⟩ hM hS hP (c6_remembered_ok l D tc zb x0 (fun k9 => match k9 with | 0 => .ref (as 0) | 2 => .ref (as 5) | 3 => .ref (as 8) | 4 => .ref (as 52) | 5 => .ref (as 55) | 6 => .ref (as 59) | _ => .null) (as 2) (as 3) (as 4) tr qs g i hk hR (by omega)) gL_isEnough_X6_remembered rfl (by decide +kernel) ⟨Nat.le_of_ble_eq_true rfl, Nat.le_of_ble_eq_true rfl⟩ [0, 3, 4, 5] rfl (va_recv hM.1 hP (ci := 5) (q0 := 0) rfl rfl) rfl hl.1 rfl (Nat.le_of_ble_eq_true rfl) dL_isEnough_16 ⟨Nat.le_refl _, Nat.le_refl _⟩ ?_
        refine ln_eq (x' := (nI x)) (by rw [hxe]; exact congrArg oI (show k_rmb g i = some (g (47 + g 46 - 1 - i)) from if_pos (by omega))) ?_
        refine lv_istore (lv' := [(4, .int (nI x)), (3, .int (nI i)), (2, .int (bI (is9))), (0, .ref x0), (1, .int (nI set))]) hx hb dL_isEnough_19 hl (by decide) rfl (fun ls hl => ?_)
        have kj2 : ∀ ls : Array Slot, lv_has ls 8 [(4, .int (nI x)), (3, .int (nI i)), (2, .int (bI (is9))), (0, .ref x0), (1, .int (nI set)), (5, .int (nI (k_bnd x)))] → W p l e ({ frames := 3, cells := 0, slots := 0, locals := 66 } : Room) s m args below meth c s.heap [] 0 0 (MQ below (roQ (.int (bI (k_en g set)))) args s 0 0 (fun _ => False)) (F0 m 73 ls []) := by
          intro ls hl
          refine lv_iconst (v := (nI 0)) hx hb dL_isEnough_73 (by decide) ?_
          refine lv_istore (lv' := [(6, .int (nI 0)), (4, .int (nI x)), (3, .int (nI i)), (2, .int (bI (is9))), (0, .ref x0), (1, .int (nI set)), (5, .int (nI (k_bnd x)))]) hx hb dL_isEnough_74 hl (by decide) rfl (fun ls hl => ?_)
          refine lv_iconst (v := (nI 0)) hx hb dL_isEnough_76 (by decide) ?_
          refine lv_istore (lv' := [(7, .int (nI 0)), (6, .int (nI 0)), (4, .int (nI x)), (3, .int (nI i)), (2, .int (bI (is9))), (0, .ref x0), (1, .int (nI set)), (5, .int (nI (k_bnd x)))]) hx hb dL_isEnough_77 hl (by decide) rfl (fun ls hl => ?_)
          have lp79 : ∀ (n9 : Nat) (hs9 : Bool) (q : Nat), (6 - q) < n9 → (q ≤ 6) → (hs9 = k_hs set x q) → ∀ ls : Array Slot, lv_has ls 8 [(7, .int (nI q)), (6, .int (bI (hs9))), (4, .int (nI x)), (3, .int (nI i)), (2, .int (bI (is9))), (0, .ref x0), (1, .int (nI set)), (5, .int (nI (k_bnd x)))] → W p l e ({ frames := 3, cells := 0, slots := 0, locals := 66 } : Room) s m args below meth c s.heap [] 0 0 (MQ below (roQ (.int (bI (k_en g set)))) args s 0 0 (fun _ => False)) (F0 m 79 ls []) := by
            intro n9
            induction n9 with
            | zero => intro hs9 q hmu; exact absurd hmu (Nat.not_lt_zero _)
            | succ n9 ih79 =>
              intro hs9 q hmu hq hhs ls hl
              have hrc := k_rch_le x q
              have hbn := k_bnd_le x
              refine lv_iload hx hb dL_isEnough_79 (lv_at hl 0 rfl) ?_
              refine lv_bipush (v := (nI 6)) hx hb dL_isEnough_81 (by decide) ?_
              refine ln_icmp_ge (tgt := 127) hx hb dL_isEnough_83 (by decide) (by omega) (by decide) (fun h3 => ?_) (fun h3 => ?_)
              · refine lv_iload_n hx hb dL_isEnough_127 rfl (lv_at hl 4 rfl) ?_
                refine ln_if_eqB (tgt := 140) hx hb dL_isEnough_128 (by decide) (fun h4 => ?_) (fun h4 => ?_)
                · refine lv_iconst (v := (nI 0)) hx hb dL_isEnough_140 (by decide) ?_
                  refine lv_istore_n (lv' := [(2, .int (nI 0)), (7, .int (nI q)), (6, .int (bI (hs9))), (4, .int (nI x)), (3, .int (nI i)), (0, .ref x0), (1, .int (nI set)), (5, .int (nI (k_bnd x)))]) hx hb dL_isEnough_141 rfl hl (by decide) rfl (fun ls hl => ?_)
                  refine lv_iinc (v := (nI (i + 1))) (lv' := [(3, .int (nI (i + 1))), (2, .int (nI 0)), (7, .int (nI q)), (6, .int (bI (hs9))), (4, .int (nI x)), (0, .ref x0), (1, .int (nI set)), (5, .int (nI (k_bnd x)))]) hx hb dL_isEnough_142 hl (k := 4) rfl (nI_add i 1) (by decide) rfl (fun ls hl => ?_)
                  refine lv_goto (tgt := 4) hx hb dL_isEnough_145 (by decide) ?_
                  exact ih4 false (i + 1) (by omega) (by omega) (by (have e9 : q = 6 := by omega); rw [e9] at hhs; rw [k_el, ← his, ← hxe, ← hhs]; first | (rw [show is9 = false from by assumption]; rfl) | (rw [show is9 = true from by assumption, show hs9 = false from by assumption]; rfl) | (rw [show is9 = true from by assumption, show hs9 = true from by assumption]; rfl)) _ (lv_sub hl [0, 1, 5, 6] rfl)
                · refine lv_iload hx hb dL_isEnough_131 (lv_at hl 1 rfl) ?_
                  refine ln_if_eqB (tgt := 140) hx hb dL_isEnough_133 (by decide) (fun h5 => ?_) (fun h5 => ?_)
                  · refine lv_iconst (v := (nI 0)) hx hb dL_isEnough_140 (by decide) ?_
                    refine lv_istore_n (lv' := [(2, .int (nI 0)), (7, .int (nI q)), (6, .int (bI (hs9))), (4, .int (nI x)), (3, .int (nI i)), (0, .ref x0), (1, .int (nI set)), (5, .int (nI (k_bnd x)))]) hx hb dL_isEnough_141 rfl hl (by decide) rfl (fun ls hl => ?_)
                    refine lv_iinc (v := (nI (i + 1))) (lv' := [(3, .int (nI (i + 1))), (2, .int (nI 0)), (7, .int (nI q)), (6, .int (bI (hs9))), (4, .int (nI x)), (0, .ref x0), (1, .int (nI set)), (5, .int (nI (k_bnd x)))]) hx hb dL_isEnough_142 hl (k := 4) rfl (nI_add i 1) (by decide) rfl (fun ls hl => ?_)
                    refine lv_goto (tgt := 4) hx hb dL_isEnough_145 (by decide) ?_
                    exact ih4 false (i + 1) (by omega) (by omega) (by (have e9 : q = 6 := by omega); rw [e9] at hhs; rw [k_el, ← his, ← hxe, ← hhs]; first | (rw [show is9 = false from by assumption]; rfl) | (rw [show is9 = true from by assumption, show hs9 = false from by assumption]; rfl) | (rw [show is9 = true from by assumption, show hs9 = true from by assumption]; rfl)) _ (lv_sub hl [0, 1, 5, 6] rfl)
                  · refine lv_iconst (v := (nI 1)) hx hb dL_isEnough_136 (by decide) ?_
                    refine lv_goto (tgt := 141) hx hb dL_isEnough_137 (by decide) ?_
                    refine lv_istore_n (lv' := [(2, .int (nI 1)), (7, .int (nI q)), (6, .int (bI (hs9))), (4, .int (nI x)), (3, .int (nI i)), (0, .ref x0), (1, .int (nI set)), (5, .int (nI (k_bnd x)))]) hx hb dL_isEnough_141 rfl hl (by decide) rfl (fun ls hl => ?_)
                    refine lv_iinc (v := (nI (i + 1))) (lv' := [(3, .int (nI (i + 1))), (2, .int (nI 1)), (7, .int (nI q)), (6, .int (bI (hs9))), (4, .int (nI x)), (0, .ref x0), (1, .int (nI set)), (5, .int (nI (k_bnd x)))]) hx hb dL_isEnough_142 hl (k := 4) rfl (nI_add i 1) (by decide) rfl (fun ls hl => ?_)
                    refine lv_goto (tgt := 4) hx hb dL_isEnough_145 (by decide) ?_
                    exact ih4 true (i + 1) (by omega) (by omega) (by (have e9 : q = 6 := by omega); rw [e9] at hhs; rw [k_el, ← his, ← hxe, ← hhs]; first | (rw [show is9 = false from by assumption]; rfl) | (rw [show is9 = true from by assumption, show hs9 = false from by assumption]; rfl) | (rw [show is9 = true from by assumption, show hs9 = true from by assumption]; rfl)) _ (lv_sub hl [0, 1, 5, 6] rfl)
              · refine lv_iload hx hb dL_isEnough_86 (lv_at hl 1 rfl) ?_
                refine ln_if_neB (tgt := 114) hx hb dL_isEnough_88 (by decide) (fun h6 => ?_) (fun h6 => ?_)
                · refine lv_iconst (v := (nI 1)) hx hb dL_isEnough_114 (by decide) ?_
                  refine lv_goto (tgt := 119) hx hb dL_isEnough_115 (by decide) ?_
                  refine lv_istore (lv' := [(6, .int (nI 1)), (7, .int (nI q)), (4, .int (nI x)), (3, .int (nI i)), (2, .int (bI (is9))), (0, .ref x0), (1, .int (nI set)), (5, .int (nI (k_bnd x)))]) hx hb dL_isEnough_119 hl (by decide) rfl (fun ls hl => ?_)
                  refine lv_iinc (v := (nI (q + 1))) (lv' := [(7, .int (nI (q + 1))), (6, .int (nI 1)), (4, .int (nI x)), (3, .int (nI i)), (2, .int (bI (is9))), (0, .ref x0), (1, .int (nI set)), (5, .int (nI (k_bnd x)))]) hx hb dL_isEnough_121 hl (k := 1) rfl (nI_add q 1) (by decide) rfl (fun ls hl => ?_)
                  refine lv_goto (tgt := 79) hx hb dL_isEnough_124 (by decide) ?_
                  exact ih79 true (q + 1) (by omega) (by omega) (by rw [k_hs, ← hhs]; first | (rw [show hs9 = true from by assumption]; rfl) | (rw [show hs9 = false from by assumption, k_in_t (s := set) (q := q) (by assumption), decide_eq_true (show k_rch x q = k_bnd x from by assumption)]; rfl) | (rw [show hs9 = false from by assumption, k_in_f (s := set) (q := q) (by assumption)]; rfl) | (rw [show hs9 = false from by assumption, decide_eq_false (show ¬ k_rch x q = k_bnd x from by assumption), Bool.and_false]; rfl)) _ (lv_sub hl [0, 1, 2, 3, 4, 5, 6, 7] rfl)
                · refine lv_iload_n hx hb dL_isEnough_91 rfl (lv_at hl 6 rfl) ?_
                  refine lv_iload hx hb dL_isEnough_92 (lv_at hl 0 rfl) ?_
                  refine ln_ishr hx hb dL_isEnough_94 (by omega) (by omega) ?_
                  refine lv_iconst (v := (nI 1)) hx hb dL_isEnough_95 (by decide) ?_
                  refine ln_iand1 hx hb dL_isEnough_96 (Nat.lt_of_le_of_lt (Nat.div_le_self _ _) (by omega)) ?_
                  refine lv_iconst (v := (nI 1)) hx hb dL_isEnough_97 (by decide) ?_
                  refine ln_icmp_ne (tgt := 118) hx hb dL_isEnough_98 (by decide) (by omega) (by decide) (fun h7 => ?_) (fun h7 => ?_)
                  · refine lv_iconst (v := (nI 0)) hx hb dL_isEnough_118 (by decide) ?_
                    refine lv_istore (lv' := [(6, .int (nI 0)), (7, .int (nI q)), (4, .int (nI x)), (3, .int (nI i)), (2, .int (bI (is9))), (0, .ref x0), (1, .int (nI set)), (5, .int (nI (k_bnd x)))]) hx hb dL_isEnough_119 hl (by decide) rfl (fun ls hl => ?_)
                    refine lv_iinc (v := (nI (q + 1))) (lv' := [(7, .int (nI (q + 1))), (6, .int (nI 0)), (4, .int (nI x)), (3, .int (nI i)), (2, .int (bI (is9))), (0, .ref x0), (1, .int (nI set)), (5, .int (nI (k_bnd x)))]) hx hb dL_isEnough_121 hl (k := 1) rfl (nI_add q 1) (by decide) rfl (fun ls hl => ?_)
                    refine lv_goto (tgt := 79) hx hb dL_isEnough_124 (by decide) ?_
                    exact ih79 false (q + 1) (by omega) (by omega) (by rw [k_hs, ← hhs]; first | (rw [show hs9 = true from by assumption]; rfl) | (rw [show hs9 = false from by assumption, k_in_t (s := set) (q := q) (by assumption), decide_eq_true (show k_rch x q = k_bnd x from by assumption)]; rfl) | (rw [show hs9 = false from by assumption, k_in_f (s := set) (q := q) (by assumption)]; rfl) | (rw [show hs9 = false from by assumption, decide_eq_false (show ¬ k_rch x q = k_bnd x from by assumption), Bool.and_false]; rfl)) _ (lv_sub hl [0, 1, 2, 3, 4, 5, 6, 7] rfl)
                  · refine lv_aload_n hx hb dL_isEnough_101 rfl (lv_at hl 5 rfl) ?_
                    refine lv_iload hx hb dL_isEnough_102 (lv_at hl 2 rfl) ?_
                    refine lv_iload hx hb dL_isEnough_104 (lv_at hl 0 rfl) ?_
                    refine ro_V (C := RX6) (n := 2) ⟨hx, hb, hml, hown, hts⟩ hM hS hP (c6_reach_ok l D tc zb x0 (fun k9 => match k9 with | 0 => .ref (as 0) | 2 => .ref (as 5) | 3 => .ref (as 8) | 4 => .ref (as 52) | 5 => .ref (as 55) | 6 => .ref (as 59) | _ => .null) (as 2) (as 3) (as 4) tr qs g x q hk hR (by omega) (by omega)) gL_isEnough_X6_reach rfl (by decide +kernel) ⟨Nat.le_of_ble_eq_true rfl, Nat.le_of_ble_eq_true rfl⟩ [0, 3, 4, 5] rfl (va_recv hM.1 hP (ci := 5) (q0 := 0) rfl rfl) rfl hl.1 rfl (Nat.le_of_ble_eq_true rfl) dL_isEnough_106 ⟨Nat.le_refl _, Nat.le_refl _⟩ ?_
                    refine lv_iload hx hb dL_isEnough_109 (lv_at hl 7 rfl) ?_
                    refine ln_icmp_ne (tgt := 118) hx hb dL_isEnough_111 (by decide) (by omega) (by omega) (fun h8 => ?_) (fun h8 => ?_)
                    · refine lv_iconst (v := (nI 0)) hx hb dL_isEnough_118 (by decide) ?_
                      refine lv_istore (lv' := [(6, .int (nI 0)), (7, .int (nI q)), (4, .int (nI x)), (3, .int (nI i)), (2, .int (bI (is9))), (0, .ref x0), (1, .int (nI set)), (5, .int (nI (k_bnd x)))]) hx hb dL_isEnough_119 hl (by decide) rfl (fun ls hl => ?_)
                      refine lv_iinc (v := (nI (q + 1))) (lv' := [(7, .int (nI (q + 1))), (6, .int (nI 0)), (4, .int (nI x)), (3, .int (nI i)), (2, .int (bI (is9))), (0, .ref x0), (1, .int (nI set)), (5, .int (nI (k_bnd x)))]) hx hb dL_isEnough_121 hl (k := 1) rfl (nI_add q 1) (by decide) rfl (fun ls hl => ?_)
                      refine lv_goto (tgt := 79) hx hb dL_isEnough_124 (by decide) ?_
                      exact ih79 false (q + 1) (by omega) (by omega) (by rw [k_hs, ← hhs]; first | (rw [show hs9 = true from by assumption]; rfl) | (rw [show hs9 = false from by assumption, k_in_t (s := set) (q := q) (by assumption), decide_eq_true (show k_rch x q = k_bnd x from by assumption)]; rfl) | (rw [show hs9 = false from by assumption, k_in_f (s := set) (q := q) (by assumption)]; rfl) | (rw [show hs9 = false from by assumption, decide_eq_false (show ¬ k_rch x q = k_bnd x from by assumption), Bool.and_false]; rfl)) _ (lv_sub hl [0, 1, 2, 3, 4, 5, 6, 7] rfl)
                    · refine lv_iconst (v := (nI 1)) hx hb dL_isEnough_114 (by decide) ?_
                      refine lv_goto (tgt := 119) hx hb dL_isEnough_115 (by decide) ?_
                      refine lv_istore (lv' := [(6, .int (nI 1)), (7, .int (nI q)), (4, .int (nI x)), (3, .int (nI i)), (2, .int (bI (is9))), (0, .ref x0), (1, .int (nI set)), (5, .int (nI (k_bnd x)))]) hx hb dL_isEnough_119 hl (by decide) rfl (fun ls hl => ?_)
                      refine lv_iinc (v := (nI (q + 1))) (lv' := [(7, .int (nI (q + 1))), (6, .int (nI 1)), (4, .int (nI x)), (3, .int (nI i)), (2, .int (bI (is9))), (0, .ref x0), (1, .int (nI set)), (5, .int (nI (k_bnd x)))]) hx hb dL_isEnough_121 hl (k := 1) rfl (nI_add q 1) (by decide) rfl (fun ls hl => ?_)
                      refine lv_goto (tgt := 79) hx hb dL_isEnough_124 (by decide) ?_
                      exact ih79 true (q + 1) (by omega) (by omega) (by rw [k_hs, ← hhs]; first | (rw [show hs9 = true from by assumption]; rfl) | (rw [show hs9 = false from by assumption, k_in_t (s := set) (q := q) (by assumption), decide_eq_true (show k_rch x q = k_bnd x from by assumption)]; rfl) | (rw [show hs9 = false from by assumption, k_in_f (s := set) (q := q) (by assumption)]; rfl) | (rw [show hs9 = false from by assumption, decide_eq_false (show ¬ k_rch x q = k_bnd x from by assumption), Bool.and_false]; rfl)) _ (lv_sub hl [0, 1, 2, 3, 4, 5, 6, 7] rfl)
          exact lp79 _ false 0 (Nat.lt_succ_self _) (by omega) (by rfl) _ (lv_sub hl [0, 1, 2, 3, 4, 5, 6, 7] rfl)
        refine lv_iload hx hb dL_isEnough_21 (lv_at hl 0 rfl) ?_
        refine lv_bipush (v := (nI 121)) hx hb dL_isEnough_23 (by decide) ?_
        refine ln_idiv hx hb dL_isEnough_25 (by omega) (by decide) (by decide) ?_
        refine lv_bipush (v := (nI 10)) hx hb dL_isEnough_26 (by decide) ?_
        refine ln_icmp_ge (tgt := 35) hx hb dL_isEnough_28 (by decide) (by omega) (by decide) (fun h9 => ?_) (fun h9 => ?_)
        · refine lv_iconst (v := (nI 0)) hx hb dL_isEnough_35 (by decide) ?_
          refine lv_iload hx hb dL_isEnough_36 (lv_at hl 0 rfl) ?_
          refine lv_bipush (v := (nI 11)) hx hb dL_isEnough_38 (by decide) ?_
          refine ln_idiv hx hb dL_isEnough_40 (by omega) (by decide) (by decide) ?_
          refine lv_bipush (v := (nI 11)) hx hb dL_isEnough_41 (by decide) ?_
          refine ln_irem hx hb dL_isEnough_43 (by omega) (by decide) (by decide) ?_
          refine lv_bipush (v := (nI 10)) hx hb dL_isEnough_44 (by decide) ?_
          refine ln_icmp_ge (tgt := 53) hx hb dL_isEnough_46 (by decide) (by omega) (by decide) (fun h10 => ?_) (fun h10 => ?_)
          · refine lv_iconst (v := (nI 0)) hx hb dL_isEnough_53 (by decide) ?_
            refine lv_iadd hx hb dL_isEnough_54 ?_
            refine ln_eq (x' := (nI 0)) (by decide) ?_
            refine lv_iload hx hb dL_isEnough_55 (lv_at hl 0 rfl) ?_
            refine lv_bipush (v := (nI 11)) hx hb dL_isEnough_57 (by decide) ?_
            refine ln_irem hx hb dL_isEnough_59 (by omega) (by decide) (by decide) ?_
            refine lv_bipush (v := (nI 10)) hx hb dL_isEnough_60 (by decide) ?_
            refine ln_icmp_ge (tgt := 69) hx hb dL_isEnough_62 (by decide) (by omega) (by decide) (fun h11 => ?_) (fun h11 => ?_)
            · refine lv_iconst (v := (nI 0)) hx hb dL_isEnough_69 (by decide) ?_
              refine lv_iadd hx hb dL_isEnough_70 ?_
              refine ln_eq (x' := (nI 0)) (by decide) ?_
              refine ln_eq (x' := (nI (k_bnd x))) (congrArg nI (by rw [k_bnd_eq hx9]; (repeat' split) <;> omega)) ?_
              refine lv_istore (lv' := [(5, .int (nI (k_bnd x))), (4, .int (nI x)), (3, .int (nI i)), (2, .int (bI (is9))), (0, .ref x0), (1, .int (nI set))]) hx hb dL_isEnough_71 hl (by decide) rfl (fun ls hl => ?_)
              exact kj2 _ (lv_sub hl [1, 2, 3, 4, 5, 0] rfl)
            · refine lv_iconst (v := (nI 1)) hx hb dL_isEnough_65 (by decide) ?_
              refine lv_goto (tgt := 70) hx hb dL_isEnough_66 (by decide) ?_
              refine lv_iadd hx hb dL_isEnough_70 ?_
              refine ln_eq (x' := (nI 1)) (by decide) ?_
              refine ln_eq (x' := (nI (k_bnd x))) (congrArg nI (by rw [k_bnd_eq hx9]; (repeat' split) <;> omega)) ?_
              refine lv_istore (lv' := [(5, .int (nI (k_bnd x))), (4, .int (nI x)), (3, .int (nI i)), (2, .int (bI (is9))), (0, .ref x0), (1, .int (nI set))]) hx hb dL_isEnough_71 hl (by decide) rfl (fun ls hl => ?_)
              exact kj2 _ (lv_sub hl [1, 2, 3, 4, 5, 0] rfl)
          · refine lv_iconst (v := (nI 1)) hx hb dL_isEnough_49 (by decide) ?_
            refine lv_goto (tgt := 54) hx hb dL_isEnough_50 (by decide) ?_
            refine lv_iadd hx hb dL_isEnough_54 ?_
            refine ln_eq (x' := (nI 1)) (by decide) ?_
            refine lv_iload hx hb dL_isEnough_55 (lv_at hl 0 rfl) ?_
            refine lv_bipush (v := (nI 11)) hx hb dL_isEnough_57 (by decide) ?_
            refine ln_irem hx hb dL_isEnough_59 (by omega) (by decide) (by decide) ?_
            refine lv_bipush (v := (nI 10)) hx hb dL_isEnough_60 (by decide) ?_
            refine ln_icmp_ge (tgt := 69) hx hb dL_isEnough_62 (by decide) (by omega) (by decide) (fun h12 => ?_) (fun h12 => ?_)
            · refine lv_iconst (v := (nI 0)) hx hb dL_isEnough_69 (by decide) ?_
              refine lv_iadd hx hb dL_isEnough_70 ?_
              refine ln_eq (x' := (nI 1)) (by decide) ?_
              refine ln_eq (x' := (nI (k_bnd x))) (congrArg nI (by rw [k_bnd_eq hx9]; (repeat' split) <;> omega)) ?_
              refine lv_istore (lv' := [(5, .int (nI (k_bnd x))), (4, .int (nI x)), (3, .int (nI i)), (2, .int (bI (is9))), (0, .ref x0), (1, .int (nI set))]) hx hb dL_isEnough_71 hl (by decide) rfl (fun ls hl => ?_)
              exact kj2 _ (lv_sub hl [1, 2, 3, 4, 5, 0] rfl)
            · refine lv_iconst (v := (nI 1)) hx hb dL_isEnough_65 (by decide) ?_
              refine lv_goto (tgt := 70) hx hb dL_isEnough_66 (by decide) ?_
              refine lv_iadd hx hb dL_isEnough_70 ?_
              refine ln_eq (x' := (nI 2)) (by decide) ?_
              refine ln_eq (x' := (nI (k_bnd x))) (congrArg nI (by rw [k_bnd_eq hx9]; (repeat' split) <;> omega)) ?_
              refine lv_istore (lv' := [(5, .int (nI (k_bnd x))), (4, .int (nI x)), (3, .int (nI i)), (2, .int (bI (is9))), (0, .ref x0), (1, .int (nI set))]) hx hb dL_isEnough_71 hl (by decide) rfl (fun ls hl => ?_)
              exact kj2 _ (lv_sub hl [1, 2, 3, 4, 5, 0] rfl)
        · refine lv_iconst (v := (nI 1)) hx hb dL_isEnough_31 (by decide) ?_
          refine lv_goto (tgt := 36) hx hb dL_isEnough_32 (by decide) ?_
          refine lv_iload hx hb dL_isEnough_36 (lv_at hl 0 rfl) ?_
          refine lv_bipush (v := (nI 11)) hx hb dL_isEnough_38 (by decide) ?_
          refine ln_idiv hx hb dL_isEnough_40 (by omega) (by decide) (by decide) ?_
          refine lv_bipush (v := (nI 11)) hx hb dL_isEnough_41 (by decide) ?_
          refine ln_irem hx hb dL_isEnough_43 (by omega) (by decide) (by decide) ?_
          refine lv_bipush (v := (nI 10)) hx hb dL_isEnough_44 (by decide) ?_
          refine ln_icmp_ge (tgt := 53) hx hb dL_isEnough_46 (by decide) (by omega) (by decide) (fun h13 => ?_) (fun h13 => ?_)
          · refine lv_iconst (v := (nI 0)) hx hb dL_isEnough_53 (by decide) ?_
            refine lv_iadd hx hb dL_isEnough_54 ?_
            refine ln_eq (x' := (nI 1)) (by decide) ?_
            refine lv_iload hx hb dL_isEnough_55 (lv_at hl 0 rfl) ?_
            refine lv_bipush (v := (nI 11)) hx hb dL_isEnough_57 (by decide) ?_
            refine ln_irem hx hb dL_isEnough_59 (by omega) (by decide) (by decide) ?_
            refine lv_bipush (v := (nI 10)) hx hb dL_isEnough_60 (by decide) ?_
            refine ln_icmp_ge (tgt := 69) hx hb dL_isEnough_62 (by decide) (by omega) (by decide) (fun h14 => ?_) (fun h14 => ?_)
            · refine lv_iconst (v := (nI 0)) hx hb dL_isEnough_69 (by decide) ?_
              refine lv_iadd hx hb dL_isEnough_70 ?_
              refine ln_eq (x' := (nI 1)) (by decide) ?_
              refine ln_eq (x' := (nI (k_bnd x))) (congrArg nI (by rw [k_bnd_eq hx9]; (repeat' split) <;> omega)) ?_
              refine lv_istore (lv' := [(5, .int (nI (k_bnd x))), (4, .int (nI x)), (3, .int (nI i)), (2, .int (bI (is9))), (0, .ref x0), (1, .int (nI set))]) hx hb dL_isEnough_71 hl (by decide) rfl (fun ls hl => ?_)
              exact kj2 _ (lv_sub hl [1, 2, 3, 4, 5, 0] rfl)
            · refine lv_iconst (v := (nI 1)) hx hb dL_isEnough_65 (by decide) ?_
              refine lv_goto (tgt := 70) hx hb dL_isEnough_66 (by decide) ?_
              refine lv_iadd hx hb dL_isEnough_70 ?_
              refine ln_eq (x' := (nI 2)) (by decide) ?_
              refine ln_eq (x' := (nI (k_bnd x))) (congrArg nI (by rw [k_bnd_eq hx9]; (repeat' split) <;> omega)) ?_
              refine lv_istore (lv' := [(5, .int (nI (k_bnd x))), (4, .int (nI x)), (3, .int (nI i)), (2, .int (bI (is9))), (0, .ref x0), (1, .int (nI set))]) hx hb dL_isEnough_71 hl (by decide) rfl (fun ls hl => ?_)
              exact kj2 _ (lv_sub hl [1, 2, 3, 4, 5, 0] rfl)
          · refine lv_iconst (v := (nI 1)) hx hb dL_isEnough_49 (by decide) ?_
            refine lv_goto (tgt := 54) hx hb dL_isEnough_50 (by decide) ?_
            refine lv_iadd hx hb dL_isEnough_54 ?_
            refine ln_eq (x' := (nI 2)) (by decide) ?_
            refine lv_iload hx hb dL_isEnough_55 (lv_at hl 0 rfl) ?_
            refine lv_bipush (v := (nI 11)) hx hb dL_isEnough_57 (by decide) ?_
            refine ln_irem hx hb dL_isEnough_59 (by omega) (by decide) (by decide) ?_
            refine lv_bipush (v := (nI 10)) hx hb dL_isEnough_60 (by decide) ?_
            refine ln_icmp_ge (tgt := 69) hx hb dL_isEnough_62 (by decide) (by omega) (by decide) (fun h15 => ?_) (fun h15 => ?_)
            · refine lv_iconst (v := (nI 0)) hx hb dL_isEnough_69 (by decide) ?_
              refine lv_iadd hx hb dL_isEnough_70 ?_
              refine ln_eq (x' := (nI 2)) (by decide) ?_
              refine ln_eq (x' := (nI (k_bnd x))) (congrArg nI (by rw [k_bnd_eq hx9]; (repeat' split) <;> omega)) ?_
              refine lv_istore (lv' := [(5, .int (nI (k_bnd x))), (4, .int (nI x)), (3, .int (nI i)), (2, .int (bI (is9))), (0, .ref x0), (1, .int (nI set))]) hx hb dL_isEnough_71 hl (by decide) rfl (fun ls hl => ?_)
              exact kj2 _ (lv_sub hl [1, 2, 3, 4, 5, 0] rfl)
            · refine lv_iconst (v := (nI 1)) hx hb dL_isEnough_65 (by decide) ?_
              refine lv_goto (tgt := 70) hx hb dL_isEnough_66 (by decide) ?_
              refine lv_iadd hx hb dL_isEnough_70 ?_
              refine ln_eq (x' := (nI 3)) (by decide) ?_
              refine ln_eq (x' := (nI (k_bnd x))) (congrArg nI (by rw [k_bnd_eq hx9]; (repeat' split) <;> omega)) ?_
              refine lv_istore (lv' := [(5, .int (nI (k_bnd x))), (4, .int (nI x)), (3, .int (nI i)), (2, .int (bI (is9))), (0, .ref x0), (1, .int (nI set))]) hx hb dL_isEnough_71 hl (by decide) rfl (fun ls hl => ?_)
              exact kj2 _ (lv_sub hl [1, 2, 3, 4, 5, 0] rfl)
  exact lp4 _ true 0 (Nat.lt_succ_self _) (by exact Nat.zero_le _) (by rfl) _ (lv_sub hl [0, 1, 2, 3] rfl)
