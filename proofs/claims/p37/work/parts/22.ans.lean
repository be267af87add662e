set_option maxHeartbeats 4000000 in
set_option maxRecDepth 100000 in
theorem l_ans (l : Launch) (D : va_G) (tc : Nat → ClassId) (zb : Nat) (x0 : Nat) (as : Nat → Nat) (tr : Nat → Int32) (qs : Nat → Int32) (g : Nat → Nat) (trc : Nat → Int32) (qsc : Nat → Int32) (gc : Nat → Nat) (od : Nat) (n : Nat) (tri : Nat → Nat → Int32) (qsi : Nat → Nat → Int32) (gi : Nat → Nat → Nat) (fc : Nat → Int32) (hc : Nat → Int32) (v1 : Int32) (v2 : Int32) (v3 : Int32) (v4 : Int32) (trs : Nat → Nat → Int32) (qss : Nat → Nat → Int32) (gs : Nat → Nat → Nat) (iz : Nat → Bool) (u : Nat → Nat) (ln : Nat) (x : Nat) (hk : k_ok g) (hR : k_R tr qs g) (hx9 : x < 1331) : RO l yL_isAnsweredSo wsL_isAnsweredSo 6 139 D tc zb (CW tc x0 as tr qs g trc qsc gc od n tri qsi gi fc hc v1 v2 v3 v4 trs qss gs iz u ln) [.ref x0, .int (nI x)] (.int (bI (true))) := by
  refine RO.of (cc := cL_isAnsweredSo) (maxL := 9) (ret := (some .boolean)) (by decide) rfl (Nat.le_of_ble_eq_true rfl) ?_
  intro p e s m args below meth c hx hb hr hml hlk hts hown hM hS hP ls hl
  have hl : lv_has ls 9 [(0, .ref x0), (1, .int (nI x))] := hl
  obtain ⟨ok0, ok1, ok2, ok3, ok4, ok5, ok6⟩ := id hk
  refine lv_aload_n hx hb dL_isAnsweredSo_0 rfl (lv_at hl 0 rfl) ?_
  refine lv_iconst (v := (nI 0)) hx hb dL_isAnsweredSo_1 (by decide) ?_
  refine ro_V (C := RX6) (n := 1) ⟨hx, hb, hml, hown, hts⟩ hM hS hP (c6_about_ok l D tc zb x0 (fun k9 => match k9 with | 0 => .ref (as 0) | 2 => .ref (as 5) | 3 => .ref (as 8) | 4 => .ref (as 52) | 5 => .ref (as 55) | 6 => .ref (as 59) | _ => .null) (as 2) (as 3) (as 4) tr qs g 0 hk hR (by omega)) gL_isAnsweredSo_X6_about rfl (by decide +kernel) ⟨Nat.le_of_ble_eq_true rfl, Nat.le_of_ble_eq_true rfl⟩ [0, 3, 4, 5] rfl (va_recv hM.1 hP (ci := 5) (q0 := 0) rfl rfl) rfl hl.1 rfl (Nat.le_of_ble_eq_true rfl) dL_isAnsweredSo_2 ⟨Nat.le_refl _, Nat.le_refl _⟩ ?_
  refine ln_eq (x' := (nI (g 0))) (rfl) ?_
  refine lv_istore_n (lv' := [(2, .int (nI (g 0))), (0, .ref x0), (1, .int (nI x))]) hx hb dL_isAnsweredSo_5 rfl hl (by decide) rfl (fun ls hl => ?_)
  refine lv_iload_n hx hb dL_isAnsweredSo_6 rfl (lv_at hl 0 rfl) ?_
  refine lv_istore_n (lv' := [(3, .int (nI (g 0))), (2, .int (nI (g 0))), (0, .ref x0), (1, .int (nI x))]) hx hb dL_isAnsweredSo_7 rfl hl (by decide) rfl (fun ls hl => ?_)
  refine lv_iconst (v := (-1)) hx hb dL_isAnsweredSo_8 (by decide) ?_
  refine lv_istore (lv' := [(4, .int (-1)), (3, .int (nI (g 0))), (2, .int (nI (g 0))), (0, .ref x0), (1, .int (nI x))]) hx hb dL_isAnsweredSo_9 hl (by decide) rfl (fun ls hl => ?_)
  refine lv_iconst (v := (nI 0)) hx hb dL_isAnsweredSo_11 (by decide) ?_
  refine lv_istore (lv' := [(5, .int (nI 0)), (4, .int (-1)), (3, .int (nI (g 0))), (2, .int (nI (g 0))), (0, .ref x0), (1, .int (nI x))]) hx hb dL_isAnsweredSo_12 hl (by decide) rfl (fun ls hl => ?_)
  have lp14 : ∀ (n9 : Nat) (lst : Nat) (by9 : Option Nat) (q : Nat), (6 - q) < n9 → (q ≤ 6) → (lst = k_mn g x (g 41) q) → (by9 = k_or g x (g 41) q) → ∀ ls : Array Slot, lv_has ls 9 [(5, .int (nI q)), (4, .int (oI (by9))), (3, .int (nI lst)), (2, .int (nI (g 0))), (0, .ref x0), (1, .int (nI x))] → W p l e ({ frames := 6, cells := 0, slots := 0, locals := 139 } : Room) s m args below meth c s.heap [] 0 0 (MQ below (roQ (.int (bI (true)))) args s 0 0 (fun _ => False)) (F0 m 14 ls []) := by
    intro n9
    induction n9 with
    | zero => intro lst by9 q hmu; exact absurd hmu (Nat.not_lt_zero _)
    | succ n9 ih14 =>
      intro lst by9 q hmu hq hls hby ls hl
      have hle9 := k_mn_le g x (g 41) q
      have hcb9 := k_cb_le g x q
      refine lv_iload hx hb dL_isAnsweredSo_14 (lv_at hl 0 rfl) ?_
      refine lv_bipush (v := (nI 6)) hx hb dL_isAnsweredSo_16 (by decide) ?_
      refine ln_icmp_ge (tgt := 89) hx hb dL_isAnsweredSo_18 (by decide) (by omega) (by decide) (fun h1 => ?_) (fun h1 => ?_)
      · have e6 : q = 6 := by omega
        rw [e6] at hls hby
        have hm6 := k_mn_le g x (g 41) 6
        have hcn := k_cnt_le g x
        have hq6 : ∀ q9, (k_or g x (g 41) 6) = some q9 → q9 < 6 := fun _ h9 => (k_or_lt h9).1
        refine lv_aload_n hx hb dL_isAnsweredSo_89 rfl (lv_at hl 4 rfl) ?_
        refine lv_iload_n hx hb dL_isAnsweredSo_90 rfl (lv_at hl 5 rfl) ?_
        refine ro_V (C := RX6) (n := 1) ⟨hx, hb, hml, hown, hts⟩ hM hS hP (c6_count_ok l D tc zb x0 (fun k9 => match k9 with | 0 => .ref (as 0) | 2 => .ref (as 5) | 3 => .ref (as 8) | 4 => .ref (as 52) | 5 => .ref (as 55) | 6 => .ref (as 59) | _ => .null) (as 2) (as 3) (as 4) tr qs g x hk hR (by omega)) gL_isAnsweredSo_X6_count rfl (by decide +kernel) ⟨Nat.le_of_ble_eq_true rfl, Nat.le_of_ble_eq_true rfl⟩ [0, 3, 4, 5] rfl (va_recv hM.1 hP (ci := 5) (q0 := 0) rfl rfl) rfl hl.1 rfl (Nat.le_of_ble_eq_true rfl) dL_isAnsweredSo_91 ⟨Nat.le_refl _, Nat.le_refl _⟩ ?_
        refine lv_istore (lv' := [(5, .int (nI (k_cnt g x))), (4, .int (oI (by9))), (3, .int (nI lst)), (2, .int (nI (g 0))), (0, .ref x0), (1, .int (nI x))]) hx hb dL_isAnsweredSo_94 hl (by decide) rfl (fun ls hl => ?_)
        refine lv_aload_n hx hb dL_isAnsweredSo_96 rfl (lv_at hl 4 rfl) ?_
        refine lv_iload_n hx hb dL_isAnsweredSo_97 rfl (lv_at hl 5 rfl) ?_
        refine lv_iconst (v := (-1)) hx hb dL_isAnsweredSo_98 (by decide) ?_
        refine ro_V (C := RX6) (n := 2) ⟨hx, hb, hml, hown, hts⟩ hM hS hP (c6_cost_okN l D tc zb x0 (fun k9 => match k9 with | 0 => .ref (as 0) | 2 => .ref (as 5) | 3 => .ref (as 8) | 4 => .ref (as 52) | 5 => .ref (as 55) | 6 => .ref (as 59) | _ => .null) (as 2) (as 3) (as 4) tr qs g x hk hR (by omega)) gL_isAnsweredSo_X6_cost rfl (by decide +kernel) ⟨Nat.le_of_ble_eq_true rfl, Nat.le_of_ble_eq_true rfl⟩ [0, 3, 4, 5] rfl (va_recv hM.1 hP (ci := 5) (q0 := 0) rfl rfl) rfl hl.1 rfl (Nat.le_of_ble_eq_true rfl) dL_isAnsweredSo_99 ⟨Nat.le_refl _, Nat.le_refl _⟩ ?_
        refine lv_iload_n hx hb dL_isAnsweredSo_102 rfl (lv_at hl 2 rfl) ?_
        refine ln_icmp_ne (tgt := 127) hx hb dL_isAnsweredSo_103 (by decide) (by omega) (by omega) (fun h2 => ?_) (fun h2 => ?_)
        · exact absurd hls.symm h2
        · refine lv_aload_n hx hb dL_isAnsweredSo_106 rfl (lv_at hl 4 rfl) ?_
          refine lv_iload_n hx hb dL_isAnsweredSo_107 rfl (lv_at hl 5 rfl) ?_
          refine ro_V (C := RX6) (n := 1) ⟨hx, hb, hml, hown, hts⟩ hM hS hP (c6_by_ok l D tc zb x0 (fun k9 => match k9 with | 0 => .ref (as 0) | 2 => .ref (as 5) | 3 => .ref (as 8) | 4 => .ref (as 52) | 5 => .ref (as 55) | 6 => .ref (as 59) | _ => .null) (as 2) (as 3) (as 4) tr qs g x hk hR (by omega)) gL_isAnsweredSo_X6_by rfl (by decide +kernel) ⟨Nat.le_of_ble_eq_true rfl, Nat.le_of_ble_eq_true rfl⟩ [0, 3, 4, 5] rfl (va_recv hM.1 hP (ci := 5) (q0 := 0) rfl rfl) rfl hl.1 rfl (Nat.le_of_ble_eq_true rfl) dL_isAnsweredSo_108 ⟨Nat.le_refl _, Nat.le_refl _⟩ ?_
          refine lv_iload hx hb dL_isAnsweredSo_111 (lv_at hl 1 rfl) ?_
          refine lv_icmp_ne (tgt := 127) hx hb dL_isAnsweredSo_113 (by decide) (fun h3 => ?_) (fun h3 => ?_)
          · exact absurd (congrArg oI hby.symm) h3
          · refine lv_aload_n hx hb dL_isAnsweredSo_116 rfl (lv_at hl 4 rfl) ?_
            refine lv_iload_n hx hb dL_isAnsweredSo_117 rfl (lv_at hl 5 rfl) ?_
            refine lv_iload hx hb dL_isAnsweredSo_118 (lv_at hl 0 rfl) ?_
            refine ro_V (C := RX6) (n := 2) ⟨hx, hb, hml, hown, hts⟩ hM hS hP (c6_answer_ok l D tc zb x0 (fun k9 => match k9 with | 0 => .ref (as 0) | 2 => .ref (as 5) | 3 => .ref (as 8) | 4 => .ref (as 52) | 5 => .ref (as 55) | 6 => .ref (as 59) | _ => .null) (as 2) (as 3) (as 4) tr qs g x (k_cnt g x) hk hR (by omega) (by omega)) gL_isAnsweredSo_X6_answer rfl (by decide +kernel) ⟨Nat.le_of_ble_eq_true rfl, Nat.le_of_ble_eq_true rfl⟩ [0, 3, 4, 5] rfl (va_recv hM.1 hP (ci := 5) (q0 := 0) rfl rfl) rfl hl.1 rfl (Nat.le_of_ble_eq_true rfl) dL_isAnsweredSo_120 ⟨Nat.le_refl _, Nat.le_refl _⟩ ?_
            refine ln_eq (x' := (-1)) (congrArg oI (k_aa_end hk)) ?_
            refine lv_iconst (v := (-1)) hx hb dL_isAnsweredSo_123 (by decide) ?_
            refine lv_icmp_eq (tgt := 129) hx hb dL_isAnsweredSo_124 (by decide) (fun _ => ?_) (fun h9 => False.elim (by revert h9; decide))
            cases by9 with
            | none =>
              have hl : lv_has ls 9 [(5, .int (nI (k_cnt g x))), (4, .int (-1)), (3, .int (nI lst)), (2, .int (nI (g 0))), (0, .ref x0), (1, .int (nI x))] := hl
              refine lv_iconst (v := (nI 0)) hx hb dL_isAnsweredSo_129 (by decide) ?_
              refine lv_istore (lv' := [(6, .int (nI 0)), (5, .int (nI (k_cnt g x))), (4, .int (-1)), (3, .int (nI lst)), (2, .int (nI (g 0))), (0, .ref x0), (1, .int (nI x))]) hx hb dL_isAnsweredSo_130 hl (by decide) rfl (fun ls hl => ?_)
              refine lv_iconst (v := (nI 0)) hx hb dL_isAnsweredSo_132 (by decide) ?_
              refine lv_istore (lv' := [(7, .int (nI 0)), (6, .int (nI 0)), (5, .int (nI (k_cnt g x))), (4, .int (-1)), (3, .int (nI lst)), (2, .int (nI (g 0))), (0, .ref x0), (1, .int (nI x))]) hx hb dL_isAnsweredSo_133 hl (by decide) rfl (fun ls hl => ?_)
              have lp135 : ∀ (n9 : Nat) (pl9 : Nat) (i : Nat), (k_cnt g x - i) < n9 → (i ≤ k_cnt g x) → (i < k_cnt g x → pl9 ≤ k_pl g x (k_or g x (g 41) 6) i) → ∀ ls : Array Slot, lv_has ls 9 [(7, .int (nI i)), (6, .int (nI pl9)), (5, .int (nI (k_cnt g x))), (4, .int (-1)), (2, .int (nI (g 0))), (0, .ref x0), (1, .int (nI x))] → W p l e ({ frames := 6, cells := 0, slots := 0, locals := 139 } : Room) s m args below meth c s.heap [] 0 0 (MQ below (roQ (.int (bI (true)))) args s 0 0 (fun _ => False)) (F0 m 135 ls []) := by
                intro n9
                induction n9 with
                | zero => intro pl9 i hmu; exact absurd hmu (Nat.not_lt_zero _)
                | succ n9 ih135 =>
                  intro pl9 i hmu hi hpl ls hl
                  refine lv_iload hx hb dL_isAnsweredSo_135 (lv_at hl 0 rfl) ?_
                  refine lv_iload hx hb dL_isAnsweredSo_137 (lv_at hl 2 rfl) ?_
                  refine ln_icmp_ge (tgt := 195) hx hb dL_isAnsweredSo_139 (by decide) (by omega) (by omega) (fun h4 => ?_) (fun h4 => ?_)
                  · refine lv_iconst (v := (nI 1)) hx hb dL_isAnsweredSo_195 (by decide) ?_
                    exact ro_zret hx hb hr hlk dL_isAnsweredSo_196 (show bI true = _ from congrArg bI (by rfl))
                  · obtain ⟨t9, ha9, ht9, hp9, hb9⟩ := k_ans hk (x := x) hq6 (i := i) (by assumption)
                    refine lv_aload_n hx hb dL_isAnsweredSo_142 rfl (lv_at hl 5 rfl) ?_
                    refine lv_iload_n hx hb dL_isAnsweredSo_143 rfl (lv_at hl 6 rfl) ?_
                    refine lv_iload hx hb dL_isAnsweredSo_144 (lv_at hl 0 rfl) ?_
                    refine ro_V (C := RX6) (n := 2) ⟨hx, hb, hml, hown, hts⟩ hM hS hP (c6_answer_ok l D tc zb x0 (fun k9 => match k9 with | 0 => .ref (as 0) | 2 => .ref (as 5) | 3 => .ref (as 8) | 4 => .ref (as 52) | 5 => .ref (as 55) | 6 => .ref (as 59) | _ => .null) (as 2) (as 3) (as 4) tr qs g x i hk hR (by omega) (by omega)) gL_isAnsweredSo_X6_answer rfl (by decide +kernel) ⟨Nat.le_of_ble_eq_true rfl, Nat.le_of_ble_eq_true rfl⟩ [0, 3, 4, 5] rfl (va_recv hM.1 hP (ci := 5) (q0 := 0) rfl rfl) rfl hl.1 rfl (Nat.le_of_ble_eq_true rfl) dL_isAnsweredSo_146 ⟨Nat.le_refl _, Nat.le_refl _⟩ ?_
                    refine ln_eq (x' := (nI t9)) (congrArg oI ha9) ?_
                    refine lv_istore (lv' := [(8, .int (nI t9)), (7, .int (nI i)), (6, .int (nI pl9)), (5, .int (nI (k_cnt g x))), (4, .int (-1)), (2, .int (nI (g 0))), (0, .ref x0), (1, .int (nI x))]) hx hb dL_isAnsweredSo_149 hl (by decide) rfl (fun ls hl => ?_)
                    have lp151 : ∀ (n9 : Nat) (p2 : Nat), (k_pl g x (k_or g x (g 41) 6) i - p2) < n9 → (p2 ≤ k_pl g x (k_or g x (g 41) 6) i) → ∀ ls : Array Slot, lv_has ls 9 [(8, .int (nI t9)), (7, .int (nI i)), (6, .int (nI p2)), (5, .int (nI (k_cnt g x))), (4, .int (-1)), (2, .int (nI (g 0))), (0, .ref x0), (1, .int (nI x))] → W p l e ({ frames := 6, cells := 0, slots := 0, locals := 139 } : Room) s m args below meth c s.heap [] 0 0 (MQ below (roQ (.int (bI (true)))) args s 0 0 (fun _ => False)) (F0 m 151 ls []) := by
                      intro n9
                      induction n9 with
                      | zero => intro p2 hmu; exact absurd hmu (Nat.not_lt_zero _)
                      | succ n9 ih151 =>
                        intro p2 hmu hp2 ls hl
                        refine lv_iload hx hb dL_isAnsweredSo_151 (lv_at hl 2 rfl) ?_
                        refine lv_iload_n hx hb dL_isAnsweredSo_153 rfl (lv_at hl 5 rfl) ?_
                        refine ln_icmp_ge (tgt := 176) hx hb dL_isAnsweredSo_154 (by decide) (by omega) (by omega) (fun h5 => ?_) (fun h5 => ?_)
                        · exfalso; omega
                        · refine lv_aload_n hx hb dL_isAnsweredSo_157 rfl (lv_at hl 6 rfl) ?_
                          refine lv_iload hx hb dL_isAnsweredSo_158 (lv_at hl 4 rfl) ?_
                          refine lv_iload hx hb dL_isAnsweredSo_160 (lv_at hl 2 rfl) ?_
                          refine ro_V (C := RX6) (n := 2) ⟨hx, hb, hml, hown, hts⟩ hM hS hP (c6_triple_okN l D tc zb x0 (fun k9 => match k9 with | 0 => .ref (as 0) | 2 => .ref (as 5) | 3 => .ref (as 8) | 4 => .ref (as 52) | 5 => .ref (as 55) | 6 => .ref (as 59) | _ => .null) (as 2) (as 3) (as 4) tr qs g p2 hk hR (by omega)) gL_isAnsweredSo_X6_triple rfl (by decide +kernel) ⟨Nat.le_of_ble_eq_true rfl, Nat.le_of_ble_eq_true rfl⟩ [0, 3, 4, 5] rfl (va_recv hM.1 hP (ci := 5) (q0 := 0) rfl rfl) rfl hl.1 rfl (Nat.le_of_ble_eq_true rfl) dL_isAnsweredSo_162 ⟨Nat.le_refl _, Nat.le_refl _⟩ ?_
                          refine ln_eq (x' := oI (k_aa g 1330 (k_or g x (g 41) 6) p2 (g 0))) (by rw [← hby]) ?_
                          refine lv_iload hx hb dL_isAnsweredSo_165 (lv_at hl 0 rfl) ?_
                          refine lv_icmp_eq (tgt := 176) hx hb dL_isAnsweredSo_167 (by decide) (fun h6 => ?_) (fun h6 => ?_)
                          · refine lv_iload hx hb dL_isAnsweredSo_176 (lv_at hl 0 rfl) ?_
                            refine ln_if_lt (tgt := 187) hx hb dL_isAnsweredSo_178 (by decide) (by omega) ?_
                            refine lv_iload hx hb dL_isAnsweredSo_181 (lv_at hl 2 rfl) ?_
                            refine lv_iload_n hx hb dL_isAnsweredSo_183 rfl (lv_at hl 5 rfl) ?_
                            refine ln_icmp_ne (tgt := 189) hx hb dL_isAnsweredSo_184 (by decide) (by omega) (by omega) (fun h7 => ?_) (fun h7 => ?_)
                            · refine lv_iinc (v := (nI (i + 1))) (lv' := [(7, .int (nI (i + 1))), (8, .int (nI t9)), (6, .int (nI p2)), (5, .int (nI (k_cnt g x))), (4, .int (-1)), (2, .int (nI (g 0))), (0, .ref x0), (1, .int (nI x))]) hx hb dL_isAnsweredSo_189 hl (k := 1) rfl (nI_add i 1) (by decide) rfl (fun ls hl => ?_)
                              refine lv_goto (tgt := 135) hx hb dL_isAnsweredSo_192 (by decide) ?_
                              exact ih135 p2 (i + 1) (by omega) (by omega) (by intro w9; exact Nat.le_trans hp2 (k_pl_mono hk hq6 (by omega) w9)) _ (lv_sub hl [0, 2, 3, 4, 5, 6, 7] rfl)
                            · exfalso; omega
                          · have hp3 : p2 + 1 ≤ k_pl g x (k_or g x (g 41) 6) i := by
                              rcases Nat.lt_or_ge p2 (k_pl g x (k_or g x (g 41) 6) i) with w9 | w9
                              · exact w9
                              · exfalso
                                have e9 : p2 = k_pl g x (k_or g x (g 41) 6) i := by omega
                                rw [e9, hb9] at h6
                                exact h6 rfl
                            refine lv_iinc (v := (nI (p2 + 1))) (lv' := [(6, .int (nI (p2 + 1))), (8, .int (nI t9)), (7, .int (nI i)), (5, .int (nI (k_cnt g x))), (4, .int (-1)), (2, .int (nI (g 0))), (0, .ref x0), (1, .int (nI x))]) hx hb dL_isAnsweredSo_170 hl (k := 2) rfl (nI_add p2 1) (by decide) rfl (fun ls hl => ?_)
                            refine lv_goto (tgt := 151) hx hb dL_isAnsweredSo_173 (by decide) ?_
                            exact ih151 (p2 + 1) (by omega) (by exact hp3) _ (lv_sub hl [1, 2, 0, 3, 4, 5, 6, 7] rfl)
                    exact lp151 _ pl9 (Nat.lt_succ_self _) (by exact hpl (by assumption)) _ (lv_sub hl [0, 1, 2, 3, 4, 5, 6, 7] rfl)
              exact lp135 _ 0 0 (Nat.lt_succ_self _) (by exact Nat.zero_le _) (by intro _; exact Nat.zero_le _) _ (lv_sub hl [0, 1, 2, 3, 5, 6, 7] rfl)
            | some r9 =>
              have hl : lv_has ls 9 [(5, .int (nI (k_cnt g x))), (4, .int (nI r9)), (3, .int (nI lst)), (2, .int (nI (g 0))), (0, .ref x0), (1, .int (nI x))] := hl
              have hr6 : r9 < 6 := hq6 r9 hby.symm
              refine lv_iconst (v := (nI 0)) hx hb dL_isAnsweredSo_129 (by decide) ?_
              refine lv_istore (lv' := [(6, .int (nI 0)), (5, .int (nI (k_cnt g x))), (4, .int (nI r9)), (3, .int (nI lst)), (2, .int (nI (g 0))), (0, .ref x0), (1, .int (nI x))]) hx hb dL_isAnsweredSo_130 hl (by decide) rfl (fun ls hl => ?_)
              refine lv_iconst (v := (nI 0)) hx hb dL_isAnsweredSo_132 (by decide) ?_
              refine lv_istore (lv' := [(7, .int (nI 0)), (6, .int (nI 0)), (5, .int (nI (k_cnt g x))), (4, .int (nI r9)), (3, .int (nI lst)), (2, .int (nI (g 0))), (0, .ref x0), (1, .int (nI x))]) hx hb dL_isAnsweredSo_133 hl (by decide) rfl (fun ls hl => ?_)
              have lp135_8 : ∀ (n9 : Nat) (pl9 : Nat) (i : Nat), (k_cnt g x - i) < n9 → (i ≤ k_cnt g x) → (i < k_cnt g x → pl9 ≤ k_pl g x (k_or g x (g 41) 6) i) → ∀ ls : Array Slot, lv_has ls 9 [(7, .int (nI i)), (6, .int (nI pl9)), (5, .int (nI (k_cnt g x))), (4, .int (nI r9)), (2, .int (nI (g 0))), (0, .ref x0), (1, .int (nI x))] → W p l e ({ frames := 6, cells := 0, slots := 0, locals := 139 } : Room) s m args below meth c s.heap [] 0 0 (MQ below (roQ (.int (bI (true)))) args s 0 0 (fun _ => False)) (F0 m 135 ls []) := by
                intro n9
                induction n9 with
                | zero => intro pl9 i hmu; exact absurd hmu (Nat.not_lt_zero _)
                | succ n9 ih135 =>
                  intro pl9 i hmu hi hpl ls hl
                  refine lv_iload hx hb dL_isAnsweredSo_135 (lv_at hl 0 rfl) ?_
                  refine lv_iload hx hb dL_isAnsweredSo_137 (lv_at hl 2 rfl) ?_
                  refine ln_icmp_ge (tgt := 195) hx hb dL_isAnsweredSo_139 (by decide) (by omega) (by omega) (fun h9 => ?_) (fun h9 => ?_)
                  · refine lv_iconst (v := (nI 1)) hx hb dL_isAnsweredSo_195 (by decide) ?_
                    exact ro_zret hx hb hr hlk dL_isAnsweredSo_196 (show bI true = _ from congrArg bI (by rfl))
                  · obtain ⟨t9, ha9, ht9, hp9, hb9⟩ := k_ans hk (x := x) hq6 (i := i) (by assumption)
                    refine lv_aload_n hx hb dL_isAnsweredSo_142 rfl (lv_at hl 5 rfl) ?_
                    refine lv_iload_n hx hb dL_isAnsweredSo_143 rfl (lv_at hl 6 rfl) ?_
                    refine lv_iload hx hb dL_isAnsweredSo_144 (lv_at hl 0 rfl) ?_
                    refine ro_V (C := RX6) (n := 2) ⟨hx, hb, hml, hown, hts⟩ hM hS hP (c6_answer_ok l D tc zb x0 (fun k9 => match k9 with | 0 => .ref (as 0) | 2 => .ref (as 5) | 3 => .ref (as 8) | 4 => .ref (as 52) | 5 => .ref (as 55) | 6 => .ref (as 59) | _ => .null) (as 2) (as 3) (as 4) tr qs g x i hk hR (by omega) (by omega)) gL_isAnsweredSo_X6_answer rfl (by decide +kernel) ⟨Nat.le_of_ble_eq_true rfl, Nat.le_of_ble_eq_true rfl⟩ [0, 3, 4, 5] rfl (va_recv hM.1 hP (ci := 5) (q0 := 0) rfl rfl) rfl hl.1 rfl (Nat.le_of_ble_eq_true rfl) dL_isAnsweredSo_146 ⟨Nat.le_refl _, Nat.le_refl _⟩ ?_
                    refine ln_eq (x' := (nI t9)) (congrArg oI ha9) ?_
                    refine lv_istore (lv' := [(8, .int (nI t9)), (7, .int (nI i)), (6, .int (nI pl9)), (5, .int (nI (k_cnt g x))), (4, .int (nI r9)), (2, .int (nI (g 0))), (0, .ref x0), (1, .int (nI x))]) hx hb dL_isAnsweredSo_149 hl (by decide) rfl (fun ls hl => ?_)
                    have lp151_10 : ∀ (n9 : Nat) (p2 : Nat), (k_pl g x (k_or g x (g 41) 6) i - p2) < n9 → (p2 ≤ k_pl g x (k_or g x (g 41) 6) i) → ∀ ls : Array Slot, lv_has ls 9 [(8, .int (nI t9)), (7, .int (nI i)), (6, .int (nI p2)), (5, .int (nI (k_cnt g x))), (4, .int (nI r9)), (2, .int (nI (g 0))), (0, .ref x0), (1, .int (nI x))] → W p l e ({ frames := 6, cells := 0, slots := 0, locals := 139 } : Room) s m args below meth c s.heap [] 0 0 (MQ below (roQ (.int (bI (true)))) args s 0 0 (fun _ => False)) (F0 m 151 ls []) := by
                      intro n9
                      induction n9 with
                      | zero => intro p2 hmu; exact absurd hmu (Nat.not_lt_zero _)
                      | succ n9 ih151 =>
                        intro p2 hmu hp2 ls hl
                        refine lv_iload hx hb dL_isAnsweredSo_151 (lv_at hl 2 rfl) ?_
                        refine lv_iload_n hx hb dL_isAnsweredSo_153 rfl (lv_at hl 5 rfl) ?_
                        refine ln_icmp_ge (tgt := 176) hx hb dL_isAnsweredSo_154 (by decide) (by omega) (by omega) (fun h11 => ?_) (fun h11 => ?_)
                        · exfalso; omega
                        · refine lv_aload_n hx hb dL_isAnsweredSo_157 rfl (lv_at hl 6 rfl) ?_
                          refine lv_iload hx hb dL_isAnsweredSo_158 (lv_at hl 4 rfl) ?_
                          refine lv_iload hx hb dL_isAnsweredSo_160 (lv_at hl 2 rfl) ?_
                          refine ro_V (C := RX6) (n := 2) ⟨hx, hb, hml, hown, hts⟩ hM hS hP (c6_triple_ok l D tc zb x0 (fun k9 => match k9 with | 0 => .ref (as 0) | 2 => .ref (as 5) | 3 => .ref (as 8) | 4 => .ref (as 52) | 5 => .ref (as 55) | 6 => .ref (as 59) | _ => .null) (as 2) (as 3) (as 4) tr qs g r9 p2 hk hR (by omega) (by omega)) gL_isAnsweredSo_X6_triple rfl (by decide +kernel) ⟨Nat.le_of_ble_eq_true rfl, Nat.le_of_ble_eq_true rfl⟩ [0, 3, 4, 5] rfl (va_recv hM.1 hP (ci := 5) (q0 := 0) rfl rfl) rfl hl.1 rfl (Nat.le_of_ble_eq_true rfl) dL_isAnsweredSo_162 ⟨Nat.le_refl _, Nat.le_refl _⟩ ?_
                          refine ln_eq (x' := oI (k_aa g 1330 (k_or g x (g 41) 6) p2 (g 0))) (by rw [← hby]) ?_
                          refine lv_iload hx hb dL_isAnsweredSo_165 (lv_at hl 0 rfl) ?_
                          refine lv_icmp_eq (tgt := 176) hx hb dL_isAnsweredSo_167 (by decide) (fun h12 => ?_) (fun h12 => ?_)
                          · refine lv_iload hx hb dL_isAnsweredSo_176 (lv_at hl 0 rfl) ?_
                            refine ln_if_lt (tgt := 187) hx hb dL_isAnsweredSo_178 (by decide) (by omega) ?_
                            refine lv_iload hx hb dL_isAnsweredSo_181 (lv_at hl 2 rfl) ?_
                            refine lv_iload_n hx hb dL_isAnsweredSo_183 rfl (lv_at hl 5 rfl) ?_
                            refine ln_icmp_ne (tgt := 189) hx hb dL_isAnsweredSo_184 (by decide) (by omega) (by omega) (fun h13 => ?_) (fun h13 => ?_)
                            · refine lv_iinc (v := (nI (i + 1))) (lv' := [(7, .int (nI (i + 1))), (8, .int (nI t9)), (6, .int (nI p2)), (5, .int (nI (k_cnt g x))), (4, .int (nI r9)), (2, .int (nI (g 0))), (0, .ref x0), (1, .int (nI x))]) hx hb dL_isAnsweredSo_189 hl (k := 1) rfl (nI_add i 1) (by decide) rfl (fun ls hl => ?_)
                              refine lv_goto (tgt := 135) hx hb dL_isAnsweredSo_192 (by decide) ?_
                              exact ih135 p2 (i + 1) (by omega) (by omega) (by intro w9; exact Nat.le_trans hp2 (k_pl_mono hk hq6 (by omega) w9)) _ (lv_sub hl [0, 2, 3, 4, 5, 6, 7] rfl)
                            · exfalso; omega
                          · have hp3 : p2 + 1 ≤ k_pl g x (k_or g x (g 41) 6) i := by
                              rcases Nat.lt_or_ge p2 (k_pl g x (k_or g x (g 41) 6) i) with w9 | w9
                              · exact w9
                              · exfalso
                                have e9 : p2 = k_pl g x (k_or g x (g 41) 6) i := by omega
                                rw [e9, hb9] at h12
                                exact h12 rfl
                            refine lv_iinc (v := (nI (p2 + 1))) (lv' := [(6, .int (nI (p2 + 1))), (8, .int (nI t9)), (7, .int (nI i)), (5, .int (nI (k_cnt g x))), (4, .int (nI r9)), (2, .int (nI (g 0))), (0, .ref x0), (1, .int (nI x))]) hx hb dL_isAnsweredSo_170 hl (k := 2) rfl (nI_add p2 1) (by decide) rfl (fun ls hl => ?_)
                            refine lv_goto (tgt := 151) hx hb dL_isAnsweredSo_173 (by decide) ?_
                            exact ih151 (p2 + 1) (by omega) (by exact hp3) _ (lv_sub hl [1, 2, 0, 3, 4, 5, 6, 7] rfl)
                    exact lp151_10 _ pl9 (Nat.lt_succ_self _) (by exact hpl (by assumption)) _ (lv_sub hl [0, 1, 2, 3, 4, 5, 6, 7] rfl)
              exact lp135_8 _ 0 0 (Nat.lt_succ_self _) (by exact Nat.zero_le _) (by intro _; exact Nat.zero_le _) _ (lv_sub hl [0, 1, 2, 3, 5, 6, 7] rfl)
      · refine lv_aload_n hx hb dL_isAnsweredSo_21 rfl (lv_at hl 4 rfl) ?_
        refine lv_iload_n hx hb dL_isAnsweredSo_22 rfl (lv_at hl 5 rfl) ?_
        refine lv_iload hx hb dL_isAnsweredSo_23 (lv_at hl 0 rfl) ?_
        refine ro_V (C := RX6) (n := 2) ⟨hx, hb, hml, hown, hts⟩ hM hS hP (c6_cost_ok l D tc zb x0 (fun k9 => match k9 with | 0 => .ref (as 0) | 2 => .ref (as 5) | 3 => .ref (as 8) | 4 => .ref (as 52) | 5 => .ref (as 55) | 6 => .ref (as 59) | _ => .null) (as 2) (as 3) (as 4) tr qs g x q hk hR (by omega) (by omega)) gL_isAnsweredSo_X6_cost rfl (by decide +kernel) ⟨Nat.le_of_ble_eq_true rfl, Nat.le_of_ble_eq_true rfl⟩ [0, 3, 4, 5] rfl (va_recv hM.1 hP (ci := 5) (q0 := 0) rfl rfl) rfl hl.1 rfl (Nat.le_of_ble_eq_true rfl) dL_isAnsweredSo_25 ⟨Nat.le_refl _, Nat.le_refl _⟩ ?_
        refine lv_istore (lv' := [(6, .int (nI (k_cb g x q))), (5, .int (nI q)), (4, .int (oI (by9))), (3, .int (nI lst)), (2, .int (nI (g 0))), (0, .ref x0), (1, .int (nI x))]) hx hb dL_isAnsweredSo_28 hl (by decide) rfl (fun ls hl => ?_)
        refine lv_aload_n hx hb dL_isAnsweredSo_30 rfl (lv_at hl 5 rfl) ?_
        refine lv_iconst (v := (nI 1)) hx hb dL_isAnsweredSo_31 (by decide) ?_
        refine ro_V (C := RX6) (n := 1) ⟨hx, hb, hml, hown, hts⟩ hM hS hP (c6_about_ok l D tc zb x0 (fun k9 => match k9 with | 0 => .ref (as 0) | 2 => .ref (as 5) | 3 => .ref (as 8) | 4 => .ref (as 52) | 5 => .ref (as 55) | 6 => .ref (as 59) | _ => .null) (as 2) (as 3) (as 4) tr qs g 1 hk hR (by omega)) gL_isAnsweredSo_X6_about rfl (by decide +kernel) ⟨Nat.le_of_ble_eq_true rfl, Nat.le_of_ble_eq_true rfl⟩ [0, 3, 4, 5] rfl (va_recv hM.1 hP (ci := 5) (q0 := 0) rfl rfl) rfl hl.1 rfl (Nat.le_of_ble_eq_true rfl) dL_isAnsweredSo_32 ⟨Nat.le_refl _, Nat.le_refl _⟩ ?_
        refine ln_eq (x' := (nI (g 41))) (rfl) ?_
        refine lv_iload hx hb dL_isAnsweredSo_35 (lv_at hl 1 rfl) ?_
        refine ln_ishr hx hb dL_isAnsweredSo_37 (by omega) (by omega) ?_
        refine lv_iconst (v := (nI 1)) hx hb dL_isAnsweredSo_38 (by decide) ?_
        refine ln_iand1 hx hb dL_isAnsweredSo_39 (Nat.lt_of_le_of_lt (Nat.div_le_self _ _) (by omega)) ?_
        refine lv_iconst (v := (nI 1)) hx hb dL_isAnsweredSo_40 (by decide) ?_
        refine ln_icmp_ne (tgt := 54) hx hb dL_isAnsweredSo_41 (by decide) (by omega) (by decide) (fun h14 => ?_) (fun h14 => ?_)
        · refine lv_iconst (v := (nI 0)) hx hb dL_isAnsweredSo_54 (by decide) ?_
          refine lv_istore (lv' := [(7, .int (nI 0)), (6, .int (nI (k_cb g x q))), (5, .int (nI q)), (4, .int (oI (by9))), (3, .int (nI lst)), (2, .int (nI (g 0))), (0, .ref x0), (1, .int (nI x))]) hx hb dL_isAnsweredSo_55 hl (by decide) rfl (fun ls hl => ?_)
          refine lv_iload hx hb dL_isAnsweredSo_57 (lv_at hl 0 rfl) ?_
          refine lv_if_eq (tgt := 67) hx hb dL_isAnsweredSo_59 (by decide) (fun _ => ?_) (fun h9 => False.elim (by revert h9; decide))
          refine lv_iload hx hb dL_isAnsweredSo_67 (lv_at hl 3 rfl) ?_
          refine lv_istore (lv' := [(4, .int (oI (by9))), (7, .int (nI 0)), (6, .int (nI (k_cb g x q))), (5, .int (nI q)), (3, .int (nI lst)), (2, .int (nI (g 0))), (0, .ref x0), (1, .int (nI x))]) hx hb dL_isAnsweredSo_69 hl (by decide) rfl (fun ls hl => ?_)
          refine lv_iload hx hb dL_isAnsweredSo_71 (lv_at hl 1 rfl) ?_
          refine lv_if_eq (tgt := 81) hx hb dL_isAnsweredSo_73 (by decide) (fun _ => ?_) (fun h9 => False.elim (by revert h9; decide))
          refine lv_iload_n hx hb dL_isAnsweredSo_81 rfl (lv_at hl 4 rfl) ?_
          refine lv_istore_n (lv' := [(3, .int (nI lst)), (4, .int (oI (by9))), (7, .int (nI 0)), (6, .int (nI (k_cb g x q))), (5, .int (nI q)), (2, .int (nI (g 0))), (0, .ref x0), (1, .int (nI x))]) hx hb dL_isAnsweredSo_82 rfl hl (by decide) rfl (fun ls hl => ?_)
          refine lv_iinc (v := (nI (q + 1))) (lv' := [(5, .int (nI (q + 1))), (3, .int (nI lst)), (4, .int (oI (by9))), (7, .int (nI 0)), (6, .int (nI (k_cb g x q))), (2, .int (nI (g 0))), (0, .ref x0), (1, .int (nI x))]) hx hb dL_isAnsweredSo_83 hl (k := 4) rfl (nI_add q 1) (by decide) rfl (fun ls hl => ?_)
          refine lv_goto (tgt := 14) hx hb dL_isAnsweredSo_86 (by decide) ?_
          exact ih14 lst by9 (q + 1) (by omega) (by omega) (by first | (rw [k_mn, if_pos (k_in_t (s := g 41) (q := q) (by assumption)), ← hls]; omega) | (rw [k_mn, if_neg (fun w9 => absurd (k_in_o w9) (by assumption)), ← hls])) (by first | (rw [k_or, if_pos ⟨k_in_t (s := g 41) (q := q) (by assumption), by omega⟩]) | (rw [k_or, if_neg (fun w9 => by have w1 := k_in_o w9.1; have w2 := w9.2; first | omega | exact absurd w1 (by assumption))]; exact hby)) _ (lv_sub hl [0, 2, 1, 5, 6, 7] rfl)
        · refine lv_iload hx hb dL_isAnsweredSo_44 (lv_at hl 0 rfl) ?_
          refine lv_iload_n hx hb dL_isAnsweredSo_46 rfl (lv_at hl 3 rfl) ?_
          refine ln_icmp_ge (tgt := 54) hx hb dL_isAnsweredSo_47 (by decide) (by omega) (by omega) (fun h15 => ?_) (fun h15 => ?_)
          · refine lv_iconst (v := (nI 0)) hx hb dL_isAnsweredSo_54 (by decide) ?_
            refine lv_istore (lv' := [(7, .int (nI 0)), (6, .int (nI (k_cb g x q))), (5, .int (nI q)), (4, .int (oI (by9))), (3, .int (nI lst)), (2, .int (nI (g 0))), (0, .ref x0), (1, .int (nI x))]) hx hb dL_isAnsweredSo_55 hl (by decide) rfl (fun ls hl => ?_)
            refine lv_iload hx hb dL_isAnsweredSo_57 (lv_at hl 0 rfl) ?_
            refine lv_if_eq (tgt := 67) hx hb dL_isAnsweredSo_59 (by decide) (fun _ => ?_) (fun h9 => False.elim (by revert h9; decide))
            refine lv_iload hx hb dL_isAnsweredSo_67 (lv_at hl 3 rfl) ?_
            refine lv_istore (lv' := [(4, .int (oI (by9))), (7, .int (nI 0)), (6, .int (nI (k_cb g x q))), (5, .int (nI q)), (3, .int (nI lst)), (2, .int (nI (g 0))), (0, .ref x0), (1, .int (nI x))]) hx hb dL_isAnsweredSo_69 hl (by decide) rfl (fun ls hl => ?_)
            refine lv_iload hx hb dL_isAnsweredSo_71 (lv_at hl 1 rfl) ?_
            refine lv_if_eq (tgt := 81) hx hb dL_isAnsweredSo_73 (by decide) (fun _ => ?_) (fun h9 => False.elim (by revert h9; decide))
            refine lv_iload_n hx hb dL_isAnsweredSo_81 rfl (lv_at hl 4 rfl) ?_
            refine lv_istore_n (lv' := [(3, .int (nI lst)), (4, .int (oI (by9))), (7, .int (nI 0)), (6, .int (nI (k_cb g x q))), (5, .int (nI q)), (2, .int (nI (g 0))), (0, .ref x0), (1, .int (nI x))]) hx hb dL_isAnsweredSo_82 rfl hl (by decide) rfl (fun ls hl => ?_)
            refine lv_iinc (v := (nI (q + 1))) (lv' := [(5, .int (nI (q + 1))), (3, .int (nI lst)), (4, .int (oI (by9))), (7, .int (nI 0)), (6, .int (nI (k_cb g x q))), (2, .int (nI (g 0))), (0, .ref x0), (1, .int (nI x))]) hx hb dL_isAnsweredSo_83 hl (k := 4) rfl (nI_add q 1) (by decide) rfl (fun ls hl => ?_)
            refine lv_goto (tgt := 14) hx hb dL_isAnsweredSo_86 (by decide) ?_
            exact ih14 lst by9 (q + 1) (by omega) (by omega) (by first | (rw [k_mn, if_pos (k_in_t (s := g 41) (q := q) (by assumption)), ← hls]; omega) | (rw [k_mn, if_neg (fun w9 => absurd (k_in_o w9) (by assumption)), ← hls])) (by first | (rw [k_or, if_pos ⟨k_in_t (s := g 41) (q := q) (by assumption), by omega⟩]) | (rw [k_or, if_neg (fun w9 => by have w1 := k_in_o w9.1; have w2 := w9.2; first | omega | exact absurd w1 (by assumption))]; exact hby)) _ (lv_sub hl [0, 2, 1, 5, 6, 7] rfl)
          · refine lv_iconst (v := (nI 1)) hx hb dL_isAnsweredSo_50 (by decide) ?_
            refine lv_goto (tgt := 55) hx hb dL_isAnsweredSo_51 (by decide) ?_
            refine lv_istore (lv' := [(7, .int (nI 1)), (6, .int (nI (k_cb g x q))), (5, .int (nI q)), (4, .int (oI (by9))), (3, .int (nI lst)), (2, .int (nI (g 0))), (0, .ref x0), (1, .int (nI x))]) hx hb dL_isAnsweredSo_55 hl (by decide) rfl (fun ls hl => ?_)
            refine lv_iload hx hb dL_isAnsweredSo_57 (lv_at hl 0 rfl) ?_
            refine lv_if_eq (tgt := 67) hx hb dL_isAnsweredSo_59 (by decide) (fun h9 => False.elim (by revert h9; decide)) (fun _ => ?_)
            refine lv_iload hx hb dL_isAnsweredSo_62 (lv_at hl 2 rfl) ?_
            refine lv_goto (tgt := 69) hx hb dL_isAnsweredSo_64 (by decide) ?_
            refine lv_istore (lv' := [(4, .int (nI q)), (7, .int (nI 1)), (6, .int (nI (k_cb g x q))), (5, .int (nI q)), (3, .int (nI lst)), (2, .int (nI (g 0))), (0, .ref x0), (1, .int (nI x))]) hx hb dL_isAnsweredSo_69 hl (by decide) rfl (fun ls hl => ?_)
            refine lv_iload hx hb dL_isAnsweredSo_71 (lv_at hl 1 rfl) ?_
            refine lv_if_eq (tgt := 81) hx hb dL_isAnsweredSo_73 (by decide) (fun h9 => False.elim (by revert h9; decide)) (fun _ => ?_)
            refine lv_iload hx hb dL_isAnsweredSo_76 (lv_at hl 2 rfl) ?_
            refine lv_goto (tgt := 82) hx hb dL_isAnsweredSo_78 (by decide) ?_
            refine lv_istore_n (lv' := [(3, .int (nI (k_cb g x q))), (4, .int (nI q)), (7, .int (nI 1)), (6, .int (nI (k_cb g x q))), (5, .int (nI q)), (2, .int (nI (g 0))), (0, .ref x0), (1, .int (nI x))]) hx hb dL_isAnsweredSo_82 rfl hl (by decide) rfl (fun ls hl => ?_)
            refine lv_iinc (v := (nI (q + 1))) (lv' := [(5, .int (nI (q + 1))), (3, .int (nI (k_cb g x q))), (4, .int (nI q)), (7, .int (nI 1)), (6, .int (nI (k_cb g x q))), (2, .int (nI (g 0))), (0, .ref x0), (1, .int (nI x))]) hx hb dL_isAnsweredSo_83 hl (k := 4) rfl (nI_add q 1) (by decide) rfl (fun ls hl => ?_)
            refine lv_goto (tgt := 14) hx hb dL_isAnsweredSo_86 (by decide) ?_
            exact ih14 (k_cb g x q) (some q) (q + 1) (by omega) (by omega) (by first | (rw [k_mn, if_pos (k_in_t (s := g 41) (q := q) (by assumption)), ← hls]; omega) | (rw [k_mn, if_neg (fun w9 => absurd (k_in_o w9) (by assumption)), ← hls])) (by first | (rw [k_or, if_pos ⟨k_in_t (s := g 41) (q := q) (by assumption), by omega⟩]) | (rw [k_or, if_neg (fun w9 => by have w1 := k_in_o w9.1; have w2 := w9.2; first | omega | exact absurd w1 (by assumption))]; exact hby)) _ (lv_sub hl [0, 2, 1, 5, 6, 7] rfl)
  exact lp14 _ (g 0) none 0 (Nat.lt_succ_self _) (by omega) (by rfl) (by rfl) _ (lv_sub hl [0, 1, 2, 3, 4, 5] rfl)
