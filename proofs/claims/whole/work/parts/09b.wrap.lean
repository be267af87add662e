set_option maxHeartbeats 4000000 in
set_option maxRecDepth 100000 in
theorem l_about_ok (l : Launch) (D : va_G) (tc : Nat → ClassId) (zb : Nat) {w w1 : va_W} {x0 bo : Nat} {fs : List Value} (fo : Nat → Int64) {fr lo : Nat} {p0 : Int32} {r : Int32} (hc : IP l yX6_about wsX6_about fr lo D tc zb w w1 [.ref x0, .int p0] (some (.int r))) (hw0 : w[0]? = some (x0, .inr (5, fs))) (had : w1.map Prod.fst = w.map Prod.fst) (hfr : fr ≤ 11) (hlo : lo ≤ 500) : IPn l yL_about wsL_about 12 560 1 6 D tc zb (w ++ [w_o tc bo fo]) (w1 ++ [w_o tc bo (vp_updL fo 0 r.toInt64)]) [.ref x0, .int p0, .ref bo] (some (.int (nI 0))) := by
  refine IPn.ofT (cc := cL_about) (maxL := 4) (ret := some .int) (hh := [(0, 9, 12, 13)]) (by decide) rfl (Nat.le_of_ble_eq_true rfl) ?_
  intro p e s m args below meth c A hx hb hr hml hlk hts hown hex hM hS hP hD ls hl
  have hl : lv_has ls 4 [(0, .ref x0), (1, .int p0), (2, .ref bo)] := hl
  refine lv_aload_n hx hb dL_about_0 rfl (lv_at hl 2 rfl) ?_
  refine lv_iconst (v := nI 0) hx hb dL_about_1 (by decide) ?_
  refine lv_aload_n hx hb dL_about_2 rfl (lv_at hl 0 rfl) ?_
  refine lv_iload_n hx hb dL_about_3 rfl (lv_at hl 1 rfl) ?_
  refine ipF_V (C := RX6) (n := 1) ⟨hx, hb, hml, hown, hts⟩ hM hS hP hD (IPn.app (mc := 0) (ms := 0) hc [w_o tc bo fo]) gL_about_X6_about rfl (by decide +kernel) ⟨by show fr + 1 ≤ 12; omega, by show 8 + (2 + 11) + lo ≤ 560; omega⟩ (by rw [List.map_append, List.map_append, had]) (va_recv hM.1 hP (ci := 5) (q0 := 0) rfl (by rw [List.getElem?_append_left (List.getElem?_eq_some_iff.mp hw0).1]; exact hw0)) rfl hl.1 rfl (Nat.le_of_ble_eq_true rfl) dL_about_4 ⟨Nat.zero_le _, Nat.zero_le _⟩ (fun H locs hP hD hS => ?_)
  refine W.eq (g2 := F0 m 7 ls [.int r, .int (nI 0), .ref bo]) rfl ?_
  refine lv_i2l (v := r.toInt64) hx hb dL_about_7 rfl ?_
  refine lx_last hx hb hM.1 hP hD hS dL_about_8 (fun H locs hP hD hS => ?_)
  refine lv_goto (tgt := 15) hx hb dL_about_9 (by decide) ?_
  refine lv_iconst (v := nI 0) hx hb dL_about_15 (by decide) ?_
  exact ipn_iret hx hb hr hlk dL_about_16 hS hP (Nat.zero_le _) (Nat.zero_le _)
set_option maxHeartbeats 4000000 in
set_option maxRecDepth 100000 in
theorem l_about_t1 (l : Launch) (D : va_G) (tc : Nat → ClassId) (zb : Nat) {w : va_W} {x0 bo : Nat} {fs : List Value} (fo : Nat → Int64) {fr lo : Nat} {p0 : Int32} (hc : TH l yX6_about wsX6_about fr lo D tc zb w [.ref x0, .int p0] "java/lang/IllegalArgumentException") (hw0 : w[0]? = some (x0, .inr (5, fs))) (hfr : fr ≤ 11) (hlo : lo ≤ 500) : IPn l yL_about wsL_about 12 560 1 6 D tc zb (w ++ [w_o tc bo fo]) (w ++ [w_o tc bo fo]) [.ref x0, .int p0, .ref bo] (some (.int (nI 1))) := by
  refine IPn.ofT (cc := cL_about) (maxL := 4) (ret := some .int) (hh := [(0, 9, 12, 13)]) (by decide) rfl (Nat.le_of_ble_eq_true rfl) ?_
  intro p e s m args below meth c A hx hb hr hml hlk hts hown hex hM hS hP hD ls hl
  have hl : lv_has ls 4 [(0, .ref x0), (1, .int p0), (2, .ref bo)] := hl
  refine lv_aload_n hx hb dL_about_0 rfl (lv_at hl 2 rfl) ?_
  refine lv_iconst (v := nI 0) hx hb dL_about_1 (by decide) ?_
  refine lv_aload_n hx hb dL_about_2 rfl (lv_at hl 0 rfl) ?_
  refine lv_iload_n hx hb dL_about_3 rfl (lv_at hl 1 rfl) ?_
  refine th_VF (C := RX6) (n := 1) ⟨hx, hb, hml, hown, hts⟩ hM hS hP hc gL_about_X6_about rfl (by decide +kernel) ⟨by show fr + 1 ≤ 12; omega, by show 8 + (2 + 11) + lo ≤ 560; omega⟩ (va_recv hM.1 hP (ci := 5) (q0 := 0) rfl (by rw [List.getElem?_append_left (List.getElem?_eq_some_iff.mp hw0).1]; exact hw0)) rfl hl.1 rfl (Nat.le_of_ble_eq_true rfl) dL_about_4 ⟨Nat.le_refl _, Nat.le_refl _⟩ (fun H q ce hP hS h3 h4 h5 => ?_)
  refine vx_catch (own := RL) (name := "java/lang/IllegalArgumentException") (E := "java/lang/IllegalArgumentException") hown [] ⟨0, 9, 12, 13⟩ [] hex (fun z hz => by cases hz) (by decide) (by decide) (hts (.classLink RL 13 "java/lang/IllegalArgumentException") (by decide +kernel)) (va_Nw.use rfl (hM.2.2.2.2.2.2.2.2.1 ("java/lang/IllegalArgumentException", "java/lang/IllegalArgumentException") (by decide +kernel))) h3 h4 h5 ?_
  refine W.eq (g2 := F0 m 12 ls [.ref q]) rfl ?_
  refine lv_astore_n (lv' := [(3, .ref q), (0, .ref x0), (1, .int p0), (2, .ref bo)]) hx hb dL_about_12 rfl hl (by decide) rfl (fun ls hl => ?_)
  refine lv_iconst (v := nI 1) hx hb dL_about_13 (by decide) ?_
  exact ipn_iret hx hb hr hlk dL_about_14 hS hP (Nat.le_refl _) (Nat.le_refl _)
set_option maxHeartbeats 4000000 in
set_option maxRecDepth 100000 in
theorem l_add_ok (l : Launch) (D : va_G) (tc : Nat → ClassId) (zb : Nat) {w w1 : va_W} {x0 bo : Nat} {fs : List Value} (fo : Nat → Int64) {fr lo : Nat} {p0 : Int32} {r : Int32} (hc : IP l yX6_add wsX6_add fr lo D tc zb w w1 [.ref x0, .int p0] (some (.int r))) (hw0 : w[0]? = some (x0, .inr (5, fs))) (had : w1.map Prod.fst = w.map Prod.fst) (hfr : fr ≤ 11) (hlo : lo ≤ 500) : IPn l yL_add wsL_add 12 560 1 6 D tc zb (w ++ [w_o tc bo fo]) (w1 ++ [w_o tc bo (vp_updL fo 0 r.toInt64)]) [.ref x0, .int p0, .ref bo] (some (.int (nI 0))) := by
  refine IPn.ofT (cc := cL_add) (maxL := 4) (ret := some .int) (hh := [(0, 9, 12, 13), (0, 9, 15, 15)]) (by decide) rfl (Nat.le_of_ble_eq_true rfl) ?_
  intro p e s m args below meth c A hx hb hr hml hlk hts hown hex hM hS hP hD ls hl
  have hl : lv_has ls 4 [(0, .ref x0), (1, .int p0), (2, .ref bo)] := hl
  refine lv_aload_n hx hb dL_add_0 rfl (lv_at hl 2 rfl) ?_
  refine lv_iconst (v := nI 0) hx hb dL_add_1 (by decide) ?_
  refine lv_aload_n hx hb dL_add_2 rfl (lv_at hl 0 rfl) ?_
  refine lv_iload_n hx hb dL_add_3 rfl (lv_at hl 1 rfl) ?_
  refine ipF_V (C := RX6) (n := 1) ⟨hx, hb, hml, hown, hts⟩ hM hS hP hD (IPn.app (mc := 0) (ms := 0) hc [w_o tc bo fo]) gL_add_X6_add rfl (by decide +kernel) ⟨by show fr + 1 ≤ 12; omega, by show 8 + (2 + 11) + lo ≤ 560; omega⟩ (by rw [List.map_append, List.map_append, had]) (va_recv hM.1 hP (ci := 5) (q0 := 0) rfl (by rw [List.getElem?_append_left (List.getElem?_eq_some_iff.mp hw0).1]; exact hw0)) rfl hl.1 rfl (Nat.le_of_ble_eq_true rfl) dL_add_4 ⟨Nat.zero_le _, Nat.zero_le _⟩ (fun H locs hP hD hS => ?_)
  refine W.eq (g2 := F0 m 7 ls [.int r, .int (nI 0), .ref bo]) rfl ?_
  refine lv_i2l (v := r.toInt64) hx hb dL_add_7 rfl ?_
  refine lx_last hx hb hM.1 hP hD hS dL_add_8 (fun H locs hP hD hS => ?_)
  refine lv_goto (tgt := 18) hx hb dL_add_9 (by decide) ?_
  refine lv_iconst (v := nI 0) hx hb dL_add_18 (by decide) ?_
  exact ipn_iret hx hb hr hlk dL_add_19 hS hP (Nat.zero_le _) (Nat.zero_le _)
set_option maxHeartbeats 4000000 in
set_option maxRecDepth 100000 in
theorem l_add_t1 (l : Launch) (D : va_G) (tc : Nat → ClassId) (zb : Nat) {w : va_W} {x0 bo : Nat} {fs : List Value} (fo : Nat → Int64) {fr lo : Nat} {p0 : Int32} (hc : TH l yX6_add wsX6_add fr lo D tc zb w [.ref x0, .int p0] "java/lang/IllegalArgumentException") (hw0 : w[0]? = some (x0, .inr (5, fs))) (hfr : fr ≤ 11) (hlo : lo ≤ 500) : IPn l yL_add wsL_add 12 560 1 6 D tc zb (w ++ [w_o tc bo fo]) (w ++ [w_o tc bo fo]) [.ref x0, .int p0, .ref bo] (some (.int (nI 1))) := by
  refine IPn.ofT (cc := cL_add) (maxL := 4) (ret := some .int) (hh := [(0, 9, 12, 13), (0, 9, 15, 15)]) (by decide) rfl (Nat.le_of_ble_eq_true rfl) ?_
  intro p e s m args below meth c A hx hb hr hml hlk hts hown hex hM hS hP hD ls hl
  have hl : lv_has ls 4 [(0, .ref x0), (1, .int p0), (2, .ref bo)] := hl
  refine lv_aload_n hx hb dL_add_0 rfl (lv_at hl 2 rfl) ?_
  refine lv_iconst (v := nI 0) hx hb dL_add_1 (by decide) ?_
  refine lv_aload_n hx hb dL_add_2 rfl (lv_at hl 0 rfl) ?_
  refine lv_iload_n hx hb dL_add_3 rfl (lv_at hl 1 rfl) ?_
  refine th_VF (C := RX6) (n := 1) ⟨hx, hb, hml, hown, hts⟩ hM hS hP hc gL_add_X6_add rfl (by decide +kernel) ⟨by show fr + 1 ≤ 12; omega, by show 8 + (2 + 11) + lo ≤ 560; omega⟩ (va_recv hM.1 hP (ci := 5) (q0 := 0) rfl (by rw [List.getElem?_append_left (List.getElem?_eq_some_iff.mp hw0).1]; exact hw0)) rfl hl.1 rfl (Nat.le_of_ble_eq_true rfl) dL_add_4 ⟨Nat.le_refl _, Nat.le_refl _⟩ (fun H q ce hP hS h3 h4 h5 => ?_)
  refine vx_catch (own := RL) (name := "java/lang/IllegalArgumentException") (E := "java/lang/IllegalArgumentException") hown [] ⟨0, 9, 12, 13⟩ [⟨0, 9, 15, 15⟩] hex (fun z hz => by cases hz) (by decide) (by decide) (hts (.classLink RL 13 "java/lang/IllegalArgumentException") (by decide +kernel)) (va_Nw.use rfl (hM.2.2.2.2.2.2.2.2.1 ("java/lang/IllegalArgumentException", "java/lang/IllegalArgumentException") (by decide +kernel))) h3 h4 h5 ?_
  refine W.eq (g2 := F0 m 12 ls [.ref q]) rfl ?_
  refine lv_astore_n (lv' := [(3, .ref q), (0, .ref x0), (1, .int p0), (2, .ref bo)]) hx hb dL_add_12 rfl hl (by decide) rfl (fun ls hl => ?_)
  refine lv_iconst (v := nI 1) hx hb dL_add_13 (by decide) ?_
  exact ipn_iret hx hb hr hlk dL_add_14 hS hP (Nat.le_refl _) (Nat.le_refl _)
set_option maxHeartbeats 4000000 in
set_option maxRecDepth 100000 in
theorem l_add_t2 (l : Launch) (D : va_G) (tc : Nat → ClassId) (zb : Nat) {w : va_W} {x0 bo : Nat} {fs : List Value} (fo : Nat → Int64) {fr lo : Nat} {p0 : Int32} (hc : TH l yX6_add wsX6_add fr lo D tc zb w [.ref x0, .int p0] "java/lang/IllegalStateException") (hw0 : w[0]? = some (x0, .inr (5, fs))) (hfr : fr ≤ 11) (hlo : lo ≤ 500) : IPn l yL_add wsL_add 12 560 1 6 D tc zb (w ++ [w_o tc bo fo]) (w ++ [w_o tc bo fo]) [.ref x0, .int p0, .ref bo] (some (.int (nI 2))) := by
  refine IPn.ofT (cc := cL_add) (maxL := 4) (ret := some .int) (hh := [(0, 9, 12, 13), (0, 9, 15, 15)]) (by decide) rfl (Nat.le_of_ble_eq_true rfl) ?_
  intro p e s m args below meth c A hx hb hr hml hlk hts hown hex hM hS hP hD ls hl
  have hl : lv_has ls 4 [(0, .ref x0), (1, .int p0), (2, .ref bo)] := hl
  refine lv_aload_n hx hb dL_add_0 rfl (lv_at hl 2 rfl) ?_
  refine lv_iconst (v := nI 0) hx hb dL_add_1 (by decide) ?_
  refine lv_aload_n hx hb dL_add_2 rfl (lv_at hl 0 rfl) ?_
  refine lv_iload_n hx hb dL_add_3 rfl (lv_at hl 1 rfl) ?_
  refine th_VF (C := RX6) (n := 1) ⟨hx, hb, hml, hown, hts⟩ hM hS hP hc gL_add_X6_add rfl (by decide +kernel) ⟨by show fr + 1 ≤ 12; omega, by show 8 + (2 + 11) + lo ≤ 560; omega⟩ (va_recv hM.1 hP (ci := 5) (q0 := 0) rfl (by rw [List.getElem?_append_left (List.getElem?_eq_some_iff.mp hw0).1]; exact hw0)) rfl hl.1 rfl (Nat.le_of_ble_eq_true rfl) dL_add_4 ⟨Nat.le_refl _, Nat.le_refl _⟩ (fun H q ce hP hS h3 h4 h5 => ?_)
  refine vx_catch (own := RL) (name := "java/lang/IllegalStateException") (E := "java/lang/IllegalStateException") hown [⟨0, 9, 12, 13⟩] ⟨0, 9, 15, 15⟩ [] hex (fun z hz => by rw [List.mem_singleton.mp hz]; exact Or.inr ⟨by decide, "java/lang/IllegalArgumentException", hts (.classLink RL 13 "java/lang/IllegalArgumentException") (by decide +kernel), hM.2.2.2.2.2.2.2.2.2 ("java/lang/IllegalStateException", "java/lang/IllegalArgumentException") (by decide +kernel)⟩) (by decide) (by decide) (hts (.classLink RL 15 "java/lang/IllegalStateException") (by decide +kernel)) (va_Nw.use rfl (hM.2.2.2.2.2.2.2.2.1 ("java/lang/IllegalStateException", "java/lang/IllegalStateException") (by decide +kernel))) h3 h4 h5 ?_
  refine W.eq (g2 := F0 m 15 ls [.ref q]) rfl ?_
  refine lv_astore_n (lv' := [(3, .ref q), (0, .ref x0), (1, .int p0), (2, .ref bo)]) hx hb dL_add_15 rfl hl (by decide) rfl (fun ls hl => ?_)
  refine lv_iconst (v := nI 2) hx hb dL_add_16 (by decide) ?_
  exact ipn_iret hx hb hr hlk dL_add_17 hS hP (Nat.le_refl _) (Nat.le_refl _)
set_option maxHeartbeats 4000000 in
set_option maxRecDepth 100000 in
theorem l_addAll_ok (l : Launch) (D : va_G) (tc : Nat → ClassId) (zb : Nat) {w w1 : va_W} {x0 bo : Nat} {fs : List Value} (fo : Nat → Int64) {fr lo : Nat} {r : Int32} (hc : IP l yX6_addAll wsX6_addAll fr lo D tc zb w w1 [.ref x0] (some (.int r))) (hw0 : w[0]? = some (x0, .inr (5, fs))) (had : w1.map Prod.fst = w.map Prod.fst) (hfr : fr ≤ 11) (hlo : lo ≤ 500) : IPn l yL_addAll wsL_addAll 12 560 1 6 D tc zb (w ++ [w_o tc bo fo]) (w1 ++ [w_o tc bo (vp_updL fo 0 r.toInt64)]) [.ref x0, .ref bo] (some (.int (nI 0))) := by
  refine IPn.ofT (cc := cL_addAll) (maxL := 3) (ret := some .int) (hh := [(0, 8, 11, 15)]) (by decide) rfl (Nat.le_of_ble_eq_true rfl) ?_
  intro p e s m args below meth c A hx hb hr hml hlk hts hown hex hM hS hP hD ls hl
  have hl : lv_has ls 3 [(0, .ref x0), (1, .ref bo)] := hl
  refine lv_aload_n hx hb dL_addAll_0 rfl (lv_at hl 1 rfl) ?_
  refine lv_iconst (v := nI 0) hx hb dL_addAll_1 (by decide) ?_
  refine lv_aload_n hx hb dL_addAll_2 rfl (lv_at hl 0 rfl) ?_
  refine ipF_V (C := RX6) (n := 0) ⟨hx, hb, hml, hown, hts⟩ hM hS hP hD (IPn.app (mc := 0) (ms := 0) hc [w_o tc bo fo]) gL_addAll_X6_addAll rfl (by decide +kernel) ⟨by show fr + 1 ≤ 12; omega, by show 8 + (5 + 11) + lo ≤ 560; omega⟩ (by rw [List.map_append, List.map_append, had]) (va_recv hM.1 hP (ci := 5) (q0 := 0) rfl (by rw [List.getElem?_append_left (List.getElem?_eq_some_iff.mp hw0).1]; exact hw0)) rfl hl.1 rfl (Nat.le_of_ble_eq_true rfl) dL_addAll_3 ⟨Nat.zero_le _, Nat.zero_le _⟩ (fun H locs hP hD hS => ?_)
  refine W.eq (g2 := F0 m 6 ls [.int r, .int (nI 0), .ref bo]) rfl ?_
  refine lv_i2l (v := r.toInt64) hx hb dL_addAll_6 rfl ?_
  refine lx_last hx hb hM.1 hP hD hS dL_addAll_7 (fun H locs hP hD hS => ?_)
  refine lv_goto (tgt := 14) hx hb dL_addAll_8 (by decide) ?_
  refine lv_iconst (v := nI 0) hx hb dL_addAll_14 (by decide) ?_
  exact ipn_iret hx hb hr hlk dL_addAll_15 hS hP (Nat.zero_le _) (Nat.zero_le _)
set_option maxHeartbeats 4000000 in
set_option maxRecDepth 100000 in
theorem l_addAll_t1 (l : Launch) (D : va_G) (tc : Nat → ClassId) (zb : Nat) {w : va_W} {x0 bo : Nat} {fs : List Value} (fo : Nat → Int64) {fr lo : Nat} (hc : TH l yX6_addAll wsX6_addAll fr lo D tc zb w [.ref x0] "java/lang/IllegalStateException") (hw0 : w[0]? = some (x0, .inr (5, fs))) (hfr : fr ≤ 11) (hlo : lo ≤ 500) : IPn l yL_addAll wsL_addAll 12 560 1 6 D tc zb (w ++ [w_o tc bo fo]) (w ++ [w_o tc bo fo]) [.ref x0, .ref bo] (some (.int (nI 1))) := by
  refine IPn.ofT (cc := cL_addAll) (maxL := 3) (ret := some .int) (hh := [(0, 8, 11, 15)]) (by decide) rfl (Nat.le_of_ble_eq_true rfl) ?_
  intro p e s m args below meth c A hx hb hr hml hlk hts hown hex hM hS hP hD ls hl
  have hl : lv_has ls 3 [(0, .ref x0), (1, .ref bo)] := hl
  refine lv_aload_n hx hb dL_addAll_0 rfl (lv_at hl 1 rfl) ?_
  refine lv_iconst (v := nI 0) hx hb dL_addAll_1 (by decide) ?_
  refine lv_aload_n hx hb dL_addAll_2 rfl (lv_at hl 0 rfl) ?_
  refine th_VF (C := RX6) (n := 0) ⟨hx, hb, hml, hown, hts⟩ hM hS hP hc gL_addAll_X6_addAll rfl (by decide +kernel) ⟨by show fr + 1 ≤ 12; omega, by show 8 + (5 + 11) + lo ≤ 560; omega⟩ (va_recv hM.1 hP (ci := 5) (q0 := 0) rfl (by rw [List.getElem?_append_left (List.getElem?_eq_some_iff.mp hw0).1]; exact hw0)) rfl hl.1 rfl (Nat.le_of_ble_eq_true rfl) dL_addAll_3 ⟨Nat.le_refl _, Nat.le_refl _⟩ (fun H q ce hP hS h3 h4 h5 => ?_)
  refine vx_catch (own := RL) (name := "java/lang/IllegalStateException") (E := "java/lang/IllegalStateException") hown [] ⟨0, 8, 11, 15⟩ [] hex (fun z hz => by cases hz) (by decide) (by decide) (hts (.classLink RL 15 "java/lang/IllegalStateException") (by decide +kernel)) (va_Nw.use rfl (hM.2.2.2.2.2.2.2.2.1 ("java/lang/IllegalStateException", "java/lang/IllegalStateException") (by decide +kernel))) h3 h4 h5 ?_
  refine W.eq (g2 := F0 m 11 ls [.ref q]) rfl ?_
  refine lv_astore_n (lv' := [(2, .ref q), (0, .ref x0), (1, .ref bo)]) hx hb dL_addAll_11 rfl hl (by decide) rfl (fun ls hl => ?_)
  refine lv_iconst (v := nI 1) hx hb dL_addAll_12 (by decide) ?_
  exact ipn_iret hx hb hr hlk dL_addAll_13 hS hP (Nat.le_refl _) (Nat.le_refl _)
set_option maxHeartbeats 4000000 in
set_option maxRecDepth 100000 in
theorem l_answer_ok (l : Launch) (D : va_G) (tc : Nat → ClassId) (zb : Nat) {w w1 : va_W} {x0 bo : Nat} {fs : List Value} (fo : Nat → Int64) {fr lo : Nat} {p0 : Int32} {p1 : Int32} {r : Int32} (hc : IP l yX6_answer wsX6_answer fr lo D tc zb w w1 [.ref x0, .int p0, .int p1] (some (.int r))) (hw0 : w[0]? = some (x0, .inr (5, fs))) (had : w1.map Prod.fst = w.map Prod.fst) (hfr : fr ≤ 11) (hlo : lo ≤ 500) : IPn l yL_answer wsL_answer 12 560 1 6 D tc zb (w ++ [w_o tc bo fo]) (w1 ++ [w_o tc bo (vp_updL fo 0 r.toInt64)]) [.ref x0, .int p0, .int p1, .ref bo] (some (.int (nI 0))) := by
  refine IPn.ofT (cc := cL_answer) (maxL := 5) (ret := some .int) (hh := [(0, 10, 13, 13)]) (by decide) rfl (Nat.le_of_ble_eq_true rfl) ?_
  intro p e s m args below meth c A hx hb hr hml hlk hts hown hex hM hS hP hD ls hl
  have hl : lv_has ls 5 [(0, .ref x0), (1, .int p0), (2, .int p1), (3, .ref bo)] := hl
  refine lv_aload_n hx hb dL_answer_0 rfl (lv_at hl 3 rfl) ?_
  refine lv_iconst (v := nI 0) hx hb dL_answer_1 (by decide) ?_
  refine lv_aload_n hx hb dL_answer_2 rfl (lv_at hl 0 rfl) ?_
  refine lv_iload_n hx hb dL_answer_3 rfl (lv_at hl 1 rfl) ?_
  refine lv_iload_n hx hb dL_answer_4 rfl (lv_at hl 2 rfl) ?_
  refine ipF_V (C := RX6) (n := 2) ⟨hx, hb, hml, hown, hts⟩ hM hS hP hD (IPn.app (mc := 0) (ms := 0) hc [w_o tc bo fo]) gL_answer_X6_answer rfl (by decide +kernel) ⟨by show fr + 1 ≤ 12; omega, by show 8 + (3 + 11) + lo ≤ 560; omega⟩ (by rw [List.map_append, List.map_append, had]) (va_recv hM.1 hP (ci := 5) (q0 := 0) rfl (by rw [List.getElem?_append_left (List.getElem?_eq_some_iff.mp hw0).1]; exact hw0)) rfl hl.1 rfl (Nat.le_of_ble_eq_true rfl) dL_answer_5 ⟨Nat.zero_le _, Nat.zero_le _⟩ (fun H locs hP hD hS => ?_)
  refine W.eq (g2 := F0 m 8 ls [.int r, .int (nI 0), .ref bo]) rfl ?_
  refine lv_i2l (v := r.toInt64) hx hb dL_answer_8 rfl ?_
  refine lx_last hx hb hM.1 hP hD hS dL_answer_9 (fun H locs hP hD hS => ?_)
  refine lv_goto (tgt := 17) hx hb dL_answer_10 (by decide) ?_
  refine lv_iconst (v := nI 0) hx hb dL_answer_17 (by decide) ?_
  exact ipn_iret hx hb hr hlk dL_answer_18 hS hP (Nat.zero_le _) (Nat.zero_le _)
set_option maxHeartbeats 4000000 in
set_option maxRecDepth 100000 in
theorem l_answer_t1 (l : Launch) (D : va_G) (tc : Nat → ClassId) (zb : Nat) {w : va_W} {x0 bo : Nat} {fs : List Value} (fo : Nat → Int64) {fr lo : Nat} {p0 : Int32} {p1 : Int32} (hc : TH l yX6_answer wsX6_answer fr lo D tc zb w [.ref x0, .int p0, .int p1] "java/lang/IllegalArgumentException") (hw0 : w[0]? = some (x0, .inr (5, fs))) (hfr : fr ≤ 11) (hlo : lo ≤ 500) : IPn l yL_answer wsL_answer 12 560 1 6 D tc zb (w ++ [w_o tc bo fo]) (w ++ [w_o tc bo fo]) [.ref x0, .int p0, .int p1, .ref bo] (some (.int (nI 1))) := by
  refine IPn.ofT (cc := cL_answer) (maxL := 5) (ret := some .int) (hh := [(0, 10, 13, 13)]) (by decide) rfl (Nat.le_of_ble_eq_true rfl) ?_
  intro p e s m args below meth c A hx hb hr hml hlk hts hown hex hM hS hP hD ls hl
  have hl : lv_has ls 5 [(0, .ref x0), (1, .int p0), (2, .int p1), (3, .ref bo)] := hl
  refine lv_aload_n hx hb dL_answer_0 rfl (lv_at hl 3 rfl) ?_
  refine lv_iconst (v := nI 0) hx hb dL_answer_1 (by decide) ?_
  refine lv_aload_n hx hb dL_answer_2 rfl (lv_at hl 0 rfl) ?_
  refine lv_iload_n hx hb dL_answer_3 rfl (lv_at hl 1 rfl) ?_
  refine lv_iload_n hx hb dL_answer_4 rfl (lv_at hl 2 rfl) ?_
  refine th_VF (C := RX6) (n := 2) ⟨hx, hb, hml, hown, hts⟩ hM hS hP hc gL_answer_X6_answer rfl (by decide +kernel) ⟨by show fr + 1 ≤ 12; omega, by show 8 + (3 + 11) + lo ≤ 560; omega⟩ (va_recv hM.1 hP (ci := 5) (q0 := 0) rfl (by rw [List.getElem?_append_left (List.getElem?_eq_some_iff.mp hw0).1]; exact hw0)) rfl hl.1 rfl (Nat.le_of_ble_eq_true rfl) dL_answer_5 ⟨Nat.le_refl _, Nat.le_refl _⟩ (fun H q ce hP hS h3 h4 h5 => ?_)
  refine vx_catch (own := RL) (name := "java/lang/IllegalArgumentException") (E := "java/lang/IllegalArgumentException") hown [] ⟨0, 10, 13, 13⟩ [] hex (fun z hz => by cases hz) (by decide) (by decide) (hts (.classLink RL 13 "java/lang/IllegalArgumentException") (by decide +kernel)) (va_Nw.use rfl (hM.2.2.2.2.2.2.2.2.1 ("java/lang/IllegalArgumentException", "java/lang/IllegalArgumentException") (by decide +kernel))) h3 h4 h5 ?_
  refine W.eq (g2 := F0 m 13 ls [.ref q]) rfl ?_
  refine lv_astore (lv' := [(4, .ref q), (0, .ref x0), (1, .int p0), (2, .int p1), (3, .ref bo)]) hx hb dL_answer_13 hl (by decide) rfl (fun ls hl => ?_)
  refine lv_iconst (v := nI 1) hx hb dL_answer_15 (by decide) ?_
  exact ipn_iret hx hb hr hlk dL_answer_16 hS hP (Nat.le_refl _) (Nat.le_refl _)
set_option maxHeartbeats 4000000 in
set_option maxRecDepth 100000 in
theorem l_append_ok (l : Launch) (D : va_G) (tc : Nat → ClassId) (zb : Nat) {w w1 : va_W} {x0 bo : Nat} {fs : List Value} (fo : Nat → Int64) {fr lo : Nat} {p0 : Int32} {r : Int32} (hc : IP l yX6_append wsX6_append fr lo D tc zb w w1 [.ref x0, .int p0] (some (.int r))) (hw0 : w[0]? = some (x0, .inr (5, fs))) (had : w1.map Prod.fst = w.map Prod.fst) (hfr : fr ≤ 11) (hlo : lo ≤ 500) : IPn l yL_append wsL_append 12 560 1 6 D tc zb (w ++ [w_o tc bo fo]) (w1 ++ [w_o tc bo (vp_updL fo 0 r.toInt64)]) [.ref x0, .int p0, .ref bo] (some (.int (nI 0))) := by
  refine IPn.ofT (cc := cL_append) (maxL := 4) (ret := some .int) (hh := [(0, 9, 12, 13), (0, 9, 15, 15)]) (by decide) rfl (Nat.le_of_ble_eq_true rfl) ?_
  intro p e s m args below meth c A hx hb hr hml hlk hts hown hex hM hS hP hD ls hl
  have hl : lv_has ls 4 [(0, .ref x0), (1, .int p0), (2, .ref bo)] := hl
  refine lv_aload_n hx hb dL_append_0 rfl (lv_at hl 2 rfl) ?_
  refine lv_iconst (v := nI 0) hx hb dL_append_1 (by decide) ?_
  refine lv_aload_n hx hb dL_append_2 rfl (lv_at hl 0 rfl) ?_
  refine lv_iload_n hx hb dL_append_3 rfl (lv_at hl 1 rfl) ?_
  refine ipF_V (C := RX6) (n := 1) ⟨hx, hb, hml, hown, hts⟩ hM hS hP hD (IPn.app (mc := 0) (ms := 0) hc [w_o tc bo fo]) gL_append_X6_append rfl (by decide +kernel) ⟨by show fr + 1 ≤ 12; omega, by show 8 + (2 + 11) + lo ≤ 560; omega⟩ (by rw [List.map_append, List.map_append, had]) (va_recv hM.1 hP (ci := 5) (q0 := 0) rfl (by rw [List.getElem?_append_left (List.getElem?_eq_some_iff.mp hw0).1]; exact hw0)) rfl hl.1 rfl (Nat.le_of_ble_eq_true rfl) dL_append_4 ⟨Nat.zero_le _, Nat.zero_le _⟩ (fun H locs hP hD hS => ?_)
  refine W.eq (g2 := F0 m 7 ls [.int r, .int (nI 0), .ref bo]) rfl ?_
  refine lv_i2l (v := r.toInt64) hx hb dL_append_7 rfl ?_
  refine lx_last hx hb hM.1 hP hD hS dL_append_8 (fun H locs hP hD hS => ?_)
  refine lv_goto (tgt := 18) hx hb dL_append_9 (by decide) ?_
  refine lv_iconst (v := nI 0) hx hb dL_append_18 (by decide) ?_
  exact ipn_iret hx hb hr hlk dL_append_19 hS hP (Nat.zero_le _) (Nat.zero_le _)
set_option maxHeartbeats 4000000 in
set_option maxRecDepth 100000 in
theorem l_append_t1 (l : Launch) (D : va_G) (tc : Nat → ClassId) (zb : Nat) {w : va_W} {x0 bo : Nat} {fs : List Value} (fo : Nat → Int64) {fr lo : Nat} {p0 : Int32} (hc : TH l yX6_append wsX6_append fr lo D tc zb w [.ref x0, .int p0] "java/lang/IllegalArgumentException") (hw0 : w[0]? = some (x0, .inr (5, fs))) (hfr : fr ≤ 11) (hlo : lo ≤ 500) : IPn l yL_append wsL_append 12 560 1 6 D tc zb (w ++ [w_o tc bo fo]) (w ++ [w_o tc bo fo]) [.ref x0, .int p0, .ref bo] (some (.int (nI 1))) := by
  refine IPn.ofT (cc := cL_append) (maxL := 4) (ret := some .int) (hh := [(0, 9, 12, 13), (0, 9, 15, 15)]) (by decide) rfl (Nat.le_of_ble_eq_true rfl) ?_
  intro p e s m args below meth c A hx hb hr hml hlk hts hown hex hM hS hP hD ls hl
  have hl : lv_has ls 4 [(0, .ref x0), (1, .int p0), (2, .ref bo)] := hl
  refine lv_aload_n hx hb dL_append_0 rfl (lv_at hl 2 rfl) ?_
  refine lv_iconst (v := nI 0) hx hb dL_append_1 (by decide) ?_
  refine lv_aload_n hx hb dL_append_2 rfl (lv_at hl 0 rfl) ?_
  refine lv_iload_n hx hb dL_append_3 rfl (lv_at hl 1 rfl) ?_
  refine th_VF (C := RX6) (n := 1) ⟨hx, hb, hml, hown, hts⟩ hM hS hP hc gL_append_X6_append rfl (by decide +kernel) ⟨by show fr + 1 ≤ 12; omega, by show 8 + (2 + 11) + lo ≤ 560; omega⟩ (va_recv hM.1 hP (ci := 5) (q0 := 0) rfl (by rw [List.getElem?_append_left (List.getElem?_eq_some_iff.mp hw0).1]; exact hw0)) rfl hl.1 rfl (Nat.le_of_ble_eq_true rfl) dL_append_4 ⟨Nat.le_refl _, Nat.le_refl _⟩ (fun H q ce hP hS h3 h4 h5 => ?_)
  refine vx_catch (own := RL) (name := "java/lang/IllegalArgumentException") (E := "java/lang/IllegalArgumentException") hown [] ⟨0, 9, 12, 13⟩ [⟨0, 9, 15, 15⟩] hex (fun z hz => by cases hz) (by decide) (by decide) (hts (.classLink RL 13 "java/lang/IllegalArgumentException") (by decide +kernel)) (va_Nw.use rfl (hM.2.2.2.2.2.2.2.2.1 ("java/lang/IllegalArgumentException", "java/lang/IllegalArgumentException") (by decide +kernel))) h3 h4 h5 ?_
  refine W.eq (g2 := F0 m 12 ls [.ref q]) rfl ?_
  refine lv_astore_n (lv' := [(3, .ref q), (0, .ref x0), (1, .int p0), (2, .ref bo)]) hx hb dL_append_12 rfl hl (by decide) rfl (fun ls hl => ?_)
  refine lv_iconst (v := nI 1) hx hb dL_append_13 (by decide) ?_
  exact ipn_iret hx hb hr hlk dL_append_14 hS hP (Nat.le_refl _) (Nat.le_refl _)
set_option maxHeartbeats 4000000 in
set_option maxRecDepth 100000 in
theorem l_append_t2 (l : Launch) (D : va_G) (tc : Nat → ClassId) (zb : Nat) {w : va_W} {x0 bo : Nat} {fs : List Value} (fo : Nat → Int64) {fr lo : Nat} {p0 : Int32} (hc : TH l yX6_append wsX6_append fr lo D tc zb w [.ref x0, .int p0] "java/lang/IllegalStateException") (hw0 : w[0]? = some (x0, .inr (5, fs))) (hfr : fr ≤ 11) (hlo : lo ≤ 500) : IPn l yL_append wsL_append 12 560 1 6 D tc zb (w ++ [w_o tc bo fo]) (w ++ [w_o tc bo fo]) [.ref x0, .int p0, .ref bo] (some (.int (nI 2))) := by
  refine IPn.ofT (cc := cL_append) (maxL := 4) (ret := some .int) (hh := [(0, 9, 12, 13), (0, 9, 15, 15)]) (by decide) rfl (Nat.le_of_ble_eq_true rfl) ?_
  intro p e s m args below meth c A hx hb hr hml hlk hts hown hex hM hS hP hD ls hl
  have hl : lv_has ls 4 [(0, .ref x0), (1, .int p0), (2, .ref bo)] := hl
  refine lv_aload_n hx hb dL_append_0 rfl (lv_at hl 2 rfl) ?_
  refine lv_iconst (v := nI 0) hx hb dL_append_1 (by decide) ?_
  refine lv_aload_n hx hb dL_append_2 rfl (lv_at hl 0 rfl) ?_
  refine lv_iload_n hx hb dL_append_3 rfl (lv_at hl 1 rfl) ?_
  refine th_VF (C := RX6) (n := 1) ⟨hx, hb, hml, hown, hts⟩ hM hS hP hc gL_append_X6_append rfl (by decide +kernel) ⟨by show fr + 1 ≤ 12; omega, by show 8 + (2 + 11) + lo ≤ 560; omega⟩ (va_recv hM.1 hP (ci := 5) (q0 := 0) rfl (by rw [List.getElem?_append_left (List.getElem?_eq_some_iff.mp hw0).1]; exact hw0)) rfl hl.1 rfl (Nat.le_of_ble_eq_true rfl) dL_append_4 ⟨Nat.le_refl _, Nat.le_refl _⟩ (fun H q ce hP hS h3 h4 h5 => ?_)
  refine vx_catch (own := RL) (name := "java/lang/IllegalStateException") (E := "java/lang/IllegalStateException") hown [⟨0, 9, 12, 13⟩] ⟨0, 9, 15, 15⟩ [] hex (fun z hz => by rw [List.mem_singleton.mp hz]; exact Or.inr ⟨by decide, "java/lang/IllegalArgumentException", hts (.classLink RL 13 "java/lang/IllegalArgumentException") (by decide +kernel), hM.2.2.2.2.2.2.2.2.2 ("java/lang/IllegalStateException", "java/lang/IllegalArgumentException") (by decide +kernel)⟩) (by decide) (by decide) (hts (.classLink RL 15 "java/lang/IllegalStateException") (by decide +kernel)) (va_Nw.use rfl (hM.2.2.2.2.2.2.2.2.1 ("java/lang/IllegalStateException", "java/lang/IllegalStateException") (by decide +kernel))) h3 h4 h5 ?_
  refine W.eq (g2 := F0 m 15 ls [.ref q]) rfl ?_
  refine lv_astore_n (lv' := [(3, .ref q), (0, .ref x0), (1, .int p0), (2, .ref bo)]) hx hb dL_append_15 rfl hl (by decide) rfl (fun ls hl => ?_)
  refine lv_iconst (v := nI 2) hx hb dL_append_16 (by decide) ?_
  exact ipn_iret hx hb hr hlk dL_append_17 hS hP (Nat.le_refl _) (Nat.le_refl _)
set_option maxHeartbeats 4000000 in
set_option maxRecDepth 100000 in
theorem l_ask_ok (l : Launch) (D : va_G) (tc : Nat → ClassId) (zb : Nat) {w w1 : va_W} {x0 bo : Nat} {fs : List Value} (fo : Nat → Int64) {fr lo : Nat} {p0 : Int32} {r : Int32} (hc : IP l yX6_ask wsX6_ask fr lo D tc zb w w1 [.ref x0, .int p0] (some (.int r))) (hw0 : w[0]? = some (x0, .inr (5, fs))) (had : w1.map Prod.fst = w.map Prod.fst) (hfr : fr ≤ 11) (hlo : lo ≤ 500) : IPn l yL_ask wsL_ask 12 560 1 6 D tc zb (w ++ [w_o tc bo fo]) (w1 ++ [w_o tc bo (vp_updL fo 0 r.toInt64)]) [.ref x0, .int p0, .ref bo] (some (.int (nI 0))) := by
  refine IPn.ofT (cc := cL_ask) (maxL := 4) (ret := some .int) (hh := [(0, 9, 12, 13)]) (by decide) rfl (Nat.le_of_ble_eq_true rfl) ?_
  intro p e s m args below meth c A hx hb hr hml hlk hts hown hex hM hS hP hD ls hl
  have hl : lv_has ls 4 [(0, .ref x0), (1, .int p0), (2, .ref bo)] := hl
  refine lv_aload_n hx hb dL_ask_0 rfl (lv_at hl 2 rfl) ?_
  refine lv_iconst (v := nI 0) hx hb dL_ask_1 (by decide) ?_
  refine lv_aload_n hx hb dL_ask_2 rfl (lv_at hl 0 rfl) ?_
  refine lv_iload_n hx hb dL_ask_3 rfl (lv_at hl 1 rfl) ?_
  refine ipF_V (C := RX6) (n := 1) ⟨hx, hb, hml, hown, hts⟩ hM hS hP hD (IPn.app (mc := 0) (ms := 0) hc [w_o tc bo fo]) gL_ask_X6_ask rfl (by decide +kernel) ⟨by show fr + 1 ≤ 12; omega, by show 8 + (2 + 11) + lo ≤ 560; omega⟩ (by rw [List.map_append, List.map_append, had]) (va_recv hM.1 hP (ci := 5) (q0 := 0) rfl (by rw [List.getElem?_append_left (List.getElem?_eq_some_iff.mp hw0).1]; exact hw0)) rfl hl.1 rfl (Nat.le_of_ble_eq_true rfl) dL_ask_4 ⟨Nat.zero_le _, Nat.zero_le _⟩ (fun H locs hP hD hS => ?_)
  refine W.eq (g2 := F0 m 7 ls [.int r, .int (nI 0), .ref bo]) rfl ?_
  refine lv_i2l (v := r.toInt64) hx hb dL_ask_7 rfl ?_
  refine lx_last hx hb hM.1 hP hD hS dL_ask_8 (fun H locs hP hD hS => ?_)
  refine lv_goto (tgt := 15) hx hb dL_ask_9 (by decide) ?_
  refine lv_iconst (v := nI 0) hx hb dL_ask_15 (by decide) ?_
  exact ipn_iret hx hb hr hlk dL_ask_16 hS hP (Nat.zero_le _) (Nat.zero_le _)
set_option maxHeartbeats 4000000 in
set_option maxRecDepth 100000 in
theorem l_ask_t1 (l : Launch) (D : va_G) (tc : Nat → ClassId) (zb : Nat) {w : va_W} {x0 bo : Nat} {fs : List Value} (fo : Nat → Int64) {fr lo : Nat} {p0 : Int32} (hc : TH l yX6_ask wsX6_ask fr lo D tc zb w [.ref x0, .int p0] "java/lang/IllegalArgumentException") (hw0 : w[0]? = some (x0, .inr (5, fs))) (hfr : fr ≤ 11) (hlo : lo ≤ 500) : IPn l yL_ask wsL_ask 12 560 1 6 D tc zb (w ++ [w_o tc bo fo]) (w ++ [w_o tc bo fo]) [.ref x0, .int p0, .ref bo] (some (.int (nI 1))) := by
  refine IPn.ofT (cc := cL_ask) (maxL := 4) (ret := some .int) (hh := [(0, 9, 12, 13)]) (by decide) rfl (Nat.le_of_ble_eq_true rfl) ?_
  intro p e s m args below meth c A hx hb hr hml hlk hts hown hex hM hS hP hD ls hl
  have hl : lv_has ls 4 [(0, .ref x0), (1, .int p0), (2, .ref bo)] := hl
  refine lv_aload_n hx hb dL_ask_0 rfl (lv_at hl 2 rfl) ?_
  refine lv_iconst (v := nI 0) hx hb dL_ask_1 (by decide) ?_
  refine lv_aload_n hx hb dL_ask_2 rfl (lv_at hl 0 rfl) ?_
  refine lv_iload_n hx hb dL_ask_3 rfl (lv_at hl 1 rfl) ?_
  refine th_VF (C := RX6) (n := 1) ⟨hx, hb, hml, hown, hts⟩ hM hS hP hc gL_ask_X6_ask rfl (by decide +kernel) ⟨by show fr + 1 ≤ 12; omega, by show 8 + (2 + 11) + lo ≤ 560; omega⟩ (va_recv hM.1 hP (ci := 5) (q0 := 0) rfl (by rw [List.getElem?_append_left (List.getElem?_eq_some_iff.mp hw0).1]; exact hw0)) rfl hl.1 rfl (Nat.le_of_ble_eq_true rfl) dL_ask_4 ⟨Nat.le_refl _, Nat.le_refl _⟩ (fun H q ce hP hS h3 h4 h5 => ?_)
  refine vx_catch (own := RL) (name := "java/lang/IllegalArgumentException") (E := "java/lang/IllegalArgumentException") hown [] ⟨0, 9, 12, 13⟩ [] hex (fun z hz => by cases hz) (by decide) (by decide) (hts (.classLink RL 13 "java/lang/IllegalArgumentException") (by decide +kernel)) (va_Nw.use rfl (hM.2.2.2.2.2.2.2.2.1 ("java/lang/IllegalArgumentException", "java/lang/IllegalArgumentException") (by decide +kernel))) h3 h4 h5 ?_
  refine W.eq (g2 := F0 m 12 ls [.ref q]) rfl ?_
  refine lv_astore_n (lv' := [(3, .ref q), (0, .ref x0), (1, .int p0), (2, .ref bo)]) hx hb dL_ask_12 rfl hl (by decide) rfl (fun ls hl => ?_)
  refine lv_iconst (v := nI 1) hx hb dL_ask_13 (by decide) ?_
  exact ipn_iret hx hb hr hlk dL_ask_14 hS hP (Nat.le_refl _) (Nat.le_refl _)
set_option maxHeartbeats 4000000 in
set_option maxRecDepth 100000 in
theorem l_build_ok (l : Launch) (D : va_G) (tc : Nat → ClassId) (zb : Nat) {w w1 : va_W} {x0 bo : Nat} {fs : List Value} (fo : Nat → Int64) {fr lo : Nat} {p0 : Int32} {r : Int32} (hc : IP l yX6_build wsX6_build fr lo D tc zb w w1 [.ref x0, .int p0] (some (.int r))) (hw0 : w[0]? = some (x0, .inr (5, fs))) (had : w1.map Prod.fst = w.map Prod.fst) (hfr : fr ≤ 11) (hlo : lo ≤ 500) : IPn l yL_build wsL_build 12 560 1 6 D tc zb (w ++ [w_o tc bo fo]) (w1 ++ [w_o tc bo (vp_updL fo 0 r.toInt64)]) [.ref x0, .int p0, .ref bo] (some (.int (nI 0))) := by
  refine IPn.ofT (cc := cL_build) (maxL := 4) (ret := some .int) (hh := [(0, 9, 12, 28), (0, 9, 15, 15)]) (by decide) rfl (Nat.le_of_ble_eq_true rfl) ?_
  intro p e s m args below meth c A hx hb hr hml hlk hts hown hex hM hS hP hD ls hl
  have hl : lv_has ls 4 [(0, .ref x0), (1, .int p0), (2, .ref bo)] := hl
  refine lv_aload_n hx hb dL_build_0 rfl (lv_at hl 2 rfl) ?_
  refine lv_iconst (v := nI 0) hx hb dL_build_1 (by decide) ?_
  refine lv_aload_n hx hb dL_build_2 rfl (lv_at hl 0 rfl) ?_
  refine lv_iload_n hx hb dL_build_3 rfl (lv_at hl 1 rfl) ?_
  refine ipF_V (C := RX6) (n := 1) ⟨hx, hb, hml, hown, hts⟩ hM hS hP hD (IPn.app (mc := 0) (ms := 0) hc [w_o tc bo fo]) gL_build_X6_build rfl (by decide +kernel) ⟨by show fr + 1 ≤ 12; omega, by show 8 + (2 + 11) + lo ≤ 560; omega⟩ (by rw [List.map_append, List.map_append, had]) (va_recv hM.1 hP (ci := 5) (q0 := 0) rfl (by rw [List.getElem?_append_left (List.getElem?_eq_some_iff.mp hw0).1]; exact hw0)) rfl hl.1 rfl (Nat.le_of_ble_eq_true rfl) dL_build_4 ⟨Nat.zero_le _, Nat.zero_le _⟩ (fun H locs hP hD hS => ?_)
  refine W.eq (g2 := F0 m 7 ls [.int r, .int (nI 0), .ref bo]) rfl ?_
  refine lv_i2l (v := r.toInt64) hx hb dL_build_7 rfl ?_
  refine lx_last hx hb hM.1 hP hD hS dL_build_8 (fun H locs hP hD hS => ?_)
  refine lv_goto (tgt := 18) hx hb dL_build_9 (by decide) ?_
  refine lv_iconst (v := nI 0) hx hb dL_build_18 (by decide) ?_
  exact ipn_iret hx hb hr hlk dL_build_19 hS hP (Nat.zero_le _) (Nat.zero_le _)
set_option maxHeartbeats 4000000 in
set_option maxRecDepth 100000 in
theorem l_build_t1 (l : Launch) (D : va_G) (tc : Nat → ClassId) (zb : Nat) {w : va_W} {x0 bo : Nat} {fs : List Value} (fo : Nat → Int64) {fr lo : Nat} {p0 : Int32} (hc : TH l yX6_build wsX6_build fr lo D tc zb w [.ref x0, .int p0] "java/lang/IndexOutOfBoundsException") (hw0 : w[0]? = some (x0, .inr (5, fs))) (hfr : fr ≤ 11) (hlo : lo ≤ 500) : IPn l yL_build wsL_build 12 560 1 6 D tc zb (w ++ [w_o tc bo fo]) (w ++ [w_o tc bo fo]) [.ref x0, .int p0, .ref bo] (some (.int (nI 1))) := by
  refine IPn.ofT (cc := cL_build) (maxL := 4) (ret := some .int) (hh := [(0, 9, 12, 28), (0, 9, 15, 15)]) (by decide) rfl (Nat.le_of_ble_eq_true rfl) ?_
  intro p e s m args below meth c A hx hb hr hml hlk hts hown hex hM hS hP hD ls hl
  have hl : lv_has ls 4 [(0, .ref x0), (1, .int p0), (2, .ref bo)] := hl
  refine lv_aload_n hx hb dL_build_0 rfl (lv_at hl 2 rfl) ?_
  refine lv_iconst (v := nI 0) hx hb dL_build_1 (by decide) ?_
  refine lv_aload_n hx hb dL_build_2 rfl (lv_at hl 0 rfl) ?_
  refine lv_iload_n hx hb dL_build_3 rfl (lv_at hl 1 rfl) ?_
  refine th_VF (C := RX6) (n := 1) ⟨hx, hb, hml, hown, hts⟩ hM hS hP hc gL_build_X6_build rfl (by decide +kernel) ⟨by show fr + 1 ≤ 12; omega, by show 8 + (2 + 11) + lo ≤ 560; omega⟩ (va_recv hM.1 hP (ci := 5) (q0 := 0) rfl (by rw [List.getElem?_append_left (List.getElem?_eq_some_iff.mp hw0).1]; exact hw0)) rfl hl.1 rfl (Nat.le_of_ble_eq_true rfl) dL_build_4 ⟨Nat.le_refl _, Nat.le_refl _⟩ (fun H q ce hP hS h3 h4 h5 => ?_)
  refine vx_catch (own := RL) (name := "java/lang/IndexOutOfBoundsException") (E := "java/lang/IndexOutOfBoundsException") hown [] ⟨0, 9, 12, 28⟩ [⟨0, 9, 15, 15⟩] hex (fun z hz => by cases hz) (by decide) (by decide) (hts (.classLink RL 28 "java/lang/IndexOutOfBoundsException") (by decide +kernel)) (va_Nw.use rfl (hM.2.2.2.2.2.2.2.2.1 ("java/lang/IndexOutOfBoundsException", "java/lang/IndexOutOfBoundsException") (by decide +kernel))) h3 h4 h5 ?_
  refine W.eq (g2 := F0 m 12 ls [.ref q]) rfl ?_
  refine lv_astore_n (lv' := [(3, .ref q), (0, .ref x0), (1, .int p0), (2, .ref bo)]) hx hb dL_build_12 rfl hl (by decide) rfl (fun ls hl => ?_)
  refine lv_iconst (v := nI 1) hx hb dL_build_13 (by decide) ?_
  exact ipn_iret hx hb hr hlk dL_build_14 hS hP (Nat.le_refl _) (Nat.le_refl _)
set_option maxHeartbeats 4000000 in
set_option maxRecDepth 100000 in
theorem l_build_t2 (l : Launch) (D : va_G) (tc : Nat → ClassId) (zb : Nat) {w : va_W} {x0 bo : Nat} {fs : List Value} (fo : Nat → Int64) {fr lo : Nat} {p0 : Int32} (hc : TH l yX6_build wsX6_build fr lo D tc zb w [.ref x0, .int p0] "java/lang/IllegalStateException") (hw0 : w[0]? = some (x0, .inr (5, fs))) (hfr : fr ≤ 11) (hlo : lo ≤ 500) : IPn l yL_build wsL_build 12 560 1 6 D tc zb (w ++ [w_o tc bo fo]) (w ++ [w_o tc bo fo]) [.ref x0, .int p0, .ref bo] (some (.int (nI 2))) := by
  refine IPn.ofT (cc := cL_build) (maxL := 4) (ret := some .int) (hh := [(0, 9, 12, 28), (0, 9, 15, 15)]) (by decide) rfl (Nat.le_of_ble_eq_true rfl) ?_
  intro p e s m args below meth c A hx hb hr hml hlk hts hown hex hM hS hP hD ls hl
  have hl : lv_has ls 4 [(0, .ref x0), (1, .int p0), (2, .ref bo)] := hl
  refine lv_aload_n hx hb dL_build_0 rfl (lv_at hl 2 rfl) ?_
  refine lv_iconst (v := nI 0) hx hb dL_build_1 (by decide) ?_
  refine lv_aload_n hx hb dL_build_2 rfl (lv_at hl 0 rfl) ?_
  refine lv_iload_n hx hb dL_build_3 rfl (lv_at hl 1 rfl) ?_
  refine th_VF (C := RX6) (n := 1) ⟨hx, hb, hml, hown, hts⟩ hM hS hP hc gL_build_X6_build rfl (by decide +kernel) ⟨by show fr + 1 ≤ 12; omega, by show 8 + (2 + 11) + lo ≤ 560; omega⟩ (va_recv hM.1 hP (ci := 5) (q0 := 0) rfl (by rw [List.getElem?_append_left (List.getElem?_eq_some_iff.mp hw0).1]; exact hw0)) rfl hl.1 rfl (Nat.le_of_ble_eq_true rfl) dL_build_4 ⟨Nat.le_refl _, Nat.le_refl _⟩ (fun H q ce hP hS h3 h4 h5 => ?_)
  refine vx_catch (own := RL) (name := "java/lang/IllegalStateException") (E := "java/lang/IllegalStateException") hown [⟨0, 9, 12, 28⟩] ⟨0, 9, 15, 15⟩ [] hex (fun z hz => by rw [List.mem_singleton.mp hz]; exact Or.inr ⟨by decide, "java/lang/IndexOutOfBoundsException", hts (.classLink RL 28 "java/lang/IndexOutOfBoundsException") (by decide +kernel), hM.2.2.2.2.2.2.2.2.2 ("java/lang/IllegalStateException", "java/lang/IndexOutOfBoundsException") (by decide +kernel)⟩) (by decide) (by decide) (hts (.classLink RL 15 "java/lang/IllegalStateException") (by decide +kernel)) (va_Nw.use rfl (hM.2.2.2.2.2.2.2.2.1 ("java/lang/IllegalStateException", "java/lang/IllegalStateException") (by decide +kernel))) h3 h4 h5 ?_
  refine W.eq (g2 := F0 m 15 ls [.ref q]) rfl ?_
  refine lv_astore_n (lv' := [(3, .ref q), (0, .ref x0), (1, .int p0), (2, .ref bo)]) hx hb dL_build_15 rfl hl (by decide) rfl (fun ls hl => ?_)
  refine lv_iconst (v := nI 2) hx hb dL_build_16 (by decide) ?_
  exact ipn_iret hx hb hr hlk dL_build_17 hS hP (Nat.le_refl _) (Nat.le_refl _)
set_option maxHeartbeats 4000000 in
set_option maxRecDepth 100000 in
theorem l_by_ok (l : Launch) (D : va_G) (tc : Nat → ClassId) (zb : Nat) {w w1 : va_W} {x0 bo : Nat} {fs : List Value} (fo : Nat → Int64) {fr lo : Nat} {p0 : Int32} {r : Int32} (hc : IP l yX6_by wsX6_by fr lo D tc zb w w1 [.ref x0, .int p0] (some (.int r))) (hw0 : w[0]? = some (x0, .inr (5, fs))) (had : w1.map Prod.fst = w.map Prod.fst) (hfr : fr ≤ 11) (hlo : lo ≤ 500) : IPn l yL_by wsL_by 12 560 1 6 D tc zb (w ++ [w_o tc bo fo]) (w1 ++ [w_o tc bo (vp_updL fo 0 r.toInt64)]) [.ref x0, .int p0, .ref bo] (some (.int (nI 0))) := by
  refine IPn.ofT (cc := cL_by) (maxL := 4) (ret := some .int) (hh := [(0, 9, 12, 13)]) (by decide) rfl (Nat.le_of_ble_eq_true rfl) ?_
  intro p e s m args below meth c A hx hb hr hml hlk hts hown hex hM hS hP hD ls hl
  have hl : lv_has ls 4 [(0, .ref x0), (1, .int p0), (2, .ref bo)] := hl
  refine lv_aload_n hx hb dL_by_0 rfl (lv_at hl 2 rfl) ?_
  refine lv_iconst (v := nI 0) hx hb dL_by_1 (by decide) ?_
  refine lv_aload_n hx hb dL_by_2 rfl (lv_at hl 0 rfl) ?_
  refine lv_iload_n hx hb dL_by_3 rfl (lv_at hl 1 rfl) ?_
  refine ipF_V (C := RX6) (n := 1) ⟨hx, hb, hml, hown, hts⟩ hM hS hP hD (IPn.app (mc := 0) (ms := 0) hc [w_o tc bo fo]) gL_by_X6_by rfl (by decide +kernel) ⟨by show fr + 1 ≤ 12; omega, by show 8 + (2 + 11) + lo ≤ 560; omega⟩ (by rw [List.map_append, List.map_append, had]) (va_recv hM.1 hP (ci := 5) (q0 := 0) rfl (by rw [List.getElem?_append_left (List.getElem?_eq_some_iff.mp hw0).1]; exact hw0)) rfl hl.1 rfl (Nat.le_of_ble_eq_true rfl) dL_by_4 ⟨Nat.zero_le _, Nat.zero_le _⟩ (fun H locs hP hD hS => ?_)
  refine W.eq (g2 := F0 m 7 ls [.int r, .int (nI 0), .ref bo]) rfl ?_
  refine lv_i2l (v := r.toInt64) hx hb dL_by_7 rfl ?_
  refine lx_last hx hb hM.1 hP hD hS dL_by_8 (fun H locs hP hD hS => ?_)
  refine lv_goto (tgt := 15) hx hb dL_by_9 (by decide) ?_
  refine lv_iconst (v := nI 0) hx hb dL_by_15 (by decide) ?_
  exact ipn_iret hx hb hr hlk dL_by_16 hS hP (Nat.zero_le _) (Nat.zero_le _)
set_option maxHeartbeats 4000000 in
set_option maxRecDepth 100000 in
theorem l_by_t1 (l : Launch) (D : va_G) (tc : Nat → ClassId) (zb : Nat) {w : va_W} {x0 bo : Nat} {fs : List Value} (fo : Nat → Int64) {fr lo : Nat} {p0 : Int32} (hc : TH l yX6_by wsX6_by fr lo D tc zb w [.ref x0, .int p0] "java/lang/IllegalArgumentException") (hw0 : w[0]? = some (x0, .inr (5, fs))) (hfr : fr ≤ 11) (hlo : lo ≤ 500) : IPn l yL_by wsL_by 12 560 1 6 D tc zb (w ++ [w_o tc bo fo]) (w ++ [w_o tc bo fo]) [.ref x0, .int p0, .ref bo] (some (.int (nI 1))) := by
  refine IPn.ofT (cc := cL_by) (maxL := 4) (ret := some .int) (hh := [(0, 9, 12, 13)]) (by decide) rfl (Nat.le_of_ble_eq_true rfl) ?_
  intro p e s m args below meth c A hx hb hr hml hlk hts hown hex hM hS hP hD ls hl
  have hl : lv_has ls 4 [(0, .ref x0), (1, .int p0), (2, .ref bo)] := hl
  refine lv_aload_n hx hb dL_by_0 rfl (lv_at hl 2 rfl) ?_
  refine lv_iconst (v := nI 0) hx hb dL_by_1 (by decide) ?_
  refine lv_aload_n hx hb dL_by_2 rfl (lv_at hl 0 rfl) ?_
  refine lv_iload_n hx hb dL_by_3 rfl (lv_at hl 1 rfl) ?_
  refine th_VF (C := RX6) (n := 1) ⟨hx, hb, hml, hown, hts⟩ hM hS hP hc gL_by_X6_by rfl (by decide +kernel) ⟨by show fr + 1 ≤ 12; omega, by show 8 + (2 + 11) + lo ≤ 560; omega⟩ (va_recv hM.1 hP (ci := 5) (q0 := 0) rfl (by rw [List.getElem?_append_left (List.getElem?_eq_some_iff.mp hw0).1]; exact hw0)) rfl hl.1 rfl (Nat.le_of_ble_eq_true rfl) dL_by_4 ⟨Nat.le_refl _, Nat.le_refl _⟩ (fun H q ce hP hS h3 h4 h5 => ?_)
  refine vx_catch (own := RL) (name := "java/lang/IllegalArgumentException") (E := "java/lang/IllegalArgumentException") hown [] ⟨0, 9, 12, 13⟩ [] hex (fun z hz => by cases hz) (by decide) (by decide) (hts (.classLink RL 13 "java/lang/IllegalArgumentException") (by decide +kernel)) (va_Nw.use rfl (hM.2.2.2.2.2.2.2.2.1 ("java/lang/IllegalArgumentException", "java/lang/IllegalArgumentException") (by decide +kernel))) h3 h4 h5 ?_
  refine W.eq (g2 := F0 m 12 ls [.ref q]) rfl ?_
  refine lv_astore_n (lv' := [(3, .ref q), (0, .ref x0), (1, .int p0), (2, .ref bo)]) hx hb dL_by_12 rfl hl (by decide) rfl (fun ls hl => ?_)
  refine lv_iconst (v := nI 1) hx hb dL_by_13 (by decide) ?_
  exact ipn_iret hx hb hr hlk dL_by_14 hS hP (Nat.le_refl _) (Nat.le_refl _)
set_option maxHeartbeats 4000000 in
set_option maxRecDepth 100000 in
theorem l_cost_ok (l : Launch) (D : va_G) (tc : Nat → ClassId) (zb : Nat) {w w1 : va_W} {x0 bo : Nat} {fs : List Value} (fo : Nat → Int64) {fr lo : Nat} {p0 : Int32} {p1 : Int32} {r : Int32} (hc : IP l yX6_cost wsX6_cost fr lo D tc zb w w1 [.ref x0, .int p0, .int p1] (some (.int r))) (hw0 : w[0]? = some (x0, .inr (5, fs))) (had : w1.map Prod.fst = w.map Prod.fst) (hfr : fr ≤ 11) (hlo : lo ≤ 500) : IPn l yL_cost wsL_cost 12 560 1 6 D tc zb (w ++ [w_o tc bo fo]) (w1 ++ [w_o tc bo (vp_updL fo 0 r.toInt64)]) [.ref x0, .int p0, .int p1, .ref bo] (some (.int (nI 0))) := by
  refine IPn.ofT (cc := cL_cost) (maxL := 5) (ret := some .int) (hh := [(0, 10, 13, 13), (0, 10, 17, 28)]) (by decide) rfl (Nat.le_of_ble_eq_true rfl) ?_
  intro p e s m args below meth c A hx hb hr hml hlk hts hown hex hM hS hP hD ls hl
  have hl : lv_has ls 5 [(0, .ref x0), (1, .int p0), (2, .int p1), (3, .ref bo)] := hl
  refine lv_aload_n hx hb dL_cost_0 rfl (lv_at hl 3 rfl) ?_
  refine lv_iconst (v := nI 0) hx hb dL_cost_1 (by decide) ?_
  refine lv_aload_n hx hb dL_cost_2 rfl (lv_at hl 0 rfl) ?_
  refine lv_iload_n hx hb dL_cost_3 rfl (lv_at hl 1 rfl) ?_
  refine lv_iload_n hx hb dL_cost_4 rfl (lv_at hl 2 rfl) ?_
  refine ipF_V (C := RX6) (n := 2) ⟨hx, hb, hml, hown, hts⟩ hM hS hP hD (IPn.app (mc := 0) (ms := 0) hc [w_o tc bo fo]) gL_cost_X6_cost rfl (by decide +kernel) ⟨by show fr + 1 ≤ 12; omega, by show 8 + (3 + 11) + lo ≤ 560; omega⟩ (by rw [List.map_append, List.map_append, had]) (va_recv hM.1 hP (ci := 5) (q0 := 0) rfl (by rw [List.getElem?_append_left (List.getElem?_eq_some_iff.mp hw0).1]; exact hw0)) rfl hl.1 rfl (Nat.le_of_ble_eq_true rfl) dL_cost_5 ⟨Nat.zero_le _, Nat.zero_le _⟩ (fun H locs hP hD hS => ?_)
  refine W.eq (g2 := F0 m 8 ls [.int r, .int (nI 0), .ref bo]) rfl ?_
  refine lv_i2l (v := r.toInt64) hx hb dL_cost_8 rfl ?_
  refine lx_last hx hb hM.1 hP hD hS dL_cost_9 (fun H locs hP hD hS => ?_)
  refine lv_goto (tgt := 21) hx hb dL_cost_10 (by decide) ?_
  refine lv_iconst (v := nI 0) hx hb dL_cost_21 (by decide) ?_
  exact ipn_iret hx hb hr hlk dL_cost_22 hS hP (Nat.zero_le _) (Nat.zero_le _)
set_option maxHeartbeats 4000000 in
set_option maxRecDepth 100000 in
theorem l_cost_t1 (l : Launch) (D : va_G) (tc : Nat → ClassId) (zb : Nat) {w : va_W} {x0 bo : Nat} {fs : List Value} (fo : Nat → Int64) {fr lo : Nat} {p0 : Int32} {p1 : Int32} (hc : TH l yX6_cost wsX6_cost fr lo D tc zb w [.ref x0, .int p0, .int p1] "java/lang/IllegalArgumentException") (hw0 : w[0]? = some (x0, .inr (5, fs))) (hfr : fr ≤ 11) (hlo : lo ≤ 500) : IPn l yL_cost wsL_cost 12 560 1 6 D tc zb (w ++ [w_o tc bo fo]) (w ++ [w_o tc bo fo]) [.ref x0, .int p0, .int p1, .ref bo] (some (.int (nI 1))) := by
  refine IPn.ofT (cc := cL_cost) (maxL := 5) (ret := some .int) (hh := [(0, 10, 13, 13), (0, 10, 17, 28)]) (by decide) rfl (Nat.le_of_ble_eq_true rfl) ?_
  intro p e s m args below meth c A hx hb hr hml hlk hts hown hex hM hS hP hD ls hl
  have hl : lv_has ls 5 [(0, .ref x0), (1, .int p0), (2, .int p1), (3, .ref bo)] := hl
  refine lv_aload_n hx hb dL_cost_0 rfl (lv_at hl 3 rfl) ?_
  refine lv_iconst (v := nI 0) hx hb dL_cost_1 (by decide) ?_
  refine lv_aload_n hx hb dL_cost_2 rfl (lv_at hl 0 rfl) ?_
  refine lv_iload_n hx hb dL_cost_3 rfl (lv_at hl 1 rfl) ?_
  refine lv_iload_n hx hb dL_cost_4 rfl (lv_at hl 2 rfl) ?_
  refine th_VF (C := RX6) (n := 2) ⟨hx, hb, hml, hown, hts⟩ hM hS hP hc gL_cost_X6_cost rfl (by decide +kernel) ⟨by show fr + 1 ≤ 12; omega, by show 8 + (3 + 11) + lo ≤ 560; omega⟩ (va_recv hM.1 hP (ci := 5) (q0 := 0) rfl (by rw [List.getElem?_append_left (List.getElem?_eq_some_iff.mp hw0).1]; exact hw0)) rfl hl.1 rfl (Nat.le_of_ble_eq_true rfl) dL_cost_5 ⟨Nat.le_refl _, Nat.le_refl _⟩ (fun H q ce hP hS h3 h4 h5 => ?_)
  refine vx_catch (own := RL) (name := "java/lang/IllegalArgumentException") (E := "java/lang/IllegalArgumentException") hown [] ⟨0, 10, 13, 13⟩ [⟨0, 10, 17, 28⟩] hex (fun z hz => by cases hz) (by decide) (by decide) (hts (.classLink RL 13 "java/lang/IllegalArgumentException") (by decide +kernel)) (va_Nw.use rfl (hM.2.2.2.2.2.2.2.2.1 ("java/lang/IllegalArgumentException", "java/lang/IllegalArgumentException") (by decide +kernel))) h3 h4 h5 ?_
  refine W.eq (g2 := F0 m 13 ls [.ref q]) rfl ?_
  refine lv_astore (lv' := [(4, .ref q), (0, .ref x0), (1, .int p0), (2, .int p1), (3, .ref bo)]) hx hb dL_cost_13 hl (by decide) rfl (fun ls hl => ?_)
  refine lv_iconst (v := nI 1) hx hb dL_cost_15 (by decide) ?_
  exact ipn_iret hx hb hr hlk dL_cost_16 hS hP (Nat.le_refl _) (Nat.le_refl _)
set_option maxHeartbeats 4000000 in
set_option maxRecDepth 100000 in
theorem l_cost_t2 (l : Launch) (D : va_G) (tc : Nat → ClassId) (zb : Nat) {w : va_W} {x0 bo : Nat} {fs : List Value} (fo : Nat → Int64) {fr lo : Nat} {p0 : Int32} {p1 : Int32} (hc : TH l yX6_cost wsX6_cost fr lo D tc zb w [.ref x0, .int p0, .int p1] "java/lang/IndexOutOfBoundsException") (hw0 : w[0]? = some (x0, .inr (5, fs))) (hfr : fr ≤ 11) (hlo : lo ≤ 500) : IPn l yL_cost wsL_cost 12 560 1 6 D tc zb (w ++ [w_o tc bo fo]) (w ++ [w_o tc bo fo]) [.ref x0, .int p0, .int p1, .ref bo] (some (.int (nI 2))) := by
  refine IPn.ofT (cc := cL_cost) (maxL := 5) (ret := some .int) (hh := [(0, 10, 13, 13), (0, 10, 17, 28)]) (by decide) rfl (Nat.le_of_ble_eq_true rfl) ?_
  intro p e s m args below meth c A hx hb hr hml hlk hts hown hex hM hS hP hD ls hl
  have hl : lv_has ls 5 [(0, .ref x0), (1, .int p0), (2, .int p1), (3, .ref bo)] := hl
  refine lv_aload_n hx hb dL_cost_0 rfl (lv_at hl 3 rfl) ?_
  refine lv_iconst (v := nI 0) hx hb dL_cost_1 (by decide) ?_
  refine lv_aload_n hx hb dL_cost_2 rfl (lv_at hl 0 rfl) ?_
  refine lv_iload_n hx hb dL_cost_3 rfl (lv_at hl 1 rfl) ?_
  refine lv_iload_n hx hb dL_cost_4 rfl (lv_at hl 2 rfl) ?_
  refine th_VF (C := RX6) (n := 2) ⟨hx, hb, hml, hown, hts⟩ hM hS hP hc gL_cost_X6_cost rfl (by decide +kernel) ⟨by show fr + 1 ≤ 12; omega, by show 8 + (3 + 11) + lo ≤ 560; omega⟩ (va_recv hM.1 hP (ci := 5) (q0 := 0) rfl (by rw [List.getElem?_append_left (List.getElem?_eq_some_iff.mp hw0).1]; exact hw0)) rfl hl.1 rfl (Nat.le_of_ble_eq_true rfl) dL_cost_5 ⟨Nat.le_refl _, Nat.le_refl _⟩ (fun H q ce hP hS h3 h4 h5 => ?_)
  refine vx_catch (own := RL) (name := "java/lang/IndexOutOfBoundsException") (E := "java/lang/IndexOutOfBoundsException") hown [⟨0, 10, 13, 13⟩] ⟨0, 10, 17, 28⟩ [] hex (fun z hz => by rw [List.mem_singleton.mp hz]; exact Or.inr ⟨by decide, "java/lang/IllegalArgumentException", hts (.classLink RL 13 "java/lang/IllegalArgumentException") (by decide +kernel), hM.2.2.2.2.2.2.2.2.2 ("java/lang/IndexOutOfBoundsException", "java/lang/IllegalArgumentException") (by decide +kernel)⟩) (by decide) (by decide) (hts (.classLink RL 28 "java/lang/IndexOutOfBoundsException") (by decide +kernel)) (va_Nw.use rfl (hM.2.2.2.2.2.2.2.2.1 ("java/lang/IndexOutOfBoundsException", "java/lang/IndexOutOfBoundsException") (by decide +kernel))) h3 h4 h5 ?_
  refine W.eq (g2 := F0 m 17 ls [.ref q]) rfl ?_
  refine lv_astore (lv' := [(4, .ref q), (0, .ref x0), (1, .int p0), (2, .int p1), (3, .ref bo)]) hx hb dL_cost_17 hl (by decide) rfl (fun ls hl => ?_)
  refine lv_iconst (v := nI 2) hx hb dL_cost_19 (by decide) ?_
  exact ipn_iret hx hb hr hlk dL_cost_20 hS hP (Nat.le_refl _) (Nat.le_refl _)
set_option maxHeartbeats 4000000 in
set_option maxRecDepth 100000 in
theorem l_count_ok (l : Launch) (D : va_G) (tc : Nat → ClassId) (zb : Nat) {w w1 : va_W} {x0 bo : Nat} {fs : List Value} (fo : Nat → Int64) {fr lo : Nat} {p0 : Int32} {r : Int32} (hc : IP l yX6_count wsX6_count fr lo D tc zb w w1 [.ref x0, .int p0] (some (.int r))) (hw0 : w[0]? = some (x0, .inr (5, fs))) (had : w1.map Prod.fst = w.map Prod.fst) (hfr : fr ≤ 11) (hlo : lo ≤ 500) : IPn l yL_count wsL_count 12 560 1 6 D tc zb (w ++ [w_o tc bo fo]) (w1 ++ [w_o tc bo (vp_updL fo 0 r.toInt64)]) [.ref x0, .int p0, .ref bo] (some (.int (nI 0))) := by
  refine IPn.ofT (cc := cL_count) (maxL := 4) (ret := some .int) (hh := [(0, 9, 12, 13)]) (by decide) rfl (Nat.le_of_ble_eq_true rfl) ?_
  intro p e s m args below meth c A hx hb hr hml hlk hts hown hex hM hS hP hD ls hl
  have hl : lv_has ls 4 [(0, .ref x0), (1, .int p0), (2, .ref bo)] := hl
  refine lv_aload_n hx hb dL_count_0 rfl (lv_at hl 2 rfl) ?_
  refine lv_iconst (v := nI 0) hx hb dL_count_1 (by decide) ?_
  refine lv_aload_n hx hb dL_count_2 rfl (lv_at hl 0 rfl) ?_
  refine lv_iload_n hx hb dL_count_3 rfl (lv_at hl 1 rfl) ?_
  refine ipF_V (C := RX6) (n := 1) ⟨hx, hb, hml, hown, hts⟩ hM hS hP hD (IPn.app (mc := 0) (ms := 0) hc [w_o tc bo fo]) gL_count_X6_count rfl (by decide +kernel) ⟨by show fr + 1 ≤ 12; omega, by show 8 + (2 + 11) + lo ≤ 560; omega⟩ (by rw [List.map_append, List.map_append, had]) (va_recv hM.1 hP (ci := 5) (q0 := 0) rfl (by rw [List.getElem?_append_left (List.getElem?_eq_some_iff.mp hw0).1]; exact hw0)) rfl hl.1 rfl (Nat.le_of_ble_eq_true rfl) dL_count_4 ⟨Nat.zero_le _, Nat.zero_le _⟩ (fun H locs hP hD hS => ?_)
  refine W.eq (g2 := F0 m 7 ls [.int r, .int (nI 0), .ref bo]) rfl ?_
  refine lv_i2l (v := r.toInt64) hx hb dL_count_7 rfl ?_
  refine lx_last hx hb hM.1 hP hD hS dL_count_8 (fun H locs hP hD hS => ?_)
  refine lv_goto (tgt := 15) hx hb dL_count_9 (by decide) ?_
  refine lv_iconst (v := nI 0) hx hb dL_count_15 (by decide) ?_
  exact ipn_iret hx hb hr hlk dL_count_16 hS hP (Nat.zero_le _) (Nat.zero_le _)
set_option maxHeartbeats 4000000 in
set_option maxRecDepth 100000 in
theorem l_count_t1 (l : Launch) (D : va_G) (tc : Nat → ClassId) (zb : Nat) {w : va_W} {x0 bo : Nat} {fs : List Value} (fo : Nat → Int64) {fr lo : Nat} {p0 : Int32} (hc : TH l yX6_count wsX6_count fr lo D tc zb w [.ref x0, .int p0] "java/lang/IllegalArgumentException") (hw0 : w[0]? = some (x0, .inr (5, fs))) (hfr : fr ≤ 11) (hlo : lo ≤ 500) : IPn l yL_count wsL_count 12 560 1 6 D tc zb (w ++ [w_o tc bo fo]) (w ++ [w_o tc bo fo]) [.ref x0, .int p0, .ref bo] (some (.int (nI 1))) := by
  refine IPn.ofT (cc := cL_count) (maxL := 4) (ret := some .int) (hh := [(0, 9, 12, 13)]) (by decide) rfl (Nat.le_of_ble_eq_true rfl) ?_
  intro p e s m args below meth c A hx hb hr hml hlk hts hown hex hM hS hP hD ls hl
  have hl : lv_has ls 4 [(0, .ref x0), (1, .int p0), (2, .ref bo)] := hl
  refine lv_aload_n hx hb dL_count_0 rfl (lv_at hl 2 rfl) ?_
  refine lv_iconst (v := nI 0) hx hb dL_count_1 (by decide) ?_
  refine lv_aload_n hx hb dL_count_2 rfl (lv_at hl 0 rfl) ?_
  refine lv_iload_n hx hb dL_count_3 rfl (lv_at hl 1 rfl) ?_
  refine th_VF (C := RX6) (n := 1) ⟨hx, hb, hml, hown, hts⟩ hM hS hP hc gL_count_X6_count rfl (by decide +kernel) ⟨by show fr + 1 ≤ 12; omega, by show 8 + (2 + 11) + lo ≤ 560; omega⟩ (va_recv hM.1 hP (ci := 5) (q0 := 0) rfl (by rw [List.getElem?_append_left (List.getElem?_eq_some_iff.mp hw0).1]; exact hw0)) rfl hl.1 rfl (Nat.le_of_ble_eq_true rfl) dL_count_4 ⟨Nat.le_refl _, Nat.le_refl _⟩ (fun H q ce hP hS h3 h4 h5 => ?_)
  refine vx_catch (own := RL) (name := "java/lang/IllegalArgumentException") (E := "java/lang/IllegalArgumentException") hown [] ⟨0, 9, 12, 13⟩ [] hex (fun z hz => by cases hz) (by decide) (by decide) (hts (.classLink RL 13 "java/lang/IllegalArgumentException") (by decide +kernel)) (va_Nw.use rfl (hM.2.2.2.2.2.2.2.2.1 ("java/lang/IllegalArgumentException", "java/lang/IllegalArgumentException") (by decide +kernel))) h3 h4 h5 ?_
  refine W.eq (g2 := F0 m 12 ls [.ref q]) rfl ?_
  refine lv_astore_n (lv' := [(3, .ref q), (0, .ref x0), (1, .int p0), (2, .ref bo)]) hx hb dL_count_12 rfl hl (by decide) rfl (fun ls hl => ?_)
  refine lv_iconst (v := nI 1) hx hb dL_count_13 (by decide) ?_
  exact ipn_iret hx hb hr hlk dL_count_14 hS hP (Nat.le_refl _) (Nat.le_refl _)
set_option maxHeartbeats 4000000 in
set_option maxRecDepth 100000 in
theorem l_drop_ok (l : Launch) (D : va_G) (tc : Nat → ClassId) (zb : Nat) {w w1 : va_W} {x0 bo : Nat} {fs : List Value} (fo : Nat → Int64) {fr lo : Nat} {p0 : Int32} {r : Int32} (hc : IP l yX6_drop wsX6_drop fr lo D tc zb w w1 [.ref x0, .int p0] (some (.int r))) (hw0 : w[0]? = some (x0, .inr (5, fs))) (had : w1.map Prod.fst = w.map Prod.fst) (hfr : fr ≤ 11) (hlo : lo ≤ 500) : IPn l yL_drop wsL_drop 12 560 1 6 D tc zb (w ++ [w_o tc bo fo]) (w1 ++ [w_o tc bo (vp_updL fo 0 r.toInt64)]) [.ref x0, .int p0, .ref bo] (some (.int (nI 0))) := by
  refine IPn.ofT (cc := cL_drop) (maxL := 4) (ret := some .int) (hh := [(0, 9, 12, 28), (0, 9, 15, 15)]) (by decide) rfl (Nat.le_of_ble_eq_true rfl) ?_
  intro p e s m args below meth c A hx hb hr hml hlk hts hown hex hM hS hP hD ls hl
  have hl : lv_has ls 4 [(0, .ref x0), (1, .int p0), (2, .ref bo)] := hl
  refine lv_aload_n hx hb dL_drop_0 rfl (lv_at hl 2 rfl) ?_
  refine lv_iconst (v := nI 0) hx hb dL_drop_1 (by decide) ?_
  refine lv_aload_n hx hb dL_drop_2 rfl (lv_at hl 0 rfl) ?_
  refine lv_iload_n hx hb dL_drop_3 rfl (lv_at hl 1 rfl) ?_
  refine ipF_V (C := RX6) (n := 1) ⟨hx, hb, hml, hown, hts⟩ hM hS hP hD (IPn.app (mc := 0) (ms := 0) hc [w_o tc bo fo]) gL_drop_X6_drop rfl (by decide +kernel) ⟨by show fr + 1 ≤ 12; omega, by show 8 + (2 + 11) + lo ≤ 560; omega⟩ (by rw [List.map_append, List.map_append, had]) (va_recv hM.1 hP (ci := 5) (q0 := 0) rfl (by rw [List.getElem?_append_left (List.getElem?_eq_some_iff.mp hw0).1]; exact hw0)) rfl hl.1 rfl (Nat.le_of_ble_eq_true rfl) dL_drop_4 ⟨Nat.zero_le _, Nat.zero_le _⟩ (fun H locs hP hD hS => ?_)
  refine W.eq (g2 := F0 m 7 ls [.int r, .int (nI 0), .ref bo]) rfl ?_
  refine lv_i2l (v := r.toInt64) hx hb dL_drop_7 rfl ?_
  refine lx_last hx hb hM.1 hP hD hS dL_drop_8 (fun H locs hP hD hS => ?_)
  refine lv_goto (tgt := 18) hx hb dL_drop_9 (by decide) ?_
  refine lv_iconst (v := nI 0) hx hb dL_drop_18 (by decide) ?_
  exact ipn_iret hx hb hr hlk dL_drop_19 hS hP (Nat.zero_le _) (Nat.zero_le _)
set_option maxHeartbeats 4000000 in
set_option maxRecDepth 100000 in
theorem l_drop_t1 (l : Launch) (D : va_G) (tc : Nat → ClassId) (zb : Nat) {w : va_W} {x0 bo : Nat} {fs : List Value} (fo : Nat → Int64) {fr lo : Nat} {p0 : Int32} (hc : TH l yX6_drop wsX6_drop fr lo D tc zb w [.ref x0, .int p0] "java/lang/IndexOutOfBoundsException") (hw0 : w[0]? = some (x0, .inr (5, fs))) (hfr : fr ≤ 11) (hlo : lo ≤ 500) : IPn l yL_drop wsL_drop 12 560 1 6 D tc zb (w ++ [w_o tc bo fo]) (w ++ [w_o tc bo fo]) [.ref x0, .int p0, .ref bo] (some (.int (nI 1))) := by
  refine IPn.ofT (cc := cL_drop) (maxL := 4) (ret := some .int) (hh := [(0, 9, 12, 28), (0, 9, 15, 15)]) (by decide) rfl (Nat.le_of_ble_eq_true rfl) ?_
  intro p e s m args below meth c A hx hb hr hml hlk hts hown hex hM hS hP hD ls hl
  have hl : lv_has ls 4 [(0, .ref x0), (1, .int p0), (2, .ref bo)] := hl
  refine lv_aload_n hx hb dL_drop_0 rfl (lv_at hl 2 rfl) ?_
  refine lv_iconst (v := nI 0) hx hb dL_drop_1 (by decide) ?_
  refine lv_aload_n hx hb dL_drop_2 rfl (lv_at hl 0 rfl) ?_
  refine lv_iload_n hx hb dL_drop_3 rfl (lv_at hl 1 rfl) ?_
  refine th_VF (C := RX6) (n := 1) ⟨hx, hb, hml, hown, hts⟩ hM hS hP hc gL_drop_X6_drop rfl (by decide +kernel) ⟨by show fr + 1 ≤ 12; omega, by show 8 + (2 + 11) + lo ≤ 560; omega⟩ (va_recv hM.1 hP (ci := 5) (q0 := 0) rfl (by rw [List.getElem?_append_left (List.getElem?_eq_some_iff.mp hw0).1]; exact hw0)) rfl hl.1 rfl (Nat.le_of_ble_eq_true rfl) dL_drop_4 ⟨Nat.le_refl _, Nat.le_refl _⟩ (fun H q ce hP hS h3 h4 h5 => ?_)
  refine vx_catch (own := RL) (name := "java/lang/IndexOutOfBoundsException") (E := "java/lang/IndexOutOfBoundsException") hown [] ⟨0, 9, 12, 28⟩ [⟨0, 9, 15, 15⟩] hex (fun z hz => by cases hz) (by decide) (by decide) (hts (.classLink RL 28 "java/lang/IndexOutOfBoundsException") (by decide +kernel)) (va_Nw.use rfl (hM.2.2.2.2.2.2.2.2.1 ("java/lang/IndexOutOfBoundsException", "java/lang/IndexOutOfBoundsException") (by decide +kernel))) h3 h4 h5 ?_
  refine W.eq (g2 := F0 m 12 ls [.ref q]) rfl ?_
  refine lv_astore_n (lv' := [(3, .ref q), (0, .ref x0), (1, .int p0), (2, .ref bo)]) hx hb dL_drop_12 rfl hl (by decide) rfl (fun ls hl => ?_)
  refine lv_iconst (v := nI 1) hx hb dL_drop_13 (by decide) ?_
  exact ipn_iret hx hb hr hlk dL_drop_14 hS hP (Nat.le_refl _) (Nat.le_refl _)
set_option maxHeartbeats 4000000 in
set_option maxRecDepth 100000 in
theorem l_drop_t2 (l : Launch) (D : va_G) (tc : Nat → ClassId) (zb : Nat) {w : va_W} {x0 bo : Nat} {fs : List Value} (fo : Nat → Int64) {fr lo : Nat} {p0 : Int32} (hc : TH l yX6_drop wsX6_drop fr lo D tc zb w [.ref x0, .int p0] "java/lang/IllegalStateException") (hw0 : w[0]? = some (x0, .inr (5, fs))) (hfr : fr ≤ 11) (hlo : lo ≤ 500) : IPn l yL_drop wsL_drop 12 560 1 6 D tc zb (w ++ [w_o tc bo fo]) (w ++ [w_o tc bo fo]) [.ref x0, .int p0, .ref bo] (some (.int (nI 2))) := by
  refine IPn.ofT (cc := cL_drop) (maxL := 4) (ret := some .int) (hh := [(0, 9, 12, 28), (0, 9, 15, 15)]) (by decide) rfl (Nat.le_of_ble_eq_true rfl) ?_
  intro p e s m args below meth c A hx hb hr hml hlk hts hown hex hM hS hP hD ls hl
  have hl : lv_has ls 4 [(0, .ref x0), (1, .int p0), (2, .ref bo)] := hl
  refine lv_aload_n hx hb dL_drop_0 rfl (lv_at hl 2 rfl) ?_
  refine lv_iconst (v := nI 0) hx hb dL_drop_1 (by decide) ?_
  refine lv_aload_n hx hb dL_drop_2 rfl (lv_at hl 0 rfl) ?_
  refine lv_iload_n hx hb dL_drop_3 rfl (lv_at hl 1 rfl) ?_
  refine th_VF (C := RX6) (n := 1) ⟨hx, hb, hml, hown, hts⟩ hM hS hP hc gL_drop_X6_drop rfl (by decide +kernel) ⟨by show fr + 1 ≤ 12; omega, by show 8 + (2 + 11) + lo ≤ 560; omega⟩ (va_recv hM.1 hP (ci := 5) (q0 := 0) rfl (by rw [List.getElem?_append_left (List.getElem?_eq_some_iff.mp hw0).1]; exact hw0)) rfl hl.1 rfl (Nat.le_of_ble_eq_true rfl) dL_drop_4 ⟨Nat.le_refl _, Nat.le_refl _⟩ (fun H q ce hP hS h3 h4 h5 => ?_)
  refine vx_catch (own := RL) (name := "java/lang/IllegalStateException") (E := "java/lang/IllegalStateException") hown [⟨0, 9, 12, 28⟩] ⟨0, 9, 15, 15⟩ [] hex (fun z hz => by rw [List.mem_singleton.mp hz]; exact Or.inr ⟨by decide, "java/lang/IndexOutOfBoundsException", hts (.classLink RL 28 "java/lang/IndexOutOfBoundsException") (by decide +kernel), hM.2.2.2.2.2.2.2.2.2 ("java/lang/IllegalStateException", "java/lang/IndexOutOfBoundsException") (by decide +kernel)⟩) (by decide) (by decide) (hts (.classLink RL 15 "java/lang/IllegalStateException") (by decide +kernel)) (va_Nw.use rfl (hM.2.2.2.2.2.2.2.2.1 ("java/lang/IllegalStateException", "java/lang/IllegalStateException") (by decide +kernel))) h3 h4 h5 ?_
  refine W.eq (g2 := F0 m 15 ls [.ref q]) rfl ?_
  refine lv_astore_n (lv' := [(3, .ref q), (0, .ref x0), (1, .int p0), (2, .ref bo)]) hx hb dL_drop_15 rfl hl (by decide) rfl (fun ls hl => ?_)
  refine lv_iconst (v := nI 2) hx hb dL_drop_16 (by decide) ?_
  exact ipn_iret hx hb hr hlk dL_drop_17 hS hP (Nat.le_refl _) (Nat.le_refl _)
set_option maxHeartbeats 4000000 in
set_option maxRecDepth 100000 in
theorem l_ifKept_ok (l : Launch) (D : va_G) (tc : Nat → ClassId) (zb : Nat) {w w1 : va_W} {x0 bo : Nat} {fs : List Value} (fo : Nat → Int64) {fr lo : Nat} {p0 : Int32} {r : Int32} (hc : IP l yX6_ifKept wsX6_ifKept fr lo D tc zb w w1 [.ref x0, .int p0] (some (.int r))) (hw0 : w[0]? = some (x0, .inr (5, fs))) (had : w1.map Prod.fst = w.map Prod.fst) (hfr : fr ≤ 11) (hlo : lo ≤ 500) : IPn l yL_ifKept wsL_ifKept 12 560 1 6 D tc zb (w ++ [w_o tc bo fo]) (w1 ++ [w_o tc bo (vp_updL fo 0 r.toInt64)]) [.ref x0, .int p0, .ref bo] (some (.int (nI 0))) := by
  refine IPn.ofT (cc := cL_ifKept) (maxL := 4) (ret := some .int) (hh := [(0, 9, 12, 13)]) (by decide) rfl (Nat.le_of_ble_eq_true rfl) ?_
  intro p e s m args below meth c A hx hb hr hml hlk hts hown hex hM hS hP hD ls hl
  have hl : lv_has ls 4 [(0, .ref x0), (1, .int p0), (2, .ref bo)] := hl
  refine lv_aload_n hx hb dL_ifKept_0 rfl (lv_at hl 2 rfl) ?_
  refine lv_iconst (v := nI 0) hx hb dL_ifKept_1 (by decide) ?_
  refine lv_aload_n hx hb dL_ifKept_2 rfl (lv_at hl 0 rfl) ?_
  refine lv_iload_n hx hb dL_ifKept_3 rfl (lv_at hl 1 rfl) ?_
  refine ipF_V (C := RX6) (n := 1) ⟨hx, hb, hml, hown, hts⟩ hM hS hP hD (IPn.app (mc := 0) (ms := 0) hc [w_o tc bo fo]) gL_ifKept_X6_ifKept rfl (by decide +kernel) ⟨by show fr + 1 ≤ 12; omega, by show 8 + (2 + 11) + lo ≤ 560; omega⟩ (by rw [List.map_append, List.map_append, had]) (va_recv hM.1 hP (ci := 5) (q0 := 0) rfl (by rw [List.getElem?_append_left (List.getElem?_eq_some_iff.mp hw0).1]; exact hw0)) rfl hl.1 rfl (Nat.le_of_ble_eq_true rfl) dL_ifKept_4 ⟨Nat.zero_le _, Nat.zero_le _⟩ (fun H locs hP hD hS => ?_)
  refine W.eq (g2 := F0 m 7 ls [.int r, .int (nI 0), .ref bo]) rfl ?_
  refine lv_i2l (v := r.toInt64) hx hb dL_ifKept_7 rfl ?_
  refine lx_last hx hb hM.1 hP hD hS dL_ifKept_8 (fun H locs hP hD hS => ?_)
  refine lv_goto (tgt := 15) hx hb dL_ifKept_9 (by decide) ?_
  refine lv_iconst (v := nI 0) hx hb dL_ifKept_15 (by decide) ?_
  exact ipn_iret hx hb hr hlk dL_ifKept_16 hS hP (Nat.zero_le _) (Nat.zero_le _)
set_option maxHeartbeats 4000000 in
set_option maxRecDepth 100000 in
theorem l_ifKept_t1 (l : Launch) (D : va_G) (tc : Nat → ClassId) (zb : Nat) {w : va_W} {x0 bo : Nat} {fs : List Value} (fo : Nat → Int64) {fr lo : Nat} {p0 : Int32} (hc : TH l yX6_ifKept wsX6_ifKept fr lo D tc zb w [.ref x0, .int p0] "java/lang/IllegalArgumentException") (hw0 : w[0]? = some (x0, .inr (5, fs))) (hfr : fr ≤ 11) (hlo : lo ≤ 500) : IPn l yL_ifKept wsL_ifKept 12 560 1 6 D tc zb (w ++ [w_o tc bo fo]) (w ++ [w_o tc bo fo]) [.ref x0, .int p0, .ref bo] (some (.int (nI 1))) := by
  refine IPn.ofT (cc := cL_ifKept) (maxL := 4) (ret := some .int) (hh := [(0, 9, 12, 13)]) (by decide) rfl (Nat.le_of_ble_eq_true rfl) ?_
  intro p e s m args below meth c A hx hb hr hml hlk hts hown hex hM hS hP hD ls hl
  have hl : lv_has ls 4 [(0, .ref x0), (1, .int p0), (2, .ref bo)] := hl
  refine lv_aload_n hx hb dL_ifKept_0 rfl (lv_at hl 2 rfl) ?_
  refine lv_iconst (v := nI 0) hx hb dL_ifKept_1 (by decide) ?_
  refine lv_aload_n hx hb dL_ifKept_2 rfl (lv_at hl 0 rfl) ?_
  refine lv_iload_n hx hb dL_ifKept_3 rfl (lv_at hl 1 rfl) ?_
  refine th_VF (C := RX6) (n := 1) ⟨hx, hb, hml, hown, hts⟩ hM hS hP hc gL_ifKept_X6_ifKept rfl (by decide +kernel) ⟨by show fr + 1 ≤ 12; omega, by show 8 + (2 + 11) + lo ≤ 560; omega⟩ (va_recv hM.1 hP (ci := 5) (q0 := 0) rfl (by rw [List.getElem?_append_left (List.getElem?_eq_some_iff.mp hw0).1]; exact hw0)) rfl hl.1 rfl (Nat.le_of_ble_eq_true rfl) dL_ifKept_4 ⟨Nat.le_refl _, Nat.le_refl _⟩ (fun H q ce hP hS h3 h4 h5 => ?_)
  refine vx_catch (own := RL) (name := "java/lang/IllegalArgumentException") (E := "java/lang/IllegalArgumentException") hown [] ⟨0, 9, 12, 13⟩ [] hex (fun z hz => by cases hz) (by decide) (by decide) (hts (.classLink RL 13 "java/lang/IllegalArgumentException") (by decide +kernel)) (va_Nw.use rfl (hM.2.2.2.2.2.2.2.2.1 ("java/lang/IllegalArgumentException", "java/lang/IllegalArgumentException") (by decide +kernel))) h3 h4 h5 ?_
  refine W.eq (g2 := F0 m 12 ls [.ref q]) rfl ?_
  refine lv_astore_n (lv' := [(3, .ref q), (0, .ref x0), (1, .int p0), (2, .ref bo)]) hx hb dL_ifKept_12 rfl hl (by decide) rfl (fun ls hl => ?_)
  refine lv_iconst (v := nI 1) hx hb dL_ifKept_13 (by decide) ?_
  exact ipn_iret hx hb hr hlk dL_ifKept_14 hS hP (Nat.le_refl _) (Nat.le_refl _)
set_option maxHeartbeats 4000000 in
set_option maxRecDepth 100000 in
theorem l_joinCost_ok (l : Launch) (D : va_G) (tc : Nat → ClassId) (zb : Nat) {w w1 : va_W} {x0 bo : Nat} {fs : List Value} (fo : Nat → Int64) {fr lo : Nat} {p0 : Int32} {p1 : Int32} {p2 : Int32} {p3 : Int32} {p4 : Int32} {r : Int32} (hc : IP l yX6_joinCost wsX6_joinCost fr lo D tc zb w w1 [.ref x0, .int p0, .int p1, .int p2, .int p3, .int p4] (some (.int r))) (hw0 : w[0]? = some (x0, .inr (5, fs))) (had : w1.map Prod.fst = w.map Prod.fst) (hfr : fr ≤ 11) (hlo : lo ≤ 500) : IPn l yL_joinCost wsL_joinCost 12 560 1 6 D tc zb (w ++ [w_o tc bo fo]) (w1 ++ [w_o tc bo (vp_updL fo 0 r.toInt64)]) [.ref x0, .int p0, .int p1, .int p2, .int p3, .int p4, .ref bo] (some (.int (nI 0))) := by
  refine IPn.ofT (cc := cL_joinCost) (maxL := 8) (ret := some .int) (hh := [(0, 16, 19, 13)]) (by decide) rfl (Nat.le_of_ble_eq_true rfl) ?_
  intro p e s m args below meth c A hx hb hr hml hlk hts hown hex hM hS hP hD ls hl
  have hl : lv_has ls 8 [(0, .ref x0), (1, .int p0), (2, .int p1), (3, .int p2), (4, .int p3), (5, .int p4), (6, .ref bo)] := hl
  refine lv_aload hx hb dL_joinCost_0 (lv_at hl 6 rfl) ?_
  refine lv_iconst (v := nI 0) hx hb dL_joinCost_2 (by decide) ?_
  refine lv_aload_n hx hb dL_joinCost_3 rfl (lv_at hl 0 rfl) ?_
  refine lv_iload_n hx hb dL_joinCost_4 rfl (lv_at hl 1 rfl) ?_
  refine lv_iload_n hx hb dL_joinCost_5 rfl (lv_at hl 2 rfl) ?_
  refine lv_iload_n hx hb dL_joinCost_6 rfl (lv_at hl 3 rfl) ?_
  refine lv_iload hx hb dL_joinCost_7 (lv_at hl 4 rfl) ?_
  refine lv_iload hx hb dL_joinCost_9 (lv_at hl 5 rfl) ?_
  refine ipF_V (C := RX6) (n := 5) ⟨hx, hb, hml, hown, hts⟩ hM hS hP hD (IPn.app (mc := 0) (ms := 0) hc [w_o tc bo fo]) gL_joinCost_X6_joinCost rfl (by decide +kernel) ⟨by show fr + 1 ≤ 12; omega, by show 8 + (6 + 11) + lo ≤ 560; omega⟩ (by rw [List.map_append, List.map_append, had]) (va_recv hM.1 hP (ci := 5) (q0 := 0) rfl (by rw [List.getElem?_append_left (List.getElem?_eq_some_iff.mp hw0).1]; exact hw0)) rfl hl.1 rfl (Nat.le_of_ble_eq_true rfl) dL_joinCost_11 ⟨Nat.zero_le _, Nat.zero_le _⟩ (fun H locs hP hD hS => ?_)
  refine W.eq (g2 := F0 m 14 ls [.int r, .int (nI 0), .ref bo]) rfl ?_
  refine lv_i2l (v := r.toInt64) hx hb dL_joinCost_14 rfl ?_
  refine lx_last hx hb hM.1 hP hD hS dL_joinCost_15 (fun H locs hP hD hS => ?_)
  refine lv_goto (tgt := 23) hx hb dL_joinCost_16 (by decide) ?_
  refine lv_iconst (v := nI 0) hx hb dL_joinCost_23 (by decide) ?_
  exact ipn_iret hx hb hr hlk dL_joinCost_24 hS hP (Nat.zero_le _) (Nat.zero_le _)
set_option maxHeartbeats 4000000 in
set_option maxRecDepth 100000 in
theorem l_joinCost_t1 (l : Launch) (D : va_G) (tc : Nat → ClassId) (zb : Nat) {w : va_W} {x0 bo : Nat} {fs : List Value} (fo : Nat → Int64) {fr lo : Nat} {p0 : Int32} {p1 : Int32} {p2 : Int32} {p3 : Int32} {p4 : Int32} (hc : TH l yX6_joinCost wsX6_joinCost fr lo D tc zb w [.ref x0, .int p0, .int p1, .int p2, .int p3, .int p4] "java/lang/IllegalArgumentException") (hw0 : w[0]? = some (x0, .inr (5, fs))) (hfr : fr ≤ 11) (hlo : lo ≤ 500) : IPn l yL_joinCost wsL_joinCost 12 560 1 6 D tc zb (w ++ [w_o tc bo fo]) (w ++ [w_o tc bo fo]) [.ref x0, .int p0, .int p1, .int p2, .int p3, .int p4, .ref bo] (some (.int (nI 1))) := by
  refine IPn.ofT (cc := cL_joinCost) (maxL := 8) (ret := some .int) (hh := [(0, 16, 19, 13)]) (by decide) rfl (Nat.le_of_ble_eq_true rfl) ?_
  intro p e s m args below meth c A hx hb hr hml hlk hts hown hex hM hS hP hD ls hl
  have hl : lv_has ls 8 [(0, .ref x0), (1, .int p0), (2, .int p1), (3, .int p2), (4, .int p3), (5, .int p4), (6, .ref bo)] := hl
  refine lv_aload hx hb dL_joinCost_0 (lv_at hl 6 rfl) ?_
  refine lv_iconst (v := nI 0) hx hb dL_joinCost_2 (by decide) ?_
  refine lv_aload_n hx hb dL_joinCost_3 rfl (lv_at hl 0 rfl) ?_
  refine lv_iload_n hx hb dL_joinCost_4 rfl (lv_at hl 1 rfl) ?_
  refine lv_iload_n hx hb dL_joinCost_5 rfl (lv_at hl 2 rfl) ?_
  refine lv_iload_n hx hb dL_joinCost_6 rfl (lv_at hl 3 rfl) ?_
  refine lv_iload hx hb dL_joinCost_7 (lv_at hl 4 rfl) ?_
  refine lv_iload hx hb dL_joinCost_9 (lv_at hl 5 rfl) ?_
  refine th_VF (C := RX6) (n := 5) ⟨hx, hb, hml, hown, hts⟩ hM hS hP hc gL_joinCost_X6_joinCost rfl (by decide +kernel) ⟨by show fr + 1 ≤ 12; omega, by show 8 + (6 + 11) + lo ≤ 560; omega⟩ (va_recv hM.1 hP (ci := 5) (q0 := 0) rfl (by rw [List.getElem?_append_left (List.getElem?_eq_some_iff.mp hw0).1]; exact hw0)) rfl hl.1 rfl (Nat.le_of_ble_eq_true rfl) dL_joinCost_11 ⟨Nat.le_refl _, Nat.le_refl _⟩ (fun H q ce hP hS h3 h4 h5 => ?_)
  refine vx_catch (own := RL) (name := "java/lang/IllegalArgumentException") (E := "java/lang/IllegalArgumentException") hown [] ⟨0, 16, 19, 13⟩ [] hex (fun z hz => by cases hz) (by decide) (by decide) (hts (.classLink RL 13 "java/lang/IllegalArgumentException") (by decide +kernel)) (va_Nw.use rfl (hM.2.2.2.2.2.2.2.2.1 ("java/lang/IllegalArgumentException", "java/lang/IllegalArgumentException") (by decide +kernel))) h3 h4 h5 ?_
  refine W.eq (g2 := F0 m 19 ls [.ref q]) rfl ?_
  refine lv_astore (lv' := [(7, .ref q), (0, .ref x0), (1, .int p0), (2, .int p1), (3, .int p2), (4, .int p3), (5, .int p4), (6, .ref bo)]) hx hb dL_joinCost_19 hl (by decide) rfl (fun ls hl => ?_)
  refine lv_iconst (v := nI 1) hx hb dL_joinCost_21 (by decide) ?_
  exact ipn_iret hx hb hr hlk dL_joinCost_22 hS hP (Nat.le_refl _) (Nat.le_refl _)
set_option maxHeartbeats 4000000 in
set_option maxRecDepth 100000 in
theorem l_pairs_ok (l : Launch) (D : va_G) (tc : Nat → ClassId) (zb : Nat) {w w1 : va_W} {x0 bo : Nat} {fs : List Value} (fo : Nat → Int64) {fr lo : Nat} {p0 : Int32} {p1 : Int32} {p2 : Int32} {p3 : Int32} {r : Int32} (hc : IP l yX6_pairs wsX6_pairs fr lo D tc zb w w1 [.ref x0, .int p0, .int p1, .int p2, .int p3] (some (.int r))) (hw0 : w[0]? = some (x0, .inr (5, fs))) (had : w1.map Prod.fst = w.map Prod.fst) (hfr : fr ≤ 11) (hlo : lo ≤ 500) : IPn l yL_pairs wsL_pairs 12 560 1 6 D tc zb (w ++ [w_o tc bo fo]) (w1 ++ [w_o tc bo (vp_updL fo 0 r.toInt64)]) [.ref x0, .int p0, .int p1, .int p2, .int p3, .ref bo] (some (.int (nI 0))) := by
  refine IPn.ofT (cc := cL_pairs) (maxL := 7) (ret := some .int) (hh := [(0, 14, 17, 13)]) (by decide) rfl (Nat.le_of_ble_eq_true rfl) ?_
  intro p e s m args below meth c A hx hb hr hml hlk hts hown hex hM hS hP hD ls hl
  have hl : lv_has ls 7 [(0, .ref x0), (1, .int p0), (2, .int p1), (3, .int p2), (4, .int p3), (5, .ref bo)] := hl
  refine lv_aload hx hb dL_pairs_0 (lv_at hl 5 rfl) ?_
  refine lv_iconst (v := nI 0) hx hb dL_pairs_2 (by decide) ?_
  refine lv_aload_n hx hb dL_pairs_3 rfl (lv_at hl 0 rfl) ?_
  refine lv_iload_n hx hb dL_pairs_4 rfl (lv_at hl 1 rfl) ?_
  refine lv_iload_n hx hb dL_pairs_5 rfl (lv_at hl 2 rfl) ?_
  refine lv_iload_n hx hb dL_pairs_6 rfl (lv_at hl 3 rfl) ?_
  refine lv_iload hx hb dL_pairs_7 (lv_at hl 4 rfl) ?_
  refine ipF_V (C := RX6) (n := 4) ⟨hx, hb, hml, hown, hts⟩ hM hS hP hD (IPn.app (mc := 0) (ms := 0) hc [w_o tc bo fo]) gL_pairs_X6_pairs rfl (by decide +kernel) ⟨by show fr + 1 ≤ 12; omega, by show 8 + (8 + 11) + lo ≤ 560; omega⟩ (by rw [List.map_append, List.map_append, had]) (va_recv hM.1 hP (ci := 5) (q0 := 0) rfl (by rw [List.getElem?_append_left (List.getElem?_eq_some_iff.mp hw0).1]; exact hw0)) rfl hl.1 rfl (Nat.le_of_ble_eq_true rfl) dL_pairs_9 ⟨Nat.zero_le _, Nat.zero_le _⟩ (fun H locs hP hD hS => ?_)
  refine W.eq (g2 := F0 m 12 ls [.int r, .int (nI 0), .ref bo]) rfl ?_
  refine lv_i2l (v := r.toInt64) hx hb dL_pairs_12 rfl ?_
  refine lx_last hx hb hM.1 hP hD hS dL_pairs_13 (fun H locs hP hD hS => ?_)
  refine lv_goto (tgt := 21) hx hb dL_pairs_14 (by decide) ?_
  refine lv_iconst (v := nI 0) hx hb dL_pairs_21 (by decide) ?_
  exact ipn_iret hx hb hr hlk dL_pairs_22 hS hP (Nat.zero_le _) (Nat.zero_le _)
set_option maxHeartbeats 4000000 in
set_option maxRecDepth 100000 in
theorem l_pairs_t1 (l : Launch) (D : va_G) (tc : Nat → ClassId) (zb : Nat) {w : va_W} {x0 bo : Nat} {fs : List Value} (fo : Nat → Int64) {fr lo : Nat} {p0 : Int32} {p1 : Int32} {p2 : Int32} {p3 : Int32} (hc : TH l yX6_pairs wsX6_pairs fr lo D tc zb w [.ref x0, .int p0, .int p1, .int p2, .int p3] "java/lang/IllegalArgumentException") (hw0 : w[0]? = some (x0, .inr (5, fs))) (hfr : fr ≤ 11) (hlo : lo ≤ 500) : IPn l yL_pairs wsL_pairs 12 560 1 6 D tc zb (w ++ [w_o tc bo fo]) (w ++ [w_o tc bo fo]) [.ref x0, .int p0, .int p1, .int p2, .int p3, .ref bo] (some (.int (nI 1))) := by
  refine IPn.ofT (cc := cL_pairs) (maxL := 7) (ret := some .int) (hh := [(0, 14, 17, 13)]) (by decide) rfl (Nat.le_of_ble_eq_true rfl) ?_
  intro p e s m args below meth c A hx hb hr hml hlk hts hown hex hM hS hP hD ls hl
  have hl : lv_has ls 7 [(0, .ref x0), (1, .int p0), (2, .int p1), (3, .int p2), (4, .int p3), (5, .ref bo)] := hl
  refine lv_aload hx hb dL_pairs_0 (lv_at hl 5 rfl) ?_
  refine lv_iconst (v := nI 0) hx hb dL_pairs_2 (by decide) ?_
  refine lv_aload_n hx hb dL_pairs_3 rfl (lv_at hl 0 rfl) ?_
  refine lv_iload_n hx hb dL_pairs_4 rfl (lv_at hl 1 rfl) ?_
  refine lv_iload_n hx hb dL_pairs_5 rfl (lv_at hl 2 rfl) ?_
  refine lv_iload_n hx hb dL_pairs_6 rfl (lv_at hl 3 rfl) ?_
  refine lv_iload hx hb dL_pairs_7 (lv_at hl 4 rfl) ?_
  refine th_VF (C := RX6) (n := 4) ⟨hx, hb, hml, hown, hts⟩ hM hS hP hc gL_pairs_X6_pairs rfl (by decide +kernel) ⟨by show fr + 1 ≤ 12; omega, by show 8 + (8 + 11) + lo ≤ 560; omega⟩ (va_recv hM.1 hP (ci := 5) (q0 := 0) rfl (by rw [List.getElem?_append_left (List.getElem?_eq_some_iff.mp hw0).1]; exact hw0)) rfl hl.1 rfl (Nat.le_of_ble_eq_true rfl) dL_pairs_9 ⟨Nat.le_refl _, Nat.le_refl _⟩ (fun H q ce hP hS h3 h4 h5 => ?_)
  refine vx_catch (own := RL) (name := "java/lang/IllegalArgumentException") (E := "java/lang/IllegalArgumentException") hown [] ⟨0, 14, 17, 13⟩ [] hex (fun z hz => by cases hz) (by decide) (by decide) (hts (.classLink RL 13 "java/lang/IllegalArgumentException") (by decide +kernel)) (va_Nw.use rfl (hM.2.2.2.2.2.2.2.2.1 ("java/lang/IllegalArgumentException", "java/lang/IllegalArgumentException") (by decide +kernel))) h3 h4 h5 ?_
  refine W.eq (g2 := F0 m 17 ls [.ref q]) rfl ?_
  refine lv_astore (lv' := [(6, .ref q), (0, .ref x0), (1, .int p0), (2, .int p1), (3, .int p2), (4, .int p3), (5, .ref bo)]) hx hb dL_pairs_17 hl (by decide) rfl (fun ls hl => ?_)
  refine lv_iconst (v := nI 1) hx hb dL_pairs_19 (by decide) ?_
  exact ipn_iret hx hb hr hlk dL_pairs_20 hS hP (Nat.le_refl _) (Nat.le_refl _)
set_option maxHeartbeats 4000000 in
set_option maxRecDepth 100000 in
theorem l_question_ok (l : Launch) (D : va_G) (tc : Nat → ClassId) (zb : Nat) {w w1 : va_W} {x0 bo : Nat} {fs : List Value} (fo : Nat → Int64) {fr lo : Nat} {r : Int32} (hc : IP l yX6_question wsX6_question fr lo D tc zb w w1 [.ref x0] (some (.int r))) (hw0 : w[0]? = some (x0, .inr (5, fs))) (had : w1.map Prod.fst = w.map Prod.fst) (hfr : fr ≤ 11) (hlo : lo ≤ 500) : IPn l yL_question wsL_question 12 560 1 6 D tc zb (w ++ [w_o tc bo fo]) (w1 ++ [w_o tc bo (vp_updL fo 0 r.toInt64)]) [.ref x0, .ref bo] (some (.int (nI 0))) := by
  refine IPn.ofT (cc := cL_question) (maxL := 3) (ret := some .int) (hh := [(0, 8, 11, 15)]) (by decide) rfl (Nat.le_of_ble_eq_true rfl) ?_
  intro p e s m args below meth c A hx hb hr hml hlk hts hown hex hM hS hP hD ls hl
  have hl : lv_has ls 3 [(0, .ref x0), (1, .ref bo)] := hl
  refine lv_aload_n hx hb dL_question_0 rfl (lv_at hl 1 rfl) ?_
  refine lv_iconst (v := nI 0) hx hb dL_question_1 (by decide) ?_
  refine lv_aload_n hx hb dL_question_2 rfl (lv_at hl 0 rfl) ?_
  refine ipF_V (C := RX6) (n := 0) ⟨hx, hb, hml, hown, hts⟩ hM hS hP hD (IPn.app (mc := 0) (ms := 0) hc [w_o tc bo fo]) gL_question_X6_question rfl (by decide +kernel) ⟨by show fr + 1 ≤ 12; omega, by show 8 + (1 + 11) + lo ≤ 560; omega⟩ (by rw [List.map_append, List.map_append, had]) (va_recv hM.1 hP (ci := 5) (q0 := 0) rfl (by rw [List.getElem?_append_left (List.getElem?_eq_some_iff.mp hw0).1]; exact hw0)) rfl hl.1 rfl (Nat.le_of_ble_eq_true rfl) dL_question_3 ⟨Nat.zero_le _, Nat.zero_le _⟩ (fun H locs hP hD hS => ?_)
  refine W.eq (g2 := F0 m 6 ls [.int r, .int (nI 0), .ref bo]) rfl ?_
  refine lv_i2l (v := r.toInt64) hx hb dL_question_6 rfl ?_
  refine lx_last hx hb hM.1 hP hD hS dL_question_7 (fun H locs hP hD hS => ?_)
  refine lv_goto (tgt := 14) hx hb dL_question_8 (by decide) ?_
  refine lv_iconst (v := nI 0) hx hb dL_question_14 (by decide) ?_
  exact ipn_iret hx hb hr hlk dL_question_15 hS hP (Nat.zero_le _) (Nat.zero_le _)
set_option maxHeartbeats 4000000 in
set_option maxRecDepth 100000 in
theorem l_question_t1 (l : Launch) (D : va_G) (tc : Nat → ClassId) (zb : Nat) {w : va_W} {x0 bo : Nat} {fs : List Value} (fo : Nat → Int64) {fr lo : Nat} (hc : TH l yX6_question wsX6_question fr lo D tc zb w [.ref x0] "java/lang/IllegalStateException") (hw0 : w[0]? = some (x0, .inr (5, fs))) (hfr : fr ≤ 11) (hlo : lo ≤ 500) : IPn l yL_question wsL_question 12 560 1 6 D tc zb (w ++ [w_o tc bo fo]) (w ++ [w_o tc bo fo]) [.ref x0, .ref bo] (some (.int (nI 1))) := by
  refine IPn.ofT (cc := cL_question) (maxL := 3) (ret := some .int) (hh := [(0, 8, 11, 15)]) (by decide) rfl (Nat.le_of_ble_eq_true rfl) ?_
  intro p e s m args below meth c A hx hb hr hml hlk hts hown hex hM hS hP hD ls hl
  have hl : lv_has ls 3 [(0, .ref x0), (1, .ref bo)] := hl
  refine lv_aload_n hx hb dL_question_0 rfl (lv_at hl 1 rfl) ?_
  refine lv_iconst (v := nI 0) hx hb dL_question_1 (by decide) ?_
  refine lv_aload_n hx hb dL_question_2 rfl (lv_at hl 0 rfl) ?_
  refine th_VF (C := RX6) (n := 0) ⟨hx, hb, hml, hown, hts⟩ hM hS hP hc gL_question_X6_question rfl (by decide +kernel) ⟨by show fr + 1 ≤ 12; omega, by show 8 + (1 + 11) + lo ≤ 560; omega⟩ (va_recv hM.1 hP (ci := 5) (q0 := 0) rfl (by rw [List.getElem?_append_left (List.getElem?_eq_some_iff.mp hw0).1]; exact hw0)) rfl hl.1 rfl (Nat.le_of_ble_eq_true rfl) dL_question_3 ⟨Nat.le_refl _, Nat.le_refl _⟩ (fun H q ce hP hS h3 h4 h5 => ?_)
  refine vx_catch (own := RL) (name := "java/lang/IllegalStateException") (E := "java/lang/IllegalStateException") hown [] ⟨0, 8, 11, 15⟩ [] hex (fun z hz => by cases hz) (by decide) (by decide) (hts (.classLink RL 15 "java/lang/IllegalStateException") (by decide +kernel)) (va_Nw.use rfl (hM.2.2.2.2.2.2.2.2.1 ("java/lang/IllegalStateException", "java/lang/IllegalStateException") (by decide +kernel))) h3 h4 h5 ?_
  refine W.eq (g2 := F0 m 11 ls [.ref q]) rfl ?_
  refine lv_astore_n (lv' := [(2, .ref q), (0, .ref x0), (1, .ref bo)]) hx hb dL_question_11 rfl hl (by decide) rfl (fun ls hl => ?_)
  refine lv_iconst (v := nI 1) hx hb dL_question_12 (by decide) ?_
  exact ipn_iret hx hb hr hlk dL_question_13 hS hP (Nat.le_refl _) (Nat.le_refl _)
set_option maxHeartbeats 4000000 in
set_option maxRecDepth 100000 in
theorem l_reach_ok (l : Launch) (D : va_G) (tc : Nat → ClassId) (zb : Nat) {w w1 : va_W} {x0 bo : Nat} {fs : List Value} (fo : Nat → Int64) {fr lo : Nat} {p0 : Int32} {p1 : Int32} {r : Int32} (hc : IP l yX6_reach wsX6_reach fr lo D tc zb w w1 [.ref x0, .int p0, .int p1] (some (.int r))) (hw0 : w[0]? = some (x0, .inr (5, fs))) (had : w1.map Prod.fst = w.map Prod.fst) (hfr : fr ≤ 11) (hlo : lo ≤ 500) : IPn l yL_reach wsL_reach 12 560 1 6 D tc zb (w ++ [w_o tc bo fo]) (w1 ++ [w_o tc bo (vp_updL fo 0 r.toInt64)]) [.ref x0, .int p0, .int p1, .ref bo] (some (.int (nI 0))) := by
  refine IPn.ofT (cc := cL_reach) (maxL := 5) (ret := some .int) (hh := [(0, 10, 13, 13), (0, 10, 17, 28)]) (by decide) rfl (Nat.le_of_ble_eq_true rfl) ?_
  intro p e s m args below meth c A hx hb hr hml hlk hts hown hex hM hS hP hD ls hl
  have hl : lv_has ls 5 [(0, .ref x0), (1, .int p0), (2, .int p1), (3, .ref bo)] := hl
  refine lv_aload_n hx hb dL_reach_0 rfl (lv_at hl 3 rfl) ?_
  refine lv_iconst (v := nI 0) hx hb dL_reach_1 (by decide) ?_
  refine lv_aload_n hx hb dL_reach_2 rfl (lv_at hl 0 rfl) ?_
  refine lv_iload_n hx hb dL_reach_3 rfl (lv_at hl 1 rfl) ?_
  refine lv_iload_n hx hb dL_reach_4 rfl (lv_at hl 2 rfl) ?_
  refine ipF_V (C := RX6) (n := 2) ⟨hx, hb, hml, hown, hts⟩ hM hS hP hD (IPn.app (mc := 0) (ms := 0) hc [w_o tc bo fo]) gL_reach_X6_reach rfl (by decide +kernel) ⟨by show fr + 1 ≤ 12; omega, by show 8 + (3 + 11) + lo ≤ 560; omega⟩ (by rw [List.map_append, List.map_append, had]) (va_recv hM.1 hP (ci := 5) (q0 := 0) rfl (by rw [List.getElem?_append_left (List.getElem?_eq_some_iff.mp hw0).1]; exact hw0)) rfl hl.1 rfl (Nat.le_of_ble_eq_true rfl) dL_reach_5 ⟨Nat.zero_le _, Nat.zero_le _⟩ (fun H locs hP hD hS => ?_)
  refine W.eq (g2 := F0 m 8 ls [.int r, .int (nI 0), .ref bo]) rfl ?_
  refine lv_i2l (v := r.toInt64) hx hb dL_reach_8 rfl ?_
  refine lx_last hx hb hM.1 hP hD hS dL_reach_9 (fun H locs hP hD hS => ?_)
  refine lv_goto (tgt := 21) hx hb dL_reach_10 (by decide) ?_
  refine lv_iconst (v := nI 0) hx hb dL_reach_21 (by decide) ?_
  exact ipn_iret hx hb hr hlk dL_reach_22 hS hP (Nat.zero_le _) (Nat.zero_le _)
set_option maxHeartbeats 4000000 in
set_option maxRecDepth 100000 in
theorem l_reach_t1 (l : Launch) (D : va_G) (tc : Nat → ClassId) (zb : Nat) {w : va_W} {x0 bo : Nat} {fs : List Value} (fo : Nat → Int64) {fr lo : Nat} {p0 : Int32} {p1 : Int32} (hc : TH l yX6_reach wsX6_reach fr lo D tc zb w [.ref x0, .int p0, .int p1] "java/lang/IllegalArgumentException") (hw0 : w[0]? = some (x0, .inr (5, fs))) (hfr : fr ≤ 11) (hlo : lo ≤ 500) : IPn l yL_reach wsL_reach 12 560 1 6 D tc zb (w ++ [w_o tc bo fo]) (w ++ [w_o tc bo fo]) [.ref x0, .int p0, .int p1, .ref bo] (some (.int (nI 1))) := by
  refine IPn.ofT (cc := cL_reach) (maxL := 5) (ret := some .int) (hh := [(0, 10, 13, 13), (0, 10, 17, 28)]) (by decide) rfl (Nat.le_of_ble_eq_true rfl) ?_
  intro p e s m args below meth c A hx hb hr hml hlk hts hown hex hM hS hP hD ls hl
  have hl : lv_has ls 5 [(0, .ref x0), (1, .int p0), (2, .int p1), (3, .ref bo)] := hl
  refine lv_aload_n hx hb dL_reach_0 rfl (lv_at hl 3 rfl) ?_
  refine lv_iconst (v := nI 0) hx hb dL_reach_1 (by decide) ?_
  refine lv_aload_n hx hb dL_reach_2 rfl (lv_at hl 0 rfl) ?_
  refine lv_iload_n hx hb dL_reach_3 rfl (lv_at hl 1 rfl) ?_
  refine lv_iload_n hx hb dL_reach_4 rfl (lv_at hl 2 rfl) ?_
  refine th_VF (C := RX6) (n := 2) ⟨hx, hb, hml, hown, hts⟩ hM hS hP hc gL_reach_X6_reach rfl (by decide +kernel) ⟨by show fr + 1 ≤ 12; omega, by show 8 + (3 + 11) + lo ≤ 560; omega⟩ (va_recv hM.1 hP (ci := 5) (q0 := 0) rfl (by rw [List.getElem?_append_left (List.getElem?_eq_some_iff.mp hw0).1]; exact hw0)) rfl hl.1 rfl (Nat.le_of_ble_eq_true rfl) dL_reach_5 ⟨Nat.le_refl _, Nat.le_refl _⟩ (fun H q ce hP hS h3 h4 h5 => ?_)
  refine vx_catch (own := RL) (name := "java/lang/IllegalArgumentException") (E := "java/lang/IllegalArgumentException") hown [] ⟨0, 10, 13, 13⟩ [⟨0, 10, 17, 28⟩] hex (fun z hz => by cases hz) (by decide) (by decide) (hts (.classLink RL 13 "java/lang/IllegalArgumentException") (by decide +kernel)) (va_Nw.use rfl (hM.2.2.2.2.2.2.2.2.1 ("java/lang/IllegalArgumentException", "java/lang/IllegalArgumentException") (by decide +kernel))) h3 h4 h5 ?_
  refine W.eq (g2 := F0 m 13 ls [.ref q]) rfl ?_
  refine lv_astore (lv' := [(4, .ref q), (0, .ref x0), (1, .int p0), (2, .int p1), (3, .ref bo)]) hx hb dL_reach_13 hl (by decide) rfl (fun ls hl => ?_)
  refine lv_iconst (v := nI 1) hx hb dL_reach_15 (by decide) ?_
  exact ipn_iret hx hb hr hlk dL_reach_16 hS hP (Nat.le_refl _) (Nat.le_refl _)
set_option maxHeartbeats 4000000 in
set_option maxRecDepth 100000 in
theorem l_reach_t2 (l : Launch) (D : va_G) (tc : Nat → ClassId) (zb : Nat) {w : va_W} {x0 bo : Nat} {fs : List Value} (fo : Nat → Int64) {fr lo : Nat} {p0 : Int32} {p1 : Int32} (hc : TH l yX6_reach wsX6_reach fr lo D tc zb w [.ref x0, .int p0, .int p1] "java/lang/IndexOutOfBoundsException") (hw0 : w[0]? = some (x0, .inr (5, fs))) (hfr : fr ≤ 11) (hlo : lo ≤ 500) : IPn l yL_reach wsL_reach 12 560 1 6 D tc zb (w ++ [w_o tc bo fo]) (w ++ [w_o tc bo fo]) [.ref x0, .int p0, .int p1, .ref bo] (some (.int (nI 2))) := by
  refine IPn.ofT (cc := cL_reach) (maxL := 5) (ret := some .int) (hh := [(0, 10, 13, 13), (0, 10, 17, 28)]) (by decide) rfl (Nat.le_of_ble_eq_true rfl) ?_
  intro p e s m args below meth c A hx hb hr hml hlk hts hown hex hM hS hP hD ls hl
  have hl : lv_has ls 5 [(0, .ref x0), (1, .int p0), (2, .int p1), (3, .ref bo)] := hl
  refine lv_aload_n hx hb dL_reach_0 rfl (lv_at hl 3 rfl) ?_
  refine lv_iconst (v := nI 0) hx hb dL_reach_1 (by decide) ?_
  refine lv_aload_n hx hb dL_reach_2 rfl (lv_at hl 0 rfl) ?_
  refine lv_iload_n hx hb dL_reach_3 rfl (lv_at hl 1 rfl) ?_
  refine lv_iload_n hx hb dL_reach_4 rfl (lv_at hl 2 rfl) ?_
  refine th_VF (C := RX6) (n := 2) ⟨hx, hb, hml, hown, hts⟩ hM hS hP hc gL_reach_X6_reach rfl (by decide +kernel) ⟨by show fr + 1 ≤ 12; omega, by show 8 + (3 + 11) + lo ≤ 560; omega⟩ (va_recv hM.1 hP (ci := 5) (q0 := 0) rfl (by rw [List.getElem?_append_left (List.getElem?_eq_some_iff.mp hw0).1]; exact hw0)) rfl hl.1 rfl (Nat.le_of_ble_eq_true rfl) dL_reach_5 ⟨Nat.le_refl _, Nat.le_refl _⟩ (fun H q ce hP hS h3 h4 h5 => ?_)
  refine vx_catch (own := RL) (name := "java/lang/IndexOutOfBoundsException") (E := "java/lang/IndexOutOfBoundsException") hown [⟨0, 10, 13, 13⟩] ⟨0, 10, 17, 28⟩ [] hex (fun z hz => by rw [List.mem_singleton.mp hz]; exact Or.inr ⟨by decide, "java/lang/IllegalArgumentException", hts (.classLink RL 13 "java/lang/IllegalArgumentException") (by decide +kernel), hM.2.2.2.2.2.2.2.2.2 ("java/lang/IndexOutOfBoundsException", "java/lang/IllegalArgumentException") (by decide +kernel)⟩) (by decide) (by decide) (hts (.classLink RL 28 "java/lang/IndexOutOfBoundsException") (by decide +kernel)) (va_Nw.use rfl (hM.2.2.2.2.2.2.2.2.1 ("java/lang/IndexOutOfBoundsException", "java/lang/IndexOutOfBoundsException") (by decide +kernel))) h3 h4 h5 ?_
  refine W.eq (g2 := F0 m 17 ls [.ref q]) rfl ?_
  refine lv_astore (lv' := [(4, .ref q), (0, .ref x0), (1, .int p0), (2, .int p1), (3, .ref bo)]) hx hb dL_reach_17 hl (by decide) rfl (fun ls hl => ?_)
  refine lv_iconst (v := nI 2) hx hb dL_reach_19 (by decide) ?_
  exact ipn_iret hx hb hr hlk dL_reach_20 hS hP (Nat.le_refl _) (Nat.le_refl _)
set_option maxHeartbeats 4000000 in
set_option maxRecDepth 100000 in
theorem l_remembered_ok (l : Launch) (D : va_G) (tc : Nat → ClassId) (zb : Nat) {w w1 : va_W} {x0 bo : Nat} {fs : List Value} (fo : Nat → Int64) {fr lo : Nat} {p0 : Int32} {r : Int32} (hc : IP l yX6_remembered wsX6_remembered fr lo D tc zb w w1 [.ref x0, .int p0] (some (.int r))) (hw0 : w[0]? = some (x0, .inr (5, fs))) (had : w1.map Prod.fst = w.map Prod.fst) (hfr : fr ≤ 11) (hlo : lo ≤ 500) : IPn l yL_remembered wsL_remembered 12 560 1 6 D tc zb (w ++ [w_o tc bo fo]) (w1 ++ [w_o tc bo (vp_updL fo 0 r.toInt64)]) [.ref x0, .int p0, .ref bo] (some (.int (nI 0))) := by
  refine IPn.ofT (cc := cL_remembered) (maxL := 4) (ret := some .int) (hh := [(0, 9, 12, 13)]) (by decide) rfl (Nat.le_of_ble_eq_true rfl) ?_
  intro p e s m args below meth c A hx hb hr hml hlk hts hown hex hM hS hP hD ls hl
  have hl : lv_has ls 4 [(0, .ref x0), (1, .int p0), (2, .ref bo)] := hl
  refine lv_aload_n hx hb dL_remembered_0 rfl (lv_at hl 2 rfl) ?_
  refine lv_iconst (v := nI 0) hx hb dL_remembered_1 (by decide) ?_
  refine lv_aload_n hx hb dL_remembered_2 rfl (lv_at hl 0 rfl) ?_
  refine lv_iload_n hx hb dL_remembered_3 rfl (lv_at hl 1 rfl) ?_
  refine ipF_V (C := RX6) (n := 1) ⟨hx, hb, hml, hown, hts⟩ hM hS hP hD (IPn.app (mc := 0) (ms := 0) hc [w_o tc bo fo]) gL_remembered_X6_remembered rfl (by decide +kernel) ⟨by show fr + 1 ≤ 12; omega, by show 8 + (2 + 11) + lo ≤ 560; omega⟩ (by rw [List.map_append, List.map_append, had]) (va_recv hM.1 hP (ci := 5) (q0 := 0) rfl (by rw [List.getElem?_append_left (List.getElem?_eq_some_iff.mp hw0).1]; exact hw0)) rfl hl.1 rfl (Nat.le_of_ble_eq_true rfl) dL_remembered_4 ⟨Nat.zero_le _, Nat.zero_le _⟩ (fun H locs hP hD hS => ?_)
  refine W.eq (g2 := F0 m 7 ls [.int r, .int (nI 0), .ref bo]) rfl ?_
  refine lv_i2l (v := r.toInt64) hx hb dL_remembered_7 rfl ?_
  refine lx_last hx hb hM.1 hP hD hS dL_remembered_8 (fun H locs hP hD hS => ?_)
  refine lv_goto (tgt := 15) hx hb dL_remembered_9 (by decide) ?_
  refine lv_iconst (v := nI 0) hx hb dL_remembered_15 (by decide) ?_
  exact ipn_iret hx hb hr hlk dL_remembered_16 hS hP (Nat.zero_le _) (Nat.zero_le _)
set_option maxHeartbeats 4000000 in
set_option maxRecDepth 100000 in
theorem l_remembered_t1 (l : Launch) (D : va_G) (tc : Nat → ClassId) (zb : Nat) {w : va_W} {x0 bo : Nat} {fs : List Value} (fo : Nat → Int64) {fr lo : Nat} {p0 : Int32} (hc : TH l yX6_remembered wsX6_remembered fr lo D tc zb w [.ref x0, .int p0] "java/lang/IllegalArgumentException") (hw0 : w[0]? = some (x0, .inr (5, fs))) (hfr : fr ≤ 11) (hlo : lo ≤ 500) : IPn l yL_remembered wsL_remembered 12 560 1 6 D tc zb (w ++ [w_o tc bo fo]) (w ++ [w_o tc bo fo]) [.ref x0, .int p0, .ref bo] (some (.int (nI 1))) := by
  refine IPn.ofT (cc := cL_remembered) (maxL := 4) (ret := some .int) (hh := [(0, 9, 12, 13)]) (by decide) rfl (Nat.le_of_ble_eq_true rfl) ?_
  intro p e s m args below meth c A hx hb hr hml hlk hts hown hex hM hS hP hD ls hl
  have hl : lv_has ls 4 [(0, .ref x0), (1, .int p0), (2, .ref bo)] := hl
  refine lv_aload_n hx hb dL_remembered_0 rfl (lv_at hl 2 rfl) ?_
  refine lv_iconst (v := nI 0) hx hb dL_remembered_1 (by decide) ?_
  refine lv_aload_n hx hb dL_remembered_2 rfl (lv_at hl 0 rfl) ?_
  refine lv_iload_n hx hb dL_remembered_3 rfl (lv_at hl 1 rfl) ?_
  refine th_VF (C := RX6) (n := 1) ⟨hx, hb, hml, hown, hts⟩ hM hS hP hc gL_remembered_X6_remembered rfl (by decide +kernel) ⟨by show fr + 1 ≤ 12; omega, by show 8 + (2 + 11) + lo ≤ 560; omega⟩ (va_recv hM.1 hP (ci := 5) (q0 := 0) rfl (by rw [List.getElem?_append_left (List.getElem?_eq_some_iff.mp hw0).1]; exact hw0)) rfl hl.1 rfl (Nat.le_of_ble_eq_true rfl) dL_remembered_4 ⟨Nat.le_refl _, Nat.le_refl _⟩ (fun H q ce hP hS h3 h4 h5 => ?_)
  refine vx_catch (own := RL) (name := "java/lang/IllegalArgumentException") (E := "java/lang/IllegalArgumentException") hown [] ⟨0, 9, 12, 13⟩ [] hex (fun z hz => by cases hz) (by decide) (by decide) (hts (.classLink RL 13 "java/lang/IllegalArgumentException") (by decide +kernel)) (va_Nw.use rfl (hM.2.2.2.2.2.2.2.2.1 ("java/lang/IllegalArgumentException", "java/lang/IllegalArgumentException") (by decide +kernel))) h3 h4 h5 ?_
  refine W.eq (g2 := F0 m 12 ls [.ref q]) rfl ?_
  refine lv_astore_n (lv' := [(3, .ref q), (0, .ref x0), (1, .int p0), (2, .ref bo)]) hx hb dL_remembered_12 rfl hl (by decide) rfl (fun ls hl => ?_)
  refine lv_iconst (v := nI 1) hx hb dL_remembered_13 (by decide) ?_
  exact ipn_iret hx hb hr hlk dL_remembered_14 hS hP (Nat.le_refl _) (Nat.le_refl _)
set_option maxHeartbeats 4000000 in
set_option maxRecDepth 100000 in
theorem l_remove_ok (l : Launch) (D : va_G) (tc : Nat → ClassId) (zb : Nat) {w w1 : va_W} {x0 bo : Nat} {fs : List Value} (fo : Nat → Int64) {fr lo : Nat} {p0 : Int32} {r : Int32} (hc : IP l yX6_remove wsX6_remove fr lo D tc zb w w1 [.ref x0, .int p0] (some (.int r))) (hw0 : w[0]? = some (x0, .inr (5, fs))) (had : w1.map Prod.fst = w.map Prod.fst) (hfr : fr ≤ 11) (hlo : lo ≤ 500) : IPn l yL_remove wsL_remove 12 560 1 6 D tc zb (w ++ [w_o tc bo fo]) (w1 ++ [w_o tc bo (vp_updL fo 0 r.toInt64)]) [.ref x0, .int p0, .ref bo] (some (.int (nI 0))) := by
  refine IPn.ofT (cc := cL_remove) (maxL := 4) (ret := some .int) (hh := [(0, 9, 12, 13)]) (by decide) rfl (Nat.le_of_ble_eq_true rfl) ?_
  intro p e s m args below meth c A hx hb hr hml hlk hts hown hex hM hS hP hD ls hl
  have hl : lv_has ls 4 [(0, .ref x0), (1, .int p0), (2, .ref bo)] := hl
  refine lv_aload_n hx hb dL_remove_0 rfl (lv_at hl 2 rfl) ?_
  refine lv_iconst (v := nI 0) hx hb dL_remove_1 (by decide) ?_
  refine lv_aload_n hx hb dL_remove_2 rfl (lv_at hl 0 rfl) ?_
  refine lv_iload_n hx hb dL_remove_3 rfl (lv_at hl 1 rfl) ?_
  refine ipF_V (C := RX6) (n := 1) ⟨hx, hb, hml, hown, hts⟩ hM hS hP hD (IPn.app (mc := 0) (ms := 0) hc [w_o tc bo fo]) gL_remove_X6_remove rfl (by decide +kernel) ⟨by show fr + 1 ≤ 12; omega, by show 8 + (2 + 11) + lo ≤ 560; omega⟩ (by rw [List.map_append, List.map_append, had]) (va_recv hM.1 hP (ci := 5) (q0 := 0) rfl (by rw [List.getElem?_append_left (List.getElem?_eq_some_iff.mp hw0).1]; exact hw0)) rfl hl.1 rfl (Nat.le_of_ble_eq_true rfl) dL_remove_4 ⟨Nat.zero_le _, Nat.zero_le _⟩ (fun H locs hP hD hS => ?_)
  refine W.eq (g2 := F0 m 7 ls [.int r, .int (nI 0), .ref bo]) rfl ?_
  refine lv_i2l (v := r.toInt64) hx hb dL_remove_7 rfl ?_
  refine lx_last hx hb hM.1 hP hD hS dL_remove_8 (fun H locs hP hD hS => ?_)
  refine lv_goto (tgt := 15) hx hb dL_remove_9 (by decide) ?_
  refine lv_iconst (v := nI 0) hx hb dL_remove_15 (by decide) ?_
  exact ipn_iret hx hb hr hlk dL_remove_16 hS hP (Nat.zero_le _) (Nat.zero_le _)
set_option maxHeartbeats 4000000 in
set_option maxRecDepth 100000 in
theorem l_remove_t1 (l : Launch) (D : va_G) (tc : Nat → ClassId) (zb : Nat) {w : va_W} {x0 bo : Nat} {fs : List Value} (fo : Nat → Int64) {fr lo : Nat} {p0 : Int32} (hc : TH l yX6_remove wsX6_remove fr lo D tc zb w [.ref x0, .int p0] "java/lang/IllegalArgumentException") (hw0 : w[0]? = some (x0, .inr (5, fs))) (hfr : fr ≤ 11) (hlo : lo ≤ 500) : IPn l yL_remove wsL_remove 12 560 1 6 D tc zb (w ++ [w_o tc bo fo]) (w ++ [w_o tc bo fo]) [.ref x0, .int p0, .ref bo] (some (.int (nI 1))) := by
  refine IPn.ofT (cc := cL_remove) (maxL := 4) (ret := some .int) (hh := [(0, 9, 12, 13)]) (by decide) rfl (Nat.le_of_ble_eq_true rfl) ?_
  intro p e s m args below meth c A hx hb hr hml hlk hts hown hex hM hS hP hD ls hl
  have hl : lv_has ls 4 [(0, .ref x0), (1, .int p0), (2, .ref bo)] := hl
  refine lv_aload_n hx hb dL_remove_0 rfl (lv_at hl 2 rfl) ?_
  refine lv_iconst (v := nI 0) hx hb dL_remove_1 (by decide) ?_
  refine lv_aload_n hx hb dL_remove_2 rfl (lv_at hl 0 rfl) ?_
  refine lv_iload_n hx hb dL_remove_3 rfl (lv_at hl 1 rfl) ?_
  refine th_VF (C := RX6) (n := 1) ⟨hx, hb, hml, hown, hts⟩ hM hS hP hc gL_remove_X6_remove rfl (by decide +kernel) ⟨by show fr + 1 ≤ 12; omega, by show 8 + (2 + 11) + lo ≤ 560; omega⟩ (va_recv hM.1 hP (ci := 5) (q0 := 0) rfl (by rw [List.getElem?_append_left (List.getElem?_eq_some_iff.mp hw0).1]; exact hw0)) rfl hl.1 rfl (Nat.le_of_ble_eq_true rfl) dL_remove_4 ⟨Nat.le_refl _, Nat.le_refl _⟩ (fun H q ce hP hS h3 h4 h5 => ?_)
  refine vx_catch (own := RL) (name := "java/lang/IllegalArgumentException") (E := "java/lang/IllegalArgumentException") hown [] ⟨0, 9, 12, 13⟩ [] hex (fun z hz => by cases hz) (by decide) (by decide) (hts (.classLink RL 13 "java/lang/IllegalArgumentException") (by decide +kernel)) (va_Nw.use rfl (hM.2.2.2.2.2.2.2.2.1 ("java/lang/IllegalArgumentException", "java/lang/IllegalArgumentException") (by decide +kernel))) h3 h4 h5 ?_
  refine W.eq (g2 := F0 m 12 ls [.ref q]) rfl ?_
  refine lv_astore_n (lv' := [(3, .ref q), (0, .ref x0), (1, .int p0), (2, .ref bo)]) hx hb dL_remove_12 rfl hl (by decide) rfl (fun ls hl => ?_)
  refine lv_iconst (v := nI 1) hx hb dL_remove_13 (by decide) ?_
  exact ipn_iret hx hb hr hlk dL_remove_14 hS hP (Nat.le_refl _) (Nat.le_refl _)
set_option maxHeartbeats 4000000 in
set_option maxRecDepth 100000 in
theorem l_restore_ok (l : Launch) (D : va_G) (tc : Nat → ClassId) (zb : Nat) {w w1 : va_W} {x0 bo : Nat} {fs : List Value} (fo : Nat → Int64) {fr lo : Nat} {p0 : Int32} {r : Int32} (hc : IP l yX6_restore wsX6_restore fr lo D tc zb w w1 [.ref x0, .int p0] (some (.int r))) (hw0 : w[0]? = some (x0, .inr (5, fs))) (had : w1.map Prod.fst = w.map Prod.fst) (hfr : fr ≤ 11) (hlo : lo ≤ 500) : IPn l yL_restore wsL_restore 12 560 1 6 D tc zb (w ++ [w_o tc bo fo]) (w1 ++ [w_o tc bo (vp_updL fo 0 r.toInt64)]) [.ref x0, .int p0, .ref bo] (some (.int (nI 0))) := by
  refine IPn.ofT (cc := cL_restore) (maxL := 4) (ret := some .int) (hh := [(0, 9, 12, 28), (0, 9, 15, 15)]) (by decide) rfl (Nat.le_of_ble_eq_true rfl) ?_
  intro p e s m args below meth c A hx hb hr hml hlk hts hown hex hM hS hP hD ls hl
  have hl : lv_has ls 4 [(0, .ref x0), (1, .int p0), (2, .ref bo)] := hl
  refine lv_aload_n hx hb dL_restore_0 rfl (lv_at hl 2 rfl) ?_
  refine lv_iconst (v := nI 0) hx hb dL_restore_1 (by decide) ?_
  refine lv_aload_n hx hb dL_restore_2 rfl (lv_at hl 0 rfl) ?_
  refine lv_iload_n hx hb dL_restore_3 rfl (lv_at hl 1 rfl) ?_
  refine ipF_V (C := RX6) (n := 1) ⟨hx, hb, hml, hown, hts⟩ hM hS hP hD (IPn.app (mc := 0) (ms := 0) hc [w_o tc bo fo]) gL_restore_X6_restore rfl (by decide +kernel) ⟨by show fr + 1 ≤ 12; omega, by show 8 + (3 + 11) + lo ≤ 560; omega⟩ (by rw [List.map_append, List.map_append, had]) (va_recv hM.1 hP (ci := 5) (q0 := 0) rfl (by rw [List.getElem?_append_left (List.getElem?_eq_some_iff.mp hw0).1]; exact hw0)) rfl hl.1 rfl (Nat.le_of_ble_eq_true rfl) dL_restore_4 ⟨Nat.zero_le _, Nat.zero_le _⟩ (fun H locs hP hD hS => ?_)
  refine W.eq (g2 := F0 m 7 ls [.int r, .int (nI 0), .ref bo]) rfl ?_
  refine lv_i2l (v := r.toInt64) hx hb dL_restore_7 rfl ?_
  refine lx_last hx hb hM.1 hP hD hS dL_restore_8 (fun H locs hP hD hS => ?_)
  refine lv_goto (tgt := 18) hx hb dL_restore_9 (by decide) ?_
  refine lv_iconst (v := nI 0) hx hb dL_restore_18 (by decide) ?_
  exact ipn_iret hx hb hr hlk dL_restore_19 hS hP (Nat.zero_le _) (Nat.zero_le _)
set_option maxHeartbeats 4000000 in
set_option maxRecDepth 100000 in
theorem l_restore_t1 (l : Launch) (D : va_G) (tc : Nat → ClassId) (zb : Nat) {w : va_W} {x0 bo : Nat} {fs : List Value} (fo : Nat → Int64) {fr lo : Nat} {p0 : Int32} (hc : TH l yX6_restore wsX6_restore fr lo D tc zb w [.ref x0, .int p0] "java/lang/IndexOutOfBoundsException") (hw0 : w[0]? = some (x0, .inr (5, fs))) (hfr : fr ≤ 11) (hlo : lo ≤ 500) : IPn l yL_restore wsL_restore 12 560 1 6 D tc zb (w ++ [w_o tc bo fo]) (w ++ [w_o tc bo fo]) [.ref x0, .int p0, .ref bo] (some (.int (nI 1))) := by
  refine IPn.ofT (cc := cL_restore) (maxL := 4) (ret := some .int) (hh := [(0, 9, 12, 28), (0, 9, 15, 15)]) (by decide) rfl (Nat.le_of_ble_eq_true rfl) ?_
  intro p e s m args below meth c A hx hb hr hml hlk hts hown hex hM hS hP hD ls hl
  have hl : lv_has ls 4 [(0, .ref x0), (1, .int p0), (2, .ref bo)] := hl
  refine lv_aload_n hx hb dL_restore_0 rfl (lv_at hl 2 rfl) ?_
  refine lv_iconst (v := nI 0) hx hb dL_restore_1 (by decide) ?_
  refine lv_aload_n hx hb dL_restore_2 rfl (lv_at hl 0 rfl) ?_
  refine lv_iload_n hx hb dL_restore_3 rfl (lv_at hl 1 rfl) ?_
  refine th_VF (C := RX6) (n := 1) ⟨hx, hb, hml, hown, hts⟩ hM hS hP hc gL_restore_X6_restore rfl (by decide +kernel) ⟨by show fr + 1 ≤ 12; omega, by show 8 + (3 + 11) + lo ≤ 560; omega⟩ (va_recv hM.1 hP (ci := 5) (q0 := 0) rfl (by rw [List.getElem?_append_left (List.getElem?_eq_some_iff.mp hw0).1]; exact hw0)) rfl hl.1 rfl (Nat.le_of_ble_eq_true rfl) dL_restore_4 ⟨Nat.le_refl _, Nat.le_refl _⟩ (fun H q ce hP hS h3 h4 h5 => ?_)
  refine vx_catch (own := RL) (name := "java/lang/IndexOutOfBoundsException") (E := "java/lang/IndexOutOfBoundsException") hown [] ⟨0, 9, 12, 28⟩ [⟨0, 9, 15, 15⟩] hex (fun z hz => by cases hz) (by decide) (by decide) (hts (.classLink RL 28 "java/lang/IndexOutOfBoundsException") (by decide +kernel)) (va_Nw.use rfl (hM.2.2.2.2.2.2.2.2.1 ("java/lang/IndexOutOfBoundsException", "java/lang/IndexOutOfBoundsException") (by decide +kernel))) h3 h4 h5 ?_
  refine W.eq (g2 := F0 m 12 ls [.ref q]) rfl ?_
  refine lv_astore_n (lv' := [(3, .ref q), (0, .ref x0), (1, .int p0), (2, .ref bo)]) hx hb dL_restore_12 rfl hl (by decide) rfl (fun ls hl => ?_)
  refine lv_iconst (v := nI 1) hx hb dL_restore_13 (by decide) ?_
  exact ipn_iret hx hb hr hlk dL_restore_14 hS hP (Nat.le_refl _) (Nat.le_refl _)
set_option maxHeartbeats 4000000 in
set_option maxRecDepth 100000 in
theorem l_restore_t2 (l : Launch) (D : va_G) (tc : Nat → ClassId) (zb : Nat) {w : va_W} {x0 bo : Nat} {fs : List Value} (fo : Nat → Int64) {fr lo : Nat} {p0 : Int32} (hc : TH l yX6_restore wsX6_restore fr lo D tc zb w [.ref x0, .int p0] "java/lang/IllegalStateException") (hw0 : w[0]? = some (x0, .inr (5, fs))) (hfr : fr ≤ 11) (hlo : lo ≤ 500) : IPn l yL_restore wsL_restore 12 560 1 6 D tc zb (w ++ [w_o tc bo fo]) (w ++ [w_o tc bo fo]) [.ref x0, .int p0, .ref bo] (some (.int (nI 2))) := by
  refine IPn.ofT (cc := cL_restore) (maxL := 4) (ret := some .int) (hh := [(0, 9, 12, 28), (0, 9, 15, 15)]) (by decide) rfl (Nat.le_of_ble_eq_true rfl) ?_
  intro p e s m args below meth c A hx hb hr hml hlk hts hown hex hM hS hP hD ls hl
  have hl : lv_has ls 4 [(0, .ref x0), (1, .int p0), (2, .ref bo)] := hl
  refine lv_aload_n hx hb dL_restore_0 rfl (lv_at hl 2 rfl) ?_
  refine lv_iconst (v := nI 0) hx hb dL_restore_1 (by decide) ?_
  refine lv_aload_n hx hb dL_restore_2 rfl (lv_at hl 0 rfl) ?_
  refine lv_iload_n hx hb dL_restore_3 rfl (lv_at hl 1 rfl) ?_
  refine th_VF (C := RX6) (n := 1) ⟨hx, hb, hml, hown, hts⟩ hM hS hP hc gL_restore_X6_restore rfl (by decide +kernel) ⟨by show fr + 1 ≤ 12; omega, by show 8 + (3 + 11) + lo ≤ 560; omega⟩ (va_recv hM.1 hP (ci := 5) (q0 := 0) rfl (by rw [List.getElem?_append_left (List.getElem?_eq_some_iff.mp hw0).1]; exact hw0)) rfl hl.1 rfl (Nat.le_of_ble_eq_true rfl) dL_restore_4 ⟨Nat.le_refl _, Nat.le_refl _⟩ (fun H q ce hP hS h3 h4 h5 => ?_)
  refine vx_catch (own := RL) (name := "java/lang/IllegalStateException") (E := "java/lang/IllegalStateException") hown [⟨0, 9, 12, 28⟩] ⟨0, 9, 15, 15⟩ [] hex (fun z hz => by rw [List.mem_singleton.mp hz]; exact Or.inr ⟨by decide, "java/lang/IndexOutOfBoundsException", hts (.classLink RL 28 "java/lang/IndexOutOfBoundsException") (by decide +kernel), hM.2.2.2.2.2.2.2.2.2 ("java/lang/IllegalStateException", "java/lang/IndexOutOfBoundsException") (by decide +kernel)⟩) (by decide) (by decide) (hts (.classLink RL 15 "java/lang/IllegalStateException") (by decide +kernel)) (va_Nw.use rfl (hM.2.2.2.2.2.2.2.2.1 ("java/lang/IllegalStateException", "java/lang/IllegalStateException") (by decide +kernel))) h3 h4 h5 ?_
  refine W.eq (g2 := F0 m 15 ls [.ref q]) rfl ?_
  refine lv_astore_n (lv' := [(3, .ref q), (0, .ref x0), (1, .int p0), (2, .ref bo)]) hx hb dL_restore_15 rfl hl (by decide) rfl (fun ls hl => ?_)
  refine lv_iconst (v := nI 2) hx hb dL_restore_16 (by decide) ?_
  exact ipn_iret hx hb hr hlk dL_restore_17 hS hP (Nat.le_refl _) (Nat.le_refl _)
set_option maxHeartbeats 4000000 in
set_option maxRecDepth 100000 in
theorem l_runScript_ok (l : Launch) (D : va_G) (tc : Nat → ClassId) (zb : Nat) {w w1 : va_W} {x0 bo : Nat} {fs : List Value} (fo : Nat → Int64) {fr lo : Nat} {p0 : Int32} {p1 : Int64} {r : Int32} (hc : IP l yX6_runScript wsX6_runScript fr lo D tc zb w w1 [.ref x0, .int p0, .long p1] (some (.int r))) (hw0 : w[0]? = some (x0, .inr (5, fs))) (had : w1.map Prod.fst = w.map Prod.fst) (hfr : fr ≤ 11) (hlo : lo ≤ 500) : IPn l yL_runScript wsL_runScript 12 560 1 6 D tc zb (w ++ [w_o tc bo fo]) (w1 ++ [w_o tc bo (vp_updL fo 0 r.toInt64)]) [.ref x0, .int p0, .long p1, .ref bo] (some (.int (nI 0))) := by
  refine IPn.ofT (cc := cL_runScript) (maxL := 6) (ret := some .int) (hh := [(0, 11, 14, 13)]) (by decide) rfl (Nat.le_of_ble_eq_true rfl) ?_
  intro p e s m args below meth c A hx hb hr hml hlk hts hown hex hM hS hP hD ls hl
  have hl : lv_has ls 6 [(0, .ref x0), (1, .int p0), (2, .long p1), (4, .ref bo)] := hl
  refine lv_aload hx hb dL_runScript_0 (lv_at hl 3 rfl) ?_
  refine lv_iconst (v := nI 0) hx hb dL_runScript_2 (by decide) ?_
  refine lv_aload_n hx hb dL_runScript_3 rfl (lv_at hl 0 rfl) ?_
  refine lv_iload_n hx hb dL_runScript_4 rfl (lv_at hl 1 rfl) ?_
  refine lv_lload_n hx hb dL_runScript_5 rfl (lv_at hl 2 rfl) ?_
  refine ipF_V (C := RX6) (n := 2) ⟨hx, hb, hml, hown, hts⟩ hM hS hP hD (IPn.app (mc := 0) (ms := 0) hc [w_o tc bo fo]) gL_runScript_X6_runScript rfl (by decide +kernel) ⟨by show fr + 1 ≤ 12; omega, by show 8 + (5 + 11) + lo ≤ 560; omega⟩ (by rw [List.map_append, List.map_append, had]) (va_recv hM.1 hP (ci := 5) (q0 := 0) rfl (by rw [List.getElem?_append_left (List.getElem?_eq_some_iff.mp hw0).1]; exact hw0)) rfl hl.1 rfl (Nat.le_of_ble_eq_true rfl) dL_runScript_6 ⟨Nat.zero_le _, Nat.zero_le _⟩ (fun H locs hP hD hS => ?_)
  refine W.eq (g2 := F0 m 9 ls [.int r, .int (nI 0), .ref bo]) rfl ?_
  refine lv_i2l (v := r.toInt64) hx hb dL_runScript_9 rfl ?_
  refine lx_last hx hb hM.1 hP hD hS dL_runScript_10 (fun H locs hP hD hS => ?_)
  refine lv_goto (tgt := 18) hx hb dL_runScript_11 (by decide) ?_
  refine lv_iconst (v := nI 0) hx hb dL_runScript_18 (by decide) ?_
  exact ipn_iret hx hb hr hlk dL_runScript_19 hS hP (Nat.zero_le _) (Nat.zero_le _)
set_option maxHeartbeats 4000000 in
set_option maxRecDepth 100000 in
theorem l_runScript_t1 (l : Launch) (D : va_G) (tc : Nat → ClassId) (zb : Nat) {w : va_W} {x0 bo : Nat} {fs : List Value} (fo : Nat → Int64) {fr lo : Nat} {p0 : Int32} {p1 : Int64} (hc : TH l yX6_runScript wsX6_runScript fr lo D tc zb w [.ref x0, .int p0, .long p1] "java/lang/IllegalArgumentException") (hw0 : w[0]? = some (x0, .inr (5, fs))) (hfr : fr ≤ 11) (hlo : lo ≤ 500) : IPn l yL_runScript wsL_runScript 12 560 1 6 D tc zb (w ++ [w_o tc bo fo]) (w ++ [w_o tc bo fo]) [.ref x0, .int p0, .long p1, .ref bo] (some (.int (nI 1))) := by
  refine IPn.ofT (cc := cL_runScript) (maxL := 6) (ret := some .int) (hh := [(0, 11, 14, 13)]) (by decide) rfl (Nat.le_of_ble_eq_true rfl) ?_
  intro p e s m args below meth c A hx hb hr hml hlk hts hown hex hM hS hP hD ls hl
  have hl : lv_has ls 6 [(0, .ref x0), (1, .int p0), (2, .long p1), (4, .ref bo)] := hl
  refine lv_aload hx hb dL_runScript_0 (lv_at hl 3 rfl) ?_
  refine lv_iconst (v := nI 0) hx hb dL_runScript_2 (by decide) ?_
  refine lv_aload_n hx hb dL_runScript_3 rfl (lv_at hl 0 rfl) ?_
  refine lv_iload_n hx hb dL_runScript_4 rfl (lv_at hl 1 rfl) ?_
  refine lv_lload_n hx hb dL_runScript_5 rfl (lv_at hl 2 rfl) ?_
  refine th_VF (C := RX6) (n := 2) ⟨hx, hb, hml, hown, hts⟩ hM hS hP hc gL_runScript_X6_runScript rfl (by decide +kernel) ⟨by show fr + 1 ≤ 12; omega, by show 8 + (5 + 11) + lo ≤ 560; omega⟩ (va_recv hM.1 hP (ci := 5) (q0 := 0) rfl (by rw [List.getElem?_append_left (List.getElem?_eq_some_iff.mp hw0).1]; exact hw0)) rfl hl.1 rfl (Nat.le_of_ble_eq_true rfl) dL_runScript_6 ⟨Nat.le_refl _, Nat.le_refl _⟩ (fun H q ce hP hS h3 h4 h5 => ?_)
  refine vx_catch (own := RL) (name := "java/lang/IllegalArgumentException") (E := "java/lang/IllegalArgumentException") hown [] ⟨0, 11, 14, 13⟩ [] hex (fun z hz => by cases hz) (by decide) (by decide) (hts (.classLink RL 13 "java/lang/IllegalArgumentException") (by decide +kernel)) (va_Nw.use rfl (hM.2.2.2.2.2.2.2.2.1 ("java/lang/IllegalArgumentException", "java/lang/IllegalArgumentException") (by decide +kernel))) h3 h4 h5 ?_
  refine W.eq (g2 := F0 m 14 ls [.ref q]) rfl ?_
  refine lv_astore (lv' := [(5, .ref q), (0, .ref x0), (1, .int p0), (2, .long p1), (4, .ref bo)]) hx hb dL_runScript_14 hl (by decide) rfl (fun ls hl => ?_)
  refine lv_iconst (v := nI 1) hx hb dL_runScript_16 (by decide) ?_
  exact ipn_iret hx hb hr hlk dL_runScript_17 hS hP (Nat.le_refl _) (Nat.le_refl _)
set_option maxHeartbeats 4000000 in
set_option maxRecDepth 100000 in
theorem l_save_ok (l : Launch) (D : va_G) (tc : Nat → ClassId) (zb : Nat) {w w1 : va_W} {x0 bo : Nat} {fs : List Value} (fo : Nat → Int64) {fr lo : Nat} {p0 : Int32} {r : Int32} (hc : IP l yX6_save wsX6_save fr lo D tc zb w w1 [.ref x0, .int p0] (some (.int r))) (hw0 : w[0]? = some (x0, .inr (5, fs))) (had : w1.map Prod.fst = w.map Prod.fst) (hfr : fr ≤ 11) (hlo : lo ≤ 500) : IPn l yL_save wsL_save 12 560 1 6 D tc zb (w ++ [w_o tc bo fo]) (w1 ++ [w_o tc bo (vp_updL fo 0 r.toInt64)]) [.ref x0, .int p0, .ref bo] (some (.int (nI 0))) := by
  refine IPn.ofT (cc := cL_save) (maxL := 4) (ret := some .int) (hh := [(0, 9, 12, 28)]) (by decide) rfl (Nat.le_of_ble_eq_true rfl) ?_
  intro p e s m args below meth c A hx hb hr hml hlk hts hown hex hM hS hP hD ls hl
  have hl : lv_has ls 4 [(0, .ref x0), (1, .int p0), (2, .ref bo)] := hl
  refine lv_aload_n hx hb dL_save_0 rfl (lv_at hl 2 rfl) ?_
  refine lv_iconst (v := nI 0) hx hb dL_save_1 (by decide) ?_
  refine lv_aload_n hx hb dL_save_2 rfl (lv_at hl 0 rfl) ?_
  refine lv_iload_n hx hb dL_save_3 rfl (lv_at hl 1 rfl) ?_
  refine ipF_V (C := RX6) (n := 1) ⟨hx, hb, hml, hown, hts⟩ hM hS hP hD (IPn.app (mc := 0) (ms := 0) hc [w_o tc bo fo]) gL_save_X6_save rfl (by decide +kernel) ⟨by show fr + 1 ≤ 12; omega, by show 8 + (2 + 11) + lo ≤ 560; omega⟩ (by rw [List.map_append, List.map_append, had]) (va_recv hM.1 hP (ci := 5) (q0 := 0) rfl (by rw [List.getElem?_append_left (List.getElem?_eq_some_iff.mp hw0).1]; exact hw0)) rfl hl.1 rfl (Nat.le_of_ble_eq_true rfl) dL_save_4 ⟨Nat.zero_le _, Nat.zero_le _⟩ (fun H locs hP hD hS => ?_)
  refine W.eq (g2 := F0 m 7 ls [.int r, .int (nI 0), .ref bo]) rfl ?_
  refine lv_i2l (v := r.toInt64) hx hb dL_save_7 rfl ?_
  refine lx_last hx hb hM.1 hP hD hS dL_save_8 (fun H locs hP hD hS => ?_)
  refine lv_goto (tgt := 15) hx hb dL_save_9 (by decide) ?_
  refine lv_iconst (v := nI 0) hx hb dL_save_15 (by decide) ?_
  exact ipn_iret hx hb hr hlk dL_save_16 hS hP (Nat.zero_le _) (Nat.zero_le _)
set_option maxHeartbeats 4000000 in
set_option maxRecDepth 100000 in
theorem l_save_t1 (l : Launch) (D : va_G) (tc : Nat → ClassId) (zb : Nat) {w : va_W} {x0 bo : Nat} {fs : List Value} (fo : Nat → Int64) {fr lo : Nat} {p0 : Int32} (hc : TH l yX6_save wsX6_save fr lo D tc zb w [.ref x0, .int p0] "java/lang/IndexOutOfBoundsException") (hw0 : w[0]? = some (x0, .inr (5, fs))) (hfr : fr ≤ 11) (hlo : lo ≤ 500) : IPn l yL_save wsL_save 12 560 1 6 D tc zb (w ++ [w_o tc bo fo]) (w ++ [w_o tc bo fo]) [.ref x0, .int p0, .ref bo] (some (.int (nI 1))) := by
  refine IPn.ofT (cc := cL_save) (maxL := 4) (ret := some .int) (hh := [(0, 9, 12, 28)]) (by decide) rfl (Nat.le_of_ble_eq_true rfl) ?_
  intro p e s m args below meth c A hx hb hr hml hlk hts hown hex hM hS hP hD ls hl
  have hl : lv_has ls 4 [(0, .ref x0), (1, .int p0), (2, .ref bo)] := hl
  refine lv_aload_n hx hb dL_save_0 rfl (lv_at hl 2 rfl) ?_
  refine lv_iconst (v := nI 0) hx hb dL_save_1 (by decide) ?_
  refine lv_aload_n hx hb dL_save_2 rfl (lv_at hl 0 rfl) ?_
  refine lv_iload_n hx hb dL_save_3 rfl (lv_at hl 1 rfl) ?_
  refine th_VF (C := RX6) (n := 1) ⟨hx, hb, hml, hown, hts⟩ hM hS hP hc gL_save_X6_save rfl (by decide +kernel) ⟨by show fr + 1 ≤ 12; omega, by show 8 + (2 + 11) + lo ≤ 560; omega⟩ (va_recv hM.1 hP (ci := 5) (q0 := 0) rfl (by rw [List.getElem?_append_left (List.getElem?_eq_some_iff.mp hw0).1]; exact hw0)) rfl hl.1 rfl (Nat.le_of_ble_eq_true rfl) dL_save_4 ⟨Nat.le_refl _, Nat.le_refl _⟩ (fun H q ce hP hS h3 h4 h5 => ?_)
  refine vx_catch (own := RL) (name := "java/lang/IndexOutOfBoundsException") (E := "java/lang/IndexOutOfBoundsException") hown [] ⟨0, 9, 12, 28⟩ [] hex (fun z hz => by cases hz) (by decide) (by decide) (hts (.classLink RL 28 "java/lang/IndexOutOfBoundsException") (by decide +kernel)) (va_Nw.use rfl (hM.2.2.2.2.2.2.2.2.1 ("java/lang/IndexOutOfBoundsException", "java/lang/IndexOutOfBoundsException") (by decide +kernel))) h3 h4 h5 ?_
  refine W.eq (g2 := F0 m 12 ls [.ref q]) rfl ?_
  refine lv_astore_n (lv' := [(3, .ref q), (0, .ref x0), (1, .int p0), (2, .ref bo)]) hx hb dL_save_12 rfl hl (by decide) rfl (fun ls hl => ?_)
  refine lv_iconst (v := nI 1) hx hb dL_save_13 (by decide) ?_
  exact ipn_iret hx hb hr hlk dL_save_14 hS hP (Nat.le_refl _) (Nat.le_refl _)
set_option maxHeartbeats 4000000 in
set_option maxRecDepth 100000 in
theorem l_setWeight_ok (l : Launch) (D : va_G) (tc : Nat → ClassId) (zb : Nat) {w w1 : va_W} {x0 bo : Nat} {fs : List Value} (fo : Nat → Int64) {fr lo : Nat} {p0 : Int32} {r : Int32} (hc : IP l yX6_setWeight wsX6_setWeight fr lo D tc zb w w1 [.ref x0, .int p0] (some (.int r))) (hw0 : w[0]? = some (x0, .inr (5, fs))) (had : w1.map Prod.fst = w.map Prod.fst) (hfr : fr ≤ 11) (hlo : lo ≤ 500) : IPn l yL_setWeight wsL_setWeight 12 560 1 6 D tc zb (w ++ [w_o tc bo fo]) (w1 ++ [w_o tc bo (vp_updL fo 0 r.toInt64)]) [.ref x0, .int p0, .ref bo] (some (.int (nI 0))) := by
  refine IPn.ofT (cc := cL_setWeight) (maxL := 4) (ret := some .int) (hh := [(0, 9, 12, 13)]) (by decide) rfl (Nat.le_of_ble_eq_true rfl) ?_
  intro p e s m args below meth c A hx hb hr hml hlk hts hown hex hM hS hP hD ls hl
  have hl : lv_has ls 4 [(0, .ref x0), (1, .int p0), (2, .ref bo)] := hl
  refine lv_aload_n hx hb dL_setWeight_0 rfl (lv_at hl 2 rfl) ?_
  refine lv_iconst (v := nI 0) hx hb dL_setWeight_1 (by decide) ?_
  refine lv_aload_n hx hb dL_setWeight_2 rfl (lv_at hl 0 rfl) ?_
  refine lv_iload_n hx hb dL_setWeight_3 rfl (lv_at hl 1 rfl) ?_
  refine ipF_V (C := RX6) (n := 1) ⟨hx, hb, hml, hown, hts⟩ hM hS hP hD (IPn.app (mc := 0) (ms := 0) hc [w_o tc bo fo]) gL_setWeight_X6_setWeight rfl (by decide +kernel) ⟨by show fr + 1 ≤ 12; omega, by show 8 + (3 + 11) + lo ≤ 560; omega⟩ (by rw [List.map_append, List.map_append, had]) (va_recv hM.1 hP (ci := 5) (q0 := 0) rfl (by rw [List.getElem?_append_left (List.getElem?_eq_some_iff.mp hw0).1]; exact hw0)) rfl hl.1 rfl (Nat.le_of_ble_eq_true rfl) dL_setWeight_4 ⟨Nat.zero_le _, Nat.zero_le _⟩ (fun H locs hP hD hS => ?_)
  refine W.eq (g2 := F0 m 7 ls [.int r, .int (nI 0), .ref bo]) rfl ?_
  refine lv_i2l (v := r.toInt64) hx hb dL_setWeight_7 rfl ?_
  refine lx_last hx hb hM.1 hP hD hS dL_setWeight_8 (fun H locs hP hD hS => ?_)
  refine lv_goto (tgt := 15) hx hb dL_setWeight_9 (by decide) ?_
  refine lv_iconst (v := nI 0) hx hb dL_setWeight_15 (by decide) ?_
  exact ipn_iret hx hb hr hlk dL_setWeight_16 hS hP (Nat.zero_le _) (Nat.zero_le _)
set_option maxHeartbeats 4000000 in
set_option maxRecDepth 100000 in
theorem l_setWeight_t1 (l : Launch) (D : va_G) (tc : Nat → ClassId) (zb : Nat) {w : va_W} {x0 bo : Nat} {fs : List Value} (fo : Nat → Int64) {fr lo : Nat} {p0 : Int32} (hc : TH l yX6_setWeight wsX6_setWeight fr lo D tc zb w [.ref x0, .int p0] "java/lang/IllegalArgumentException") (hw0 : w[0]? = some (x0, .inr (5, fs))) (hfr : fr ≤ 11) (hlo : lo ≤ 500) : IPn l yL_setWeight wsL_setWeight 12 560 1 6 D tc zb (w ++ [w_o tc bo fo]) (w ++ [w_o tc bo fo]) [.ref x0, .int p0, .ref bo] (some (.int (nI 1))) := by
  refine IPn.ofT (cc := cL_setWeight) (maxL := 4) (ret := some .int) (hh := [(0, 9, 12, 13)]) (by decide) rfl (Nat.le_of_ble_eq_true rfl) ?_
  intro p e s m args below meth c A hx hb hr hml hlk hts hown hex hM hS hP hD ls hl
  have hl : lv_has ls 4 [(0, .ref x0), (1, .int p0), (2, .ref bo)] := hl
  refine lv_aload_n hx hb dL_setWeight_0 rfl (lv_at hl 2 rfl) ?_
  refine lv_iconst (v := nI 0) hx hb dL_setWeight_1 (by decide) ?_
  refine lv_aload_n hx hb dL_setWeight_2 rfl (lv_at hl 0 rfl) ?_
  refine lv_iload_n hx hb dL_setWeight_3 rfl (lv_at hl 1 rfl) ?_
  refine th_VF (C := RX6) (n := 1) ⟨hx, hb, hml, hown, hts⟩ hM hS hP hc gL_setWeight_X6_setWeight rfl (by decide +kernel) ⟨by show fr + 1 ≤ 12; omega, by show 8 + (3 + 11) + lo ≤ 560; omega⟩ (va_recv hM.1 hP (ci := 5) (q0 := 0) rfl (by rw [List.getElem?_append_left (List.getElem?_eq_some_iff.mp hw0).1]; exact hw0)) rfl hl.1 rfl (Nat.le_of_ble_eq_true rfl) dL_setWeight_4 ⟨Nat.le_refl _, Nat.le_refl _⟩ (fun H q ce hP hS h3 h4 h5 => ?_)
  refine vx_catch (own := RL) (name := "java/lang/IllegalArgumentException") (E := "java/lang/IllegalArgumentException") hown [] ⟨0, 9, 12, 13⟩ [] hex (fun z hz => by cases hz) (by decide) (by decide) (hts (.classLink RL 13 "java/lang/IllegalArgumentException") (by decide +kernel)) (va_Nw.use rfl (hM.2.2.2.2.2.2.2.2.1 ("java/lang/IllegalArgumentException", "java/lang/IllegalArgumentException") (by decide +kernel))) h3 h4 h5 ?_
  refine W.eq (g2 := F0 m 12 ls [.ref q]) rfl ?_
  refine lv_astore_n (lv' := [(3, .ref q), (0, .ref x0), (1, .int p0), (2, .ref bo)]) hx hb dL_setWeight_12 rfl hl (by decide) rfl (fun ls hl => ?_)
  refine lv_iconst (v := nI 1) hx hb dL_setWeight_13 (by decide) ?_
  exact ipn_iret hx hb hr hlk dL_setWeight_14 hS hP (Nat.le_refl _) (Nat.le_refl _)
set_option maxHeartbeats 4000000 in
set_option maxRecDepth 100000 in
theorem l_simulate_ok (l : Launch) (D : va_G) (tc : Nat → ClassId) (zb : Nat) {w w1 : va_W} {x0 bo : Nat} {fs : List Value} (fo : Nat → Int64) {fr lo : Nat} {p0 : Int64} {p1 : Int32} {r : Int32} (hc : IP l yX6_simulate wsX6_simulate fr lo D tc zb w w1 [.ref x0, .long p0, .int p1] (some (.int r))) (hw0 : w[0]? = some (x0, .inr (5, fs))) (had : w1.map Prod.fst = w.map Prod.fst) (hfr : fr ≤ 11) (hlo : lo ≤ 500) : IPn l yL_simulate wsL_simulate 12 560 1 6 D tc zb (w ++ [w_o tc bo fo]) (w1 ++ [w_o tc bo (vp_updL fo 0 r.toInt64)]) [.ref x0, .long p0, .int p1, .ref bo] (some (.int (nI 0))) := by
  refine IPn.ofT (cc := cL_simulate) (maxL := 6) (ret := some .int) (hh := [(0, 11, 14, 13)]) (by decide) rfl (Nat.le_of_ble_eq_true rfl) ?_
  intro p e s m args below meth c A hx hb hr hml hlk hts hown hex hM hS hP hD ls hl
  have hl : lv_has ls 6 [(0, .ref x0), (1, .long p0), (3, .int p1), (4, .ref bo)] := hl
  refine lv_aload hx hb dL_simulate_0 (lv_at hl 3 rfl) ?_
  refine lv_iconst (v := nI 0) hx hb dL_simulate_2 (by decide) ?_
  refine lv_aload_n hx hb dL_simulate_3 rfl (lv_at hl 0 rfl) ?_
  refine lv_lload_n hx hb dL_simulate_4 rfl (lv_at hl 1 rfl) ?_
  refine lv_iload_n hx hb dL_simulate_5 rfl (lv_at hl 2 rfl) ?_
  refine ipF_V (C := RX6) (n := 2) ⟨hx, hb, hml, hown, hts⟩ hM hS hP hD (IPn.app (mc := 0) (ms := 0) hc [w_o tc bo fo]) gL_simulate_X6_simulate rfl (by decide +kernel) ⟨by show fr + 1 ≤ 12; omega, by show 8 + (7 + 11) + lo ≤ 560; omega⟩ (by rw [List.map_append, List.map_append, had]) (va_recv hM.1 hP (ci := 5) (q0 := 0) rfl (by rw [List.getElem?_append_left (List.getElem?_eq_some_iff.mp hw0).1]; exact hw0)) rfl hl.1 rfl (Nat.le_of_ble_eq_true rfl) dL_simulate_6 ⟨Nat.zero_le _, Nat.zero_le _⟩ (fun H locs hP hD hS => ?_)
  refine W.eq (g2 := F0 m 9 ls [.int r, .int (nI 0), .ref bo]) rfl ?_
  refine lv_i2l (v := r.toInt64) hx hb dL_simulate_9 rfl ?_
  refine lx_last hx hb hM.1 hP hD hS dL_simulate_10 (fun H locs hP hD hS => ?_)
  refine lv_goto (tgt := 18) hx hb dL_simulate_11 (by decide) ?_
  refine lv_iconst (v := nI 0) hx hb dL_simulate_18 (by decide) ?_
  exact ipn_iret hx hb hr hlk dL_simulate_19 hS hP (Nat.zero_le _) (Nat.zero_le _)
set_option maxHeartbeats 4000000 in
set_option maxRecDepth 100000 in
theorem l_simulate_t1 (l : Launch) (D : va_G) (tc : Nat → ClassId) (zb : Nat) {w : va_W} {x0 bo : Nat} {fs : List Value} (fo : Nat → Int64) {fr lo : Nat} {p0 : Int64} {p1 : Int32} (hc : TH l yX6_simulate wsX6_simulate fr lo D tc zb w [.ref x0, .long p0, .int p1] "java/lang/IllegalArgumentException") (hw0 : w[0]? = some (x0, .inr (5, fs))) (hfr : fr ≤ 11) (hlo : lo ≤ 500) : IPn l yL_simulate wsL_simulate 12 560 1 6 D tc zb (w ++ [w_o tc bo fo]) (w ++ [w_o tc bo fo]) [.ref x0, .long p0, .int p1, .ref bo] (some (.int (nI 1))) := by
  refine IPn.ofT (cc := cL_simulate) (maxL := 6) (ret := some .int) (hh := [(0, 11, 14, 13)]) (by decide) rfl (Nat.le_of_ble_eq_true rfl) ?_
  intro p e s m args below meth c A hx hb hr hml hlk hts hown hex hM hS hP hD ls hl
  have hl : lv_has ls 6 [(0, .ref x0), (1, .long p0), (3, .int p1), (4, .ref bo)] := hl
  refine lv_aload hx hb dL_simulate_0 (lv_at hl 3 rfl) ?_
  refine lv_iconst (v := nI 0) hx hb dL_simulate_2 (by decide) ?_
  refine lv_aload_n hx hb dL_simulate_3 rfl (lv_at hl 0 rfl) ?_
  refine lv_lload_n hx hb dL_simulate_4 rfl (lv_at hl 1 rfl) ?_
  refine lv_iload_n hx hb dL_simulate_5 rfl (lv_at hl 2 rfl) ?_
  refine th_VF (C := RX6) (n := 2) ⟨hx, hb, hml, hown, hts⟩ hM hS hP hc gL_simulate_X6_simulate rfl (by decide +kernel) ⟨by show fr + 1 ≤ 12; omega, by show 8 + (7 + 11) + lo ≤ 560; omega⟩ (va_recv hM.1 hP (ci := 5) (q0 := 0) rfl (by rw [List.getElem?_append_left (List.getElem?_eq_some_iff.mp hw0).1]; exact hw0)) rfl hl.1 rfl (Nat.le_of_ble_eq_true rfl) dL_simulate_6 ⟨Nat.le_refl _, Nat.le_refl _⟩ (fun H q ce hP hS h3 h4 h5 => ?_)
  refine vx_catch (own := RL) (name := "java/lang/IllegalArgumentException") (E := "java/lang/IllegalArgumentException") hown [] ⟨0, 11, 14, 13⟩ [] hex (fun z hz => by cases hz) (by decide) (by decide) (hts (.classLink RL 13 "java/lang/IllegalArgumentException") (by decide +kernel)) (va_Nw.use rfl (hM.2.2.2.2.2.2.2.2.1 ("java/lang/IllegalArgumentException", "java/lang/IllegalArgumentException") (by decide +kernel))) h3 h4 h5 ?_
  refine W.eq (g2 := F0 m 14 ls [.ref q]) rfl ?_
  refine lv_astore (lv' := [(5, .ref q), (0, .ref x0), (1, .long p0), (3, .int p1), (4, .ref bo)]) hx hb dL_simulate_14 hl (by decide) rfl (fun ls hl => ?_)
  refine lv_iconst (v := nI 1) hx hb dL_simulate_16 (by decide) ?_
  exact ipn_iret hx hb hr hlk dL_simulate_17 hS hP (Nat.le_refl _) (Nat.le_refl _)
set_option maxHeartbeats 4000000 in
set_option maxRecDepth 100000 in
theorem l_triple_ok (l : Launch) (D : va_G) (tc : Nat → ClassId) (zb : Nat) {w w1 : va_W} {x0 bo : Nat} {fs : List Value} (fo : Nat → Int64) {fr lo : Nat} {p0 : Int32} {p1 : Int32} {r : Int32} (hc : IP l yX6_triple wsX6_triple fr lo D tc zb w w1 [.ref x0, .int p0, .int p1] (some (.int r))) (hw0 : w[0]? = some (x0, .inr (5, fs))) (had : w1.map Prod.fst = w.map Prod.fst) (hfr : fr ≤ 11) (hlo : lo ≤ 500) : IPn l yL_triple wsL_triple 12 560 1 6 D tc zb (w ++ [w_o tc bo fo]) (w1 ++ [w_o tc bo (vp_updL fo 0 r.toInt64)]) [.ref x0, .int p0, .int p1, .ref bo] (some (.int (nI 0))) := by
  refine IPn.ofT (cc := cL_triple) (maxL := 5) (ret := some .int) (hh := [(0, 10, 13, 28), (0, 10, 17, 13)]) (by decide) rfl (Nat.le_of_ble_eq_true rfl) ?_
  intro p e s m args below meth c A hx hb hr hml hlk hts hown hex hM hS hP hD ls hl
  have hl : lv_has ls 5 [(0, .ref x0), (1, .int p0), (2, .int p1), (3, .ref bo)] := hl
  refine lv_aload_n hx hb dL_triple_0 rfl (lv_at hl 3 rfl) ?_
  refine lv_iconst (v := nI 0) hx hb dL_triple_1 (by decide) ?_
  refine lv_aload_n hx hb dL_triple_2 rfl (lv_at hl 0 rfl) ?_
  refine lv_iload_n hx hb dL_triple_3 rfl (lv_at hl 1 rfl) ?_
  refine lv_iload_n hx hb dL_triple_4 rfl (lv_at hl 2 rfl) ?_
  refine ipF_V (C := RX6) (n := 2) ⟨hx, hb, hml, hown, hts⟩ hM hS hP hD (IPn.app (mc := 0) (ms := 0) hc [w_o tc bo fo]) gL_triple_X6_triple rfl (by decide +kernel) ⟨by show fr + 1 ≤ 12; omega, by show 8 + (3 + 11) + lo ≤ 560; omega⟩ (by rw [List.map_append, List.map_append, had]) (va_recv hM.1 hP (ci := 5) (q0 := 0) rfl (by rw [List.getElem?_append_left (List.getElem?_eq_some_iff.mp hw0).1]; exact hw0)) rfl hl.1 rfl (Nat.le_of_ble_eq_true rfl) dL_triple_5 ⟨Nat.zero_le _, Nat.zero_le _⟩ (fun H locs hP hD hS => ?_)
  refine W.eq (g2 := F0 m 8 ls [.int r, .int (nI 0), .ref bo]) rfl ?_
  refine lv_i2l (v := r.toInt64) hx hb dL_triple_8 rfl ?_
  refine lx_last hx hb hM.1 hP hD hS dL_triple_9 (fun H locs hP hD hS => ?_)
  refine lv_goto (tgt := 21) hx hb dL_triple_10 (by decide) ?_
  refine lv_iconst (v := nI 0) hx hb dL_triple_21 (by decide) ?_
  exact ipn_iret hx hb hr hlk dL_triple_22 hS hP (Nat.zero_le _) (Nat.zero_le _)
set_option maxHeartbeats 4000000 in
set_option maxRecDepth 100000 in
theorem l_triple_t1 (l : Launch) (D : va_G) (tc : Nat → ClassId) (zb : Nat) {w : va_W} {x0 bo : Nat} {fs : List Value} (fo : Nat → Int64) {fr lo : Nat} {p0 : Int32} {p1 : Int32} (hc : TH l yX6_triple wsX6_triple fr lo D tc zb w [.ref x0, .int p0, .int p1] "java/lang/IndexOutOfBoundsException") (hw0 : w[0]? = some (x0, .inr (5, fs))) (hfr : fr ≤ 11) (hlo : lo ≤ 500) : IPn l yL_triple wsL_triple 12 560 1 6 D tc zb (w ++ [w_o tc bo fo]) (w ++ [w_o tc bo fo]) [.ref x0, .int p0, .int p1, .ref bo] (some (.int (nI 1))) := by
  refine IPn.ofT (cc := cL_triple) (maxL := 5) (ret := some .int) (hh := [(0, 10, 13, 28), (0, 10, 17, 13)]) (by decide) rfl (Nat.le_of_ble_eq_true rfl) ?_
  intro p e s m args below meth c A hx hb hr hml hlk hts hown hex hM hS hP hD ls hl
  have hl : lv_has ls 5 [(0, .ref x0), (1, .int p0), (2, .int p1), (3, .ref bo)] := hl
  refine lv_aload_n hx hb dL_triple_0 rfl (lv_at hl 3 rfl) ?_
  refine lv_iconst (v := nI 0) hx hb dL_triple_1 (by decide) ?_
  refine lv_aload_n hx hb dL_triple_2 rfl (lv_at hl 0 rfl) ?_
  refine lv_iload_n hx hb dL_triple_3 rfl (lv_at hl 1 rfl) ?_
  refine lv_iload_n hx hb dL_triple_4 rfl (lv_at hl 2 rfl) ?_
  refine th_VF (C := RX6) (n := 2) ⟨hx, hb, hml, hown, hts⟩ hM hS hP hc gL_triple_X6_triple rfl (by decide +kernel) ⟨by show fr + 1 ≤ 12; omega, by show 8 + (3 + 11) + lo ≤ 560; omega⟩ (va_recv hM.1 hP (ci := 5) (q0 := 0) rfl (by rw [List.getElem?_append_left (List.getElem?_eq_some_iff.mp hw0).1]; exact hw0)) rfl hl.1 rfl (Nat.le_of_ble_eq_true rfl) dL_triple_5 ⟨Nat.le_refl _, Nat.le_refl _⟩ (fun H q ce hP hS h3 h4 h5 => ?_)
  refine vx_catch (own := RL) (name := "java/lang/IndexOutOfBoundsException") (E := "java/lang/IndexOutOfBoundsException") hown [] ⟨0, 10, 13, 28⟩ [⟨0, 10, 17, 13⟩] hex (fun z hz => by cases hz) (by decide) (by decide) (hts (.classLink RL 28 "java/lang/IndexOutOfBoundsException") (by decide +kernel)) (va_Nw.use rfl (hM.2.2.2.2.2.2.2.2.1 ("java/lang/IndexOutOfBoundsException", "java/lang/IndexOutOfBoundsException") (by decide +kernel))) h3 h4 h5 ?_
  refine W.eq (g2 := F0 m 13 ls [.ref q]) rfl ?_
  refine lv_astore (lv' := [(4, .ref q), (0, .ref x0), (1, .int p0), (2, .int p1), (3, .ref bo)]) hx hb dL_triple_13 hl (by decide) rfl (fun ls hl => ?_)
  refine lv_iconst (v := nI 1) hx hb dL_triple_15 (by decide) ?_
  exact ipn_iret hx hb hr hlk dL_triple_16 hS hP (Nat.le_refl _) (Nat.le_refl _)
set_option maxHeartbeats 4000000 in
set_option maxRecDepth 100000 in
theorem l_triple_t2 (l : Launch) (D : va_G) (tc : Nat → ClassId) (zb : Nat) {w : va_W} {x0 bo : Nat} {fs : List Value} (fo : Nat → Int64) {fr lo : Nat} {p0 : Int32} {p1 : Int32} (hc : TH l yX6_triple wsX6_triple fr lo D tc zb w [.ref x0, .int p0, .int p1] "java/lang/IllegalArgumentException") (hw0 : w[0]? = some (x0, .inr (5, fs))) (hfr : fr ≤ 11) (hlo : lo ≤ 500) : IPn l yL_triple wsL_triple 12 560 1 6 D tc zb (w ++ [w_o tc bo fo]) (w ++ [w_o tc bo fo]) [.ref x0, .int p0, .int p1, .ref bo] (some (.int (nI 2))) := by
  refine IPn.ofT (cc := cL_triple) (maxL := 5) (ret := some .int) (hh := [(0, 10, 13, 28), (0, 10, 17, 13)]) (by decide) rfl (Nat.le_of_ble_eq_true rfl) ?_
  intro p e s m args below meth c A hx hb hr hml hlk hts hown hex hM hS hP hD ls hl
  have hl : lv_has ls 5 [(0, .ref x0), (1, .int p0), (2, .int p1), (3, .ref bo)] := hl
  refine lv_aload_n hx hb dL_triple_0 rfl (lv_at hl 3 rfl) ?_
  refine lv_iconst (v := nI 0) hx hb dL_triple_1 (by decide) ?_
  refine lv_aload_n hx hb dL_triple_2 rfl (lv_at hl 0 rfl) ?_
  refine lv_iload_n hx hb dL_triple_3 rfl (lv_at hl 1 rfl) ?_
  refine lv_iload_n hx hb dL_triple_4 rfl (lv_at hl 2 rfl) ?_
  refine th_VF (C := RX6) (n := 2) ⟨hx, hb, hml, hown, hts⟩ hM hS hP hc gL_triple_X6_triple rfl (by decide +kernel) ⟨by show fr + 1 ≤ 12; omega, by show 8 + (3 + 11) + lo ≤ 560; omega⟩ (va_recv hM.1 hP (ci := 5) (q0 := 0) rfl (by rw [List.getElem?_append_left (List.getElem?_eq_some_iff.mp hw0).1]; exact hw0)) rfl hl.1 rfl (Nat.le_of_ble_eq_true rfl) dL_triple_5 ⟨Nat.le_refl _, Nat.le_refl _⟩ (fun H q ce hP hS h3 h4 h5 => ?_)
  refine vx_catch (own := RL) (name := "java/lang/IllegalArgumentException") (E := "java/lang/IllegalArgumentException") hown [⟨0, 10, 13, 28⟩] ⟨0, 10, 17, 13⟩ [] hex (fun z hz => by rw [List.mem_singleton.mp hz]; exact Or.inr ⟨by decide, "java/lang/IndexOutOfBoundsException", hts (.classLink RL 28 "java/lang/IndexOutOfBoundsException") (by decide +kernel), hM.2.2.2.2.2.2.2.2.2 ("java/lang/IllegalArgumentException", "java/lang/IndexOutOfBoundsException") (by decide +kernel)⟩) (by decide) (by decide) (hts (.classLink RL 13 "java/lang/IllegalArgumentException") (by decide +kernel)) (va_Nw.use rfl (hM.2.2.2.2.2.2.2.2.1 ("java/lang/IllegalArgumentException", "java/lang/IllegalArgumentException") (by decide +kernel))) h3 h4 h5 ?_
  refine W.eq (g2 := F0 m 17 ls [.ref q]) rfl ?_
  refine lv_astore (lv' := [(4, .ref q), (0, .ref x0), (1, .int p0), (2, .int p1), (3, .ref bo)]) hx hb dL_triple_17 hl (by decide) rfl (fun ls hl => ?_)
  refine lv_iconst (v := nI 2) hx hb dL_triple_19 (by decide) ?_
  exact ipn_iret hx hb hr hlk dL_triple_20 hS hP (Nat.le_refl _) (Nat.le_refl _)
set_option maxHeartbeats 4000000 in
set_option maxRecDepth 100000 in
theorem l_undo_ok (l : Launch) (D : va_G) (tc : Nat → ClassId) (zb : Nat) {w w1 : va_W} {x0 bo : Nat} {fs : List Value} (fo : Nat → Int64) {fr lo : Nat} {r : Int32} (hc : IP l yX6_undo wsX6_undo fr lo D tc zb w w1 [.ref x0] (some (.int r))) (hw0 : w[0]? = some (x0, .inr (5, fs))) (had : w1.map Prod.fst = w.map Prod.fst) (hfr : fr ≤ 11) (hlo : lo ≤ 500) : IPn l yL_undo wsL_undo 12 560 1 6 D tc zb (w ++ [w_o tc bo fo]) (w1 ++ [w_o tc bo (vp_updL fo 0 r.toInt64)]) [.ref x0, .ref bo] (some (.int (nI 0))) := by
  refine IPn.ofT (cc := cL_undo) (maxL := 3) (ret := some .int) (hh := [(0, 8, 11, 15)]) (by decide) rfl (Nat.le_of_ble_eq_true rfl) ?_
  intro p e s m args below meth c A hx hb hr hml hlk hts hown hex hM hS hP hD ls hl
  have hl : lv_has ls 3 [(0, .ref x0), (1, .ref bo)] := hl
  refine lv_aload_n hx hb dL_undo_0 rfl (lv_at hl 1 rfl) ?_
  refine lv_iconst (v := nI 0) hx hb dL_undo_1 (by decide) ?_
  refine lv_aload_n hx hb dL_undo_2 rfl (lv_at hl 0 rfl) ?_
  refine ipF_V (C := RX6) (n := 0) ⟨hx, hb, hml, hown, hts⟩ hM hS hP hD (IPn.app (mc := 0) (ms := 0) hc [w_o tc bo fo]) gL_undo_X6_undo rfl (by decide +kernel) ⟨by show fr + 1 ≤ 12; omega, by show 8 + (1 + 11) + lo ≤ 560; omega⟩ (by rw [List.map_append, List.map_append, had]) (va_recv hM.1 hP (ci := 5) (q0 := 0) rfl (by rw [List.getElem?_append_left (List.getElem?_eq_some_iff.mp hw0).1]; exact hw0)) rfl hl.1 rfl (Nat.le_of_ble_eq_true rfl) dL_undo_3 ⟨Nat.zero_le _, Nat.zero_le _⟩ (fun H locs hP hD hS => ?_)
  refine W.eq (g2 := F0 m 6 ls [.int r, .int (nI 0), .ref bo]) rfl ?_
  refine lv_i2l (v := r.toInt64) hx hb dL_undo_6 rfl ?_
  refine lx_last hx hb hM.1 hP hD hS dL_undo_7 (fun H locs hP hD hS => ?_)
  refine lv_goto (tgt := 14) hx hb dL_undo_8 (by decide) ?_
  refine lv_iconst (v := nI 0) hx hb dL_undo_14 (by decide) ?_
  exact ipn_iret hx hb hr hlk dL_undo_15 hS hP (Nat.zero_le _) (Nat.zero_le _)
set_option maxHeartbeats 4000000 in
set_option maxRecDepth 100000 in
theorem l_undo_t1 (l : Launch) (D : va_G) (tc : Nat → ClassId) (zb : Nat) {w : va_W} {x0 bo : Nat} {fs : List Value} (fo : Nat → Int64) {fr lo : Nat} (hc : TH l yX6_undo wsX6_undo fr lo D tc zb w [.ref x0] "java/lang/IllegalStateException") (hw0 : w[0]? = some (x0, .inr (5, fs))) (hfr : fr ≤ 11) (hlo : lo ≤ 500) : IPn l yL_undo wsL_undo 12 560 1 6 D tc zb (w ++ [w_o tc bo fo]) (w ++ [w_o tc bo fo]) [.ref x0, .ref bo] (some (.int (nI 1))) := by
  refine IPn.ofT (cc := cL_undo) (maxL := 3) (ret := some .int) (hh := [(0, 8, 11, 15)]) (by decide) rfl (Nat.le_of_ble_eq_true rfl) ?_
  intro p e s m args below meth c A hx hb hr hml hlk hts hown hex hM hS hP hD ls hl
  have hl : lv_has ls 3 [(0, .ref x0), (1, .ref bo)] := hl
  refine lv_aload_n hx hb dL_undo_0 rfl (lv_at hl 1 rfl) ?_
  refine lv_iconst (v := nI 0) hx hb dL_undo_1 (by decide) ?_
  refine lv_aload_n hx hb dL_undo_2 rfl (lv_at hl 0 rfl) ?_
  refine th_VF (C := RX6) (n := 0) ⟨hx, hb, hml, hown, hts⟩ hM hS hP hc gL_undo_X6_undo rfl (by decide +kernel) ⟨by show fr + 1 ≤ 12; omega, by show 8 + (1 + 11) + lo ≤ 560; omega⟩ (va_recv hM.1 hP (ci := 5) (q0 := 0) rfl (by rw [List.getElem?_append_left (List.getElem?_eq_some_iff.mp hw0).1]; exact hw0)) rfl hl.1 rfl (Nat.le_of_ble_eq_true rfl) dL_undo_3 ⟨Nat.le_refl _, Nat.le_refl _⟩ (fun H q ce hP hS h3 h4 h5 => ?_)
  refine vx_catch (own := RL) (name := "java/lang/IllegalStateException") (E := "java/lang/IllegalStateException") hown [] ⟨0, 8, 11, 15⟩ [] hex (fun z hz => by cases hz) (by decide) (by decide) (hts (.classLink RL 15 "java/lang/IllegalStateException") (by decide +kernel)) (va_Nw.use rfl (hM.2.2.2.2.2.2.2.2.1 ("java/lang/IllegalStateException", "java/lang/IllegalStateException") (by decide +kernel))) h3 h4 h5 ?_
  refine W.eq (g2 := F0 m 11 ls [.ref q]) rfl ?_
  refine lv_astore_n (lv' := [(2, .ref q), (0, .ref x0), (1, .ref bo)]) hx hb dL_undo_11 rfl hl (by decide) rfl (fun ls hl => ?_)
  refine lv_iconst (v := nI 1) hx hb dL_undo_12 (by decide) ?_
  exact ipn_iret hx hb hr hlk dL_undo_13 hS hP (Nat.le_refl _) (Nat.le_refl _)
set_option maxHeartbeats 4000000 in
set_option maxRecDepth 100000 in
theorem l_value_ok (l : Launch) (D : va_G) (tc : Nat → ClassId) (zb : Nat) {w w1 : va_W} {x0 bo : Nat} {fs : List Value} (fo : Nat → Int64) {fr lo : Nat} {p0 : Int32} {r : Int32} (hc : IP l yX6_value wsX6_value fr lo D tc zb w w1 [.ref x0, .int p0] (some (.int r))) (hw0 : w[0]? = some (x0, .inr (5, fs))) (had : w1.map Prod.fst = w.map Prod.fst) (hfr : fr ≤ 11) (hlo : lo ≤ 500) : IPn l yL_value wsL_value 12 560 1 6 D tc zb (w ++ [w_o tc bo fo]) (w1 ++ [w_o tc bo (vp_updL fo 0 r.toInt64)]) [.ref x0, .int p0, .ref bo] (some (.int (nI 0))) := by
  refine IPn.ofT (cc := cL_value) (maxL := 4) (ret := some .int) (hh := [(0, 9, 12, 28)]) (by decide) rfl (Nat.le_of_ble_eq_true rfl) ?_
  intro p e s m args below meth c A hx hb hr hml hlk hts hown hex hM hS hP hD ls hl
  have hl : lv_has ls 4 [(0, .ref x0), (1, .int p0), (2, .ref bo)] := hl
  refine lv_aload_n hx hb dL_value_0 rfl (lv_at hl 2 rfl) ?_
  refine lv_iconst (v := nI 0) hx hb dL_value_1 (by decide) ?_
  refine lv_aload_n hx hb dL_value_2 rfl (lv_at hl 0 rfl) ?_
  refine lv_iload_n hx hb dL_value_3 rfl (lv_at hl 1 rfl) ?_
  refine ipF_V (C := RX6) (n := 1) ⟨hx, hb, hml, hown, hts⟩ hM hS hP hD (IPn.app (mc := 0) (ms := 0) hc [w_o tc bo fo]) gL_value_X6_value rfl (by decide +kernel) ⟨by show fr + 1 ≤ 12; omega, by show 8 + (2 + 11) + lo ≤ 560; omega⟩ (by rw [List.map_append, List.map_append, had]) (va_recv hM.1 hP (ci := 5) (q0 := 0) rfl (by rw [List.getElem?_append_left (List.getElem?_eq_some_iff.mp hw0).1]; exact hw0)) rfl hl.1 rfl (Nat.le_of_ble_eq_true rfl) dL_value_4 ⟨Nat.zero_le _, Nat.zero_le _⟩ (fun H locs hP hD hS => ?_)
  refine W.eq (g2 := F0 m 7 ls [.int r, .int (nI 0), .ref bo]) rfl ?_
  refine lv_i2l (v := r.toInt64) hx hb dL_value_7 rfl ?_
  refine lx_last hx hb hM.1 hP hD hS dL_value_8 (fun H locs hP hD hS => ?_)
  refine lv_goto (tgt := 15) hx hb dL_value_9 (by decide) ?_
  refine lv_iconst (v := nI 0) hx hb dL_value_15 (by decide) ?_
  exact ipn_iret hx hb hr hlk dL_value_16 hS hP (Nat.zero_le _) (Nat.zero_le _)
set_option maxHeartbeats 4000000 in
set_option maxRecDepth 100000 in
theorem l_value_t1 (l : Launch) (D : va_G) (tc : Nat → ClassId) (zb : Nat) {w : va_W} {x0 bo : Nat} {fs : List Value} (fo : Nat → Int64) {fr lo : Nat} {p0 : Int32} (hc : TH l yX6_value wsX6_value fr lo D tc zb w [.ref x0, .int p0] "java/lang/IndexOutOfBoundsException") (hw0 : w[0]? = some (x0, .inr (5, fs))) (hfr : fr ≤ 11) (hlo : lo ≤ 500) : IPn l yL_value wsL_value 12 560 1 6 D tc zb (w ++ [w_o tc bo fo]) (w ++ [w_o tc bo fo]) [.ref x0, .int p0, .ref bo] (some (.int (nI 1))) := by
  refine IPn.ofT (cc := cL_value) (maxL := 4) (ret := some .int) (hh := [(0, 9, 12, 28)]) (by decide) rfl (Nat.le_of_ble_eq_true rfl) ?_
  intro p e s m args below meth c A hx hb hr hml hlk hts hown hex hM hS hP hD ls hl
  have hl : lv_has ls 4 [(0, .ref x0), (1, .int p0), (2, .ref bo)] := hl
  refine lv_aload_n hx hb dL_value_0 rfl (lv_at hl 2 rfl) ?_
  refine lv_iconst (v := nI 0) hx hb dL_value_1 (by decide) ?_
  refine lv_aload_n hx hb dL_value_2 rfl (lv_at hl 0 rfl) ?_
  refine lv_iload_n hx hb dL_value_3 rfl (lv_at hl 1 rfl) ?_
  refine th_VF (C := RX6) (n := 1) ⟨hx, hb, hml, hown, hts⟩ hM hS hP hc gL_value_X6_value rfl (by decide +kernel) ⟨by show fr + 1 ≤ 12; omega, by show 8 + (2 + 11) + lo ≤ 560; omega⟩ (va_recv hM.1 hP (ci := 5) (q0 := 0) rfl (by rw [List.getElem?_append_left (List.getElem?_eq_some_iff.mp hw0).1]; exact hw0)) rfl hl.1 rfl (Nat.le_of_ble_eq_true rfl) dL_value_4 ⟨Nat.le_refl _, Nat.le_refl _⟩ (fun H q ce hP hS h3 h4 h5 => ?_)
  refine vx_catch (own := RL) (name := "java/lang/IndexOutOfBoundsException") (E := "java/lang/IndexOutOfBoundsException") hown [] ⟨0, 9, 12, 28⟩ [] hex (fun z hz => by cases hz) (by decide) (by decide) (hts (.classLink RL 28 "java/lang/IndexOutOfBoundsException") (by decide +kernel)) (va_Nw.use rfl (hM.2.2.2.2.2.2.2.2.1 ("java/lang/IndexOutOfBoundsException", "java/lang/IndexOutOfBoundsException") (by decide +kernel))) h3 h4 h5 ?_
  refine W.eq (g2 := F0 m 12 ls [.ref q]) rfl ?_
  refine lv_astore_n (lv' := [(3, .ref q), (0, .ref x0), (1, .int p0), (2, .ref bo)]) hx hb dL_value_12 rfl hl (by decide) rfl (fun ls hl => ?_)
  refine lv_iconst (v := nI 1) hx hb dL_value_13 (by decide) ?_
  exact ipn_iret hx hb hr hlk dL_value_14 hS hP (Nat.le_refl _) (Nat.le_refl _)
