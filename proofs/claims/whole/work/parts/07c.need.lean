theorem k_lt_le {v : Int32} {a : Nat} (h : v < nI (a + 1)) (ha : a + 1 < 2 ^ 31 := by decide) : v ≤ nI a := by
  rw [Int32.lt_iff_toInt_lt, nI_toInt ha] at h
  rw [Int32.le_iff_toInt_le, nI_toInt (by omega)]
  omega
theorem k_swo {v : Int32} {lo hi : Nat} (h : ¬ (nI lo ≤ v ∧ v ≤ nI hi)) (hl : lo < 2 ^ 31 := by decide) (hh : hi < 2 ^ 31 := by decide) : v.toInt < (lo : Int) ∨ (hi : Int) < v.toInt := by
  rw [Int32.le_iff_toInt_le, Int32.le_iff_toInt_le, nI_toInt hl, nI_toInt hh] at h
  omega
theorem k_nn0 {v : Int32} (h : ¬ v < 0) : nI 0 ≤ v := Int32.not_lt.mp h
set_option maxHeartbeats 4000000 in
set_option maxRecDepth 100000 in
theorem c6_needQuestion (l : Launch) (D : va_G) (tc : Nat → ClassId) (zb : Nat) (x : Nat) (hx9 : x < 1331) : ROV l yX6_needQuestion wsX6_needQuestion 0 0 D tc zb [] [.int (nI x)] := by
  refine ROV.of (cc := cX6_needQuestion) (maxL := 1) (ret := none) (by decide) rfl (Nat.le_of_ble_eq_true rfl) ?_
  intro p e s m args below meth c hx hb hr hml hlk hts hown hM hS hP ls hl
  have hl : lv_has ls 1 [(0, .int (nI x))] := hl
  refine lv_iload_n hx hb dX6_needQuestion_0 rfl (lv_at hl 0 rfl) ?_
  refine ln_if_lt (tgt := 11) hx hb dX6_needQuestion_1 (by decide) (by omega) ?_
  refine lv_iload_n hx hb dX6_needQuestion_4 rfl (lv_at hl 0 rfl) ?_
  refine lv_sipush (v := (nI 1330)) hx hb dX6_needQuestion_5 (by decide) ?_
  refine ln_icmp_le (tgt := 22) hx hb dX6_needQuestion_8 (by decide) (by omega) (by decide) (fun h1 => ?_) (fun h1 => ?_)
  · exact rov_ret hx hb hr hlk dX6_needQuestion_22
  · exfalso; omega
set_option maxHeartbeats 4000000 in
set_option maxRecDepth 100000 in
theorem c6_needQuestion_b (l : Launch) (hfl : l.stackTraces = false) (D : va_G) (tc : Nat → ClassId) (zb : Nat) (pp : Int32) (hp : ¬ (nI 0 ≤ pp ∧ pp ≤ nI 1330)) : TH l yX6_needQuestion wsX6_needQuestion 6 82 D tc zb [] [.int (pp)] "java/lang/IllegalArgumentException" := by
  refine TH.of (cc := cX6_needQuestion) (maxL := 1) (ret := none) (by decide) rfl (Nat.le_of_ble_eq_true rfl) ?_
  intro p e s m args below meth c hx hb hr hml hlk hts hown hex hM hS hP ls hl
  have hl : lv_has ls 1 [(0, .int (pp))] := hl
  have hF54 : ∀ w ∈ (vx_atS RX6 54 "java/lang/IllegalArgumentException" ["java/lang/RuntimeException", "java/lang/Exception"]).filter goodWord, w ∈ wsX6_needQuestion := by intro w hw; unfold wsX6_needQuestion; with_reducible (first | exact List.mem_cons_of_mem _ (List.mem_append_right _ hw) | exact List.mem_cons_of_mem _ (List.mem_append_left _ (List.mem_append_right _ hw)) | exact List.mem_cons_of_mem _ (List.mem_append_left _ (List.mem_append_left _ (List.mem_append_right _ hw))))
  refine lv_iload_n hx hb dX6_needQuestion_0 rfl (lv_at hl 0 rfl) ?_
  refine lv_if_lt (tgt := 11) hx hb dX6_needQuestion_1 (by decide) (fun h1 => ?_) (fun h1 => ?_)
  · exact th_throwW (own := RX6) (cls := "java/lang/IllegalArgumentException") (text := "a question is 0 to 1330") (ik := 50) (is := 306) (ic := 54) (names := ["java/lang/RuntimeException", "java/lang/Exception"]) hx hb hfl hown hex hlk hM (by decide +kernel) (by decide +kernel) (hts _ (by decide +kernel)) (hts _ (by decide +kernel)) (by decide +kernel) (th_hat hM (fun w hw => hts w (hF54 w hw)) th_n54 (by decide +kernel)) th_g54 (hl.1.trans hml.symm) dX6_needQuestion_11 dX6_needQuestion_14 dX6_needQuestion_15 dX6_needQuestion_18 dX6_needQuestion_21 (by decide) (by decide) (by decide) (by decide)
  · refine lv_iload_n hx hb dX6_needQuestion_4 rfl (lv_at hl 0 rfl) ?_
    refine lv_sipush (v := (nI 1330)) hx hb dX6_needQuestion_5 (by decide) ?_
    refine lv_icmp_le (tgt := 22) hx hb dX6_needQuestion_8 (by decide) (fun h2 => ?_) (fun h2 => ?_)
    · exact (hp ⟨k_nn0 (by assumption), by assumption⟩).elim
    · exact th_throwW (own := RX6) (cls := "java/lang/IllegalArgumentException") (text := "a question is 0 to 1330") (ik := 50) (is := 306) (ic := 54) (names := ["java/lang/RuntimeException", "java/lang/Exception"]) hx hb hfl hown hex hlk hM (by decide +kernel) (by decide +kernel) (hts _ (by decide +kernel)) (hts _ (by decide +kernel)) (by decide +kernel) (th_hat hM (fun w hw => hts w (hF54 w hw)) th_n54 (by decide +kernel)) th_g54 (hl.1.trans hml.symm) dX6_needQuestion_11 dX6_needQuestion_14 dX6_needQuestion_15 dX6_needQuestion_18 dX6_needQuestion_21 (by decide) (by decide) (by decide) (by decide)
set_option maxHeartbeats 4000000 in
set_option maxRecDepth 100000 in
theorem c6_needTriple (l : Launch) (D : va_G) (tc : Nat → ClassId) (zb : Nat) (x : Nat) (hx9 : x < 1000) : ROV l yX6_needTriple wsX6_needTriple 0 0 D tc zb [] [.int (nI x)] := by
  refine ROV.of (cc := cX6_needTriple) (maxL := 1) (ret := none) (by decide) rfl (Nat.le_of_ble_eq_true rfl) ?_
  intro p e s m args below meth c hx hb hr hml hlk hts hown hM hS hP ls hl
  have hl : lv_has ls 1 [(0, .int (nI x))] := hl
  refine lv_iload_n hx hb dX6_needTriple_0 rfl (lv_at hl 0 rfl) ?_
  refine ln_if_lt (tgt := 11) hx hb dX6_needTriple_1 (by decide) (by omega) ?_
  refine lv_iload_n hx hb dX6_needTriple_4 rfl (lv_at hl 0 rfl) ?_
  refine lv_sipush (v := (nI 999)) hx hb dX6_needTriple_5 (by decide) ?_
  refine ln_icmp_le (tgt := 22) hx hb dX6_needTriple_8 (by decide) (by omega) (by decide) (fun h1 => ?_) (fun h1 => ?_)
  · exact rov_ret hx hb hr hlk dX6_needTriple_22
  · exfalso; omega
set_option maxHeartbeats 4000000 in
set_option maxRecDepth 100000 in
theorem c6_needTriple_b (l : Launch) (hfl : l.stackTraces = false) (D : va_G) (tc : Nat → ClassId) (zb : Nat) (pp : Int32) (hp : ¬ (nI 0 ≤ pp ∧ pp ≤ nI 999)) : TH l yX6_needTriple wsX6_needTriple 6 82 D tc zb [] [.int (pp)] "java/lang/IllegalArgumentException" := by
  refine TH.of (cc := cX6_needTriple) (maxL := 1) (ret := none) (by decide) rfl (Nat.le_of_ble_eq_true rfl) ?_
  intro p e s m args below meth c hx hb hr hml hlk hts hown hex hM hS hP ls hl
  have hl : lv_has ls 1 [(0, .int (pp))] := hl
  have hF54 : ∀ w ∈ (vx_atS RX6 54 "java/lang/IllegalArgumentException" ["java/lang/RuntimeException", "java/lang/Exception"]).filter goodWord, w ∈ wsX6_needTriple := by intro w hw; unfold wsX6_needTriple; with_reducible (first | exact List.mem_cons_of_mem _ (List.mem_append_right _ hw) | exact List.mem_cons_of_mem _ (List.mem_append_left _ (List.mem_append_right _ hw)) | exact List.mem_cons_of_mem _ (List.mem_append_left _ (List.mem_append_left _ (List.mem_append_right _ hw))))
  refine lv_iload_n hx hb dX6_needTriple_0 rfl (lv_at hl 0 rfl) ?_
  refine lv_if_lt (tgt := 11) hx hb dX6_needTriple_1 (by decide) (fun h1 => ?_) (fun h1 => ?_)
  · exact th_throwW (own := RX6) (cls := "java/lang/IllegalArgumentException") (text := "a triple is 0 to 999") (ik := 50) (is := 304) (ic := 54) (names := ["java/lang/RuntimeException", "java/lang/Exception"]) hx hb hfl hown hex hlk hM (by decide +kernel) (by decide +kernel) (hts _ (by decide +kernel)) (hts _ (by decide +kernel)) (by decide +kernel) (th_hat hM (fun w hw => hts w (hF54 w hw)) th_n54 (by decide +kernel)) th_g54 (hl.1.trans hml.symm) dX6_needTriple_11 dX6_needTriple_14 dX6_needTriple_15 dX6_needTriple_18 dX6_needTriple_21 (by decide) (by decide) (by decide) (by decide)
  · refine lv_iload_n hx hb dX6_needTriple_4 rfl (lv_at hl 0 rfl) ?_
    refine lv_sipush (v := (nI 999)) hx hb dX6_needTriple_5 (by decide) ?_
    refine lv_icmp_le (tgt := 22) hx hb dX6_needTriple_8 (by decide) (fun h2 => ?_) (fun h2 => ?_)
    · exact (hp ⟨k_nn0 (by assumption), by assumption⟩).elim
    · exact th_throwW (own := RX6) (cls := "java/lang/IllegalArgumentException") (text := "a triple is 0 to 999") (ik := 50) (is := 304) (ic := 54) (names := ["java/lang/RuntimeException", "java/lang/Exception"]) hx hb hfl hown hex hlk hM (by decide +kernel) (by decide +kernel) (hts _ (by decide +kernel)) (hts _ (by decide +kernel)) (by decide +kernel) (th_hat hM (fun w hw => hts w (hF54 w hw)) th_n54 (by decide +kernel)) th_g54 (hl.1.trans hml.symm) dX6_needTriple_11 dX6_needTriple_14 dX6_needTriple_15 dX6_needTriple_18 dX6_needTriple_21 (by decide) (by decide) (by decide) (by decide)
set_option maxHeartbeats 4000000 in
set_option maxRecDepth 100000 in
theorem c6_needPlace (l : Launch) (D : va_G) (tc : Nat → ClassId) (zb : Nat) (x : Nat) (hx9 : x < 2 ^ 31) : ROV l yX6_needPlace wsX6_needPlace 0 0 D tc zb [] [.int (nI x)] := by
  refine ROV.of (cc := cX6_needPlace) (maxL := 1) (ret := none) (by decide) rfl (Nat.le_of_ble_eq_true rfl) ?_
  intro p e s m args below meth c hx hb hr hml hlk hts hown hM hS hP ls hl
  have hl : lv_has ls 1 [(0, .int (nI x))] := hl
  refine lv_iload_n hx hb dX6_needPlace_0 rfl (lv_at hl 0 rfl) ?_
  refine ln_if_ge (tgt := 15) hx hb dX6_needPlace_1 (by decide) (by omega) ?_
  exact rov_ret hx hb hr hlk dX6_needPlace_15
set_option maxHeartbeats 4000000 in
set_option maxRecDepth 100000 in
theorem c6_needPlace_b (l : Launch) (hfl : l.stackTraces = false) (D : va_G) (tc : Nat → ClassId) (zb : Nat) (pp : Int32) (hng : pp < 0) : TH l yX6_needPlace wsX6_needPlace 6 82 D tc zb [] [.int (pp)] "java/lang/IllegalArgumentException" := by
  refine TH.of (cc := cX6_needPlace) (maxL := 1) (ret := none) (by decide) rfl (Nat.le_of_ble_eq_true rfl) ?_
  intro p e s m args below meth c hx hb hr hml hlk hts hown hex hM hS hP ls hl
  have hl : lv_has ls 1 [(0, .int (pp))] := hl
  have hF54 : ∀ w ∈ (vx_atS RX6 54 "java/lang/IllegalArgumentException" ["java/lang/RuntimeException", "java/lang/Exception"]).filter goodWord, w ∈ wsX6_needPlace := by intro w hw; unfold wsX6_needPlace; with_reducible (first | exact List.mem_cons_of_mem _ (List.mem_append_right _ hw) | exact List.mem_cons_of_mem _ (List.mem_append_left _ (List.mem_append_right _ hw)) | exact List.mem_cons_of_mem _ (List.mem_append_left _ (List.mem_append_left _ (List.mem_append_right _ hw))))
  refine lv_iload_n hx hb dX6_needPlace_0 rfl (lv_at hl 0 rfl) ?_
  refine lv_if_ge (tgt := 15) hx hb dX6_needPlace_1 (by decide) (fun h1 => ?_) (fun h1 => ?_)
  · exact absurd hng (Int32.not_lt.mpr (by assumption))
  · exact th_throwW (own := RX6) (cls := "java/lang/IllegalArgumentException") (text := "a place is not negative") (ik := 50) (is := 308) (ic := 54) (names := ["java/lang/RuntimeException", "java/lang/Exception"]) hx hb hfl hown hex hlk hM (by decide +kernel) (by decide +kernel) (hts _ (by decide +kernel)) (hts _ (by decide +kernel)) (by decide +kernel) (th_hat hM (fun w hw => hts w (hF54 w hw)) th_n54 (by decide +kernel)) th_g54 (hl.1.trans hml.symm) dX6_needPlace_4 dX6_needPlace_7 dX6_needPlace_8 dX6_needPlace_11 dX6_needPlace_14 (by decide) (by decide) (by decide) (by decide)
set_option maxHeartbeats 4000000 in
set_option maxRecDepth 100000 in
theorem c6_needOrder (l : Launch) (D : va_G) (tc : Nat → ClassId) (zb : Nat) (x : Nat) (hx9 : x < 6) : ROV l yX6_needOrder wsX6_needOrder 0 0 D tc zb [] [.int (nI x)] := by
  refine ROV.of (cc := cX6_needOrder) (maxL := 1) (ret := none) (by decide) rfl (Nat.le_of_ble_eq_true rfl) ?_
  intro p e s m args below meth c hx hb hr hml hlk hts hown hM hS hP ls hl
  have hl : lv_has ls 1 [(0, .int (nI x))] := hl
  refine lv_iload_n hx hb dX6_needOrder_0 rfl (lv_at hl 0 rfl) ?_
  refine ln_if_lt (tgt := 10) hx hb dX6_needOrder_1 (by decide) (by omega) ?_
  refine lv_iload_n hx hb dX6_needOrder_4 rfl (lv_at hl 0 rfl) ?_
  refine lv_bipush (v := (nI 6)) hx hb dX6_needOrder_5 (by decide) ?_
  refine ln_icmp_lt (tgt := 21) hx hb dX6_needOrder_7 (by decide) (by omega) (by decide) (fun h1 => ?_) (fun h1 => ?_)
  · exact rov_ret hx hb hr hlk dX6_needOrder_21
  · exfalso; omega
set_option maxHeartbeats 4000000 in
set_option maxRecDepth 100000 in
theorem c6_needOrder_b (l : Launch) (hfl : l.stackTraces = false) (D : va_G) (tc : Nat → ClassId) (zb : Nat) (pp : Int32) (hp : ¬ (nI 0 ≤ pp ∧ pp ≤ nI 5)) : TH l yX6_needOrder wsX6_needOrder 6 82 D tc zb [] [.int (pp)] "java/lang/IndexOutOfBoundsException" := by
  refine TH.of (cc := cX6_needOrder) (maxL := 1) (ret := none) (by decide) rfl (Nat.le_of_ble_eq_true rfl) ?_
  intro p e s m args below meth c hx hb hr hml hlk hts hown hex hM hS hP ls hl
  have hl : lv_has ls 1 [(0, .int (pp))] := hl
  have hF314 : ∀ w ∈ (vx_atS RX6 314 "java/lang/IndexOutOfBoundsException" ["java/lang/RuntimeException", "java/lang/Exception"]).filter goodWord, w ∈ wsX6_needOrder := by intro w hw; unfold wsX6_needOrder; with_reducible (first | exact List.mem_cons_of_mem _ (List.mem_append_right _ hw) | exact List.mem_cons_of_mem _ (List.mem_append_left _ (List.mem_append_right _ hw)) | exact List.mem_cons_of_mem _ (List.mem_append_left _ (List.mem_append_left _ (List.mem_append_right _ hw))))
  refine lv_iload_n hx hb dX6_needOrder_0 rfl (lv_at hl 0 rfl) ?_
  refine lv_if_lt (tgt := 10) hx hb dX6_needOrder_1 (by decide) (fun h1 => ?_) (fun h1 => ?_)
  · exact th_throwW (own := RX6) (cls := "java/lang/IndexOutOfBoundsException") (text := "an order is 0 to 5") (ik := 310) (is := 312) (ic := 314) (names := ["java/lang/RuntimeException", "java/lang/Exception"]) hx hb hfl hown hex hlk hM (by decide +kernel) (by decide +kernel) (hts _ (by decide +kernel)) (hts _ (by decide +kernel)) (by decide +kernel) (th_hat hM (fun w hw => hts w (hF314 w hw)) th_n314 (by decide +kernel)) th_g314 (hl.1.trans hml.symm) dX6_needOrder_10 dX6_needOrder_13 dX6_needOrder_14 dX6_needOrder_17 dX6_needOrder_20 (by decide) (by decide) (by decide) (by decide)
  · refine lv_iload_n hx hb dX6_needOrder_4 rfl (lv_at hl 0 rfl) ?_
    refine lv_bipush (v := (nI 6)) hx hb dX6_needOrder_5 (by decide) ?_
    refine lv_icmp_lt (tgt := 21) hx hb dX6_needOrder_7 (by decide) (fun h2 => ?_) (fun h2 => ?_)
    · exact (hp ⟨k_nn0 (by assumption), k_lt_le (by assumption)⟩).elim
    · exact th_throwW (own := RX6) (cls := "java/lang/IndexOutOfBoundsException") (text := "an order is 0 to 5") (ik := 310) (is := 312) (ic := 314) (names := ["java/lang/RuntimeException", "java/lang/Exception"]) hx hb hfl hown hex hlk hM (by decide +kernel) (by decide +kernel) (hts _ (by decide +kernel)) (hts _ (by decide +kernel)) (by decide +kernel) (th_hat hM (fun w hw => hts w (hF314 w hw)) th_n314 (by decide +kernel)) th_g314 (hl.1.trans hml.symm) dX6_needOrder_10 dX6_needOrder_13 dX6_needOrder_14 dX6_needOrder_17 dX6_needOrder_20 (by decide) (by decide) (by decide) (by decide)
set_option maxHeartbeats 4000000 in
set_option maxRecDepth 100000 in
theorem c6_needOrderOrNone (l : Launch) (D : va_G) (tc : Nat → ClassId) (zb : Nat) (x : Nat) (hx9 : x < 6) : ROV l yX6_needOrderOrNone wsX6_needOrderOrNone 1 20 D tc zb [] [.int (nI x)] := by
  refine ROV.of (cc := cX6_needOrderOrNone) (maxL := 1) (ret := none) (by decide) rfl (Nat.le_of_ble_eq_true rfl) ?_
  intro p e s m args below meth c hx hb hr hml hlk hts hown hM hS hP ls hl
  have hl : lv_has ls 1 [(0, .int (nI x))] := hl
  refine lv_iload_n hx hb dX6_needOrderOrNone_0 rfl (lv_at hl 0 rfl) ?_
  refine lv_iconst (v := (-1)) hx hb dX6_needOrderOrNone_1 (by decide) ?_
  refine ln_eq_m1 (tgt := 9) hx hb dX6_needOrderOrNone_2 (by decide) (by omega) ?_
  refine lv_iload_n hx hb dX6_needOrderOrNone_5 rfl (lv_at hl 0 rfl) ?_
  refine rov_S (n := 1) ⟨hx, hb, hml, hown, hts⟩ hM hS hP (c6_needOrder l D tc zb x (by omega)) gX6_needOrderOrNone_X6_needOrder rfl (by decide +kernel) ⟨Nat.le_of_ble_eq_true rfl, Nat.le_of_ble_eq_true rfl⟩ [] rfl rfl hl.1 rfl (Nat.le_of_ble_eq_true rfl) dX6_needOrderOrNone_6 ⟨Nat.le_refl _, Nat.le_refl _⟩ ?_
  exact rov_ret hx hb hr hlk dX6_needOrderOrNone_9
set_option maxHeartbeats 4000000 in
set_option maxRecDepth 100000 in
theorem c6_needOrderOrNone_n (l : Launch) (D : va_G) (tc : Nat → ClassId) (zb : Nat)   : ROV l yX6_needOrderOrNone wsX6_needOrderOrNone 0 0 D tc zb [] [.int (-1)] := by
  refine ROV.of (cc := cX6_needOrderOrNone) (maxL := 1) (ret := none) (by decide) rfl (Nat.le_of_ble_eq_true rfl) ?_
  intro p e s m args below meth c hx hb hr hml hlk hts hown hM hS hP ls hl
  have hl : lv_has ls 1 [(0, .int (-1))] := hl
  refine lv_iload_n hx hb dX6_needOrderOrNone_0 rfl (lv_at hl 0 rfl) ?_
  refine lv_iconst (v := (-1)) hx hb dX6_needOrderOrNone_1 (by decide) ?_
  refine lv_icmp_eq (tgt := 9) hx hb dX6_needOrderOrNone_2 (by decide) (fun _ => ?_) (fun h9 => False.elim (by revert h9; decide))
  exact rov_ret hx hb hr hlk dX6_needOrderOrNone_9
set_option maxHeartbeats 4000000 in
set_option maxRecDepth 100000 in
theorem c6_needOrderOrNone_b (l : Launch) (hfl : l.stackTraces = false) (D : va_G) (tc : Nat → ClassId) (zb : Nat) (pp : Int32) (hp : ¬ (nI 0 ≤ pp ∧ pp ≤ nI 5)) (hm : ¬ pp = -1) : TH l yX6_needOrderOrNone wsX6_needOrderOrNone 7 102 D tc zb [] [.int (pp)] "java/lang/IndexOutOfBoundsException" := by
  refine TH.of (cc := cX6_needOrderOrNone) (maxL := 1) (ret := none) (by decide) rfl (Nat.le_of_ble_eq_true rfl) ?_
  intro p e s m args below meth c hx hb hr hml hlk hts hown hex hM hS hP ls hl
  have hl : lv_has ls 1 [(0, .int (pp))] := hl
  refine lv_iload_n hx hb dX6_needOrderOrNone_0 rfl (lv_at hl 0 rfl) ?_
  refine lv_iconst (v := (-1)) hx hb dX6_needOrderOrNone_1 (by decide) ?_
  refine lv_icmp_eq (tgt := 9) hx hb dX6_needOrderOrNone_2 (by decide) (fun h1 => ?_) (fun h1 => ?_)
  · exact absurd (by assumption) hm
  · refine lv_iload_n hx hb dX6_needOrderOrNone_5 rfl (lv_at hl 0 rfl) ?_
    exact th_S (n := 1) ⟨hx, hb, hml, hown, hts⟩ hM hS hP (c6_needOrder_b l hfl D tc zb ((pp)) (by first | assumption | exact hp.1)) gX6_needOrderOrNone_X6_needOrder rfl (by decide +kernel) ⟨Nat.le_of_ble_eq_true rfl, Nat.le_of_ble_eq_true rfl⟩ [] rfl rfl hl.1 rfl (Nat.le_of_ble_eq_true rfl) dX6_needOrderOrNone_6 ⟨Nat.le_refl _, Nat.le_refl _⟩ (fun H1 q ce h1 h2 h3 h4 h5 => th_out hex hlk h1 h2 h3 h4 h5)
set_option maxHeartbeats 4000000 in
set_option maxRecDepth 100000 in
theorem c6_needComponent (l : Launch) (D : va_G) (tc : Nat → ClassId) (zb : Nat) (x : Nat) (hx9 : x < 3) : ROV l yX6_needComponent wsX6_needComponent 0 0 D tc zb [] [.int (nI x)] := by
  refine ROV.of (cc := cX6_needComponent) (maxL := 1) (ret := none) (by decide) rfl (Nat.le_of_ble_eq_true rfl) ?_
  intro p e s m args below meth c hx hb hr hml hlk hts hown hM hS hP ls hl
  have hl : lv_has ls 1 [(0, .int (nI x))] := hl
  refine lv_iload_n hx hb dX6_needComponent_0 rfl (lv_at hl 0 rfl) ?_
  refine ln_if_lt (tgt := 9) hx hb dX6_needComponent_1 (by decide) (by omega) ?_
  refine lv_iload_n hx hb dX6_needComponent_4 rfl (lv_at hl 0 rfl) ?_
  refine lv_iconst (v := (nI 3)) hx hb dX6_needComponent_5 (by decide) ?_
  refine ln_icmp_lt (tgt := 20) hx hb dX6_needComponent_6 (by decide) (by omega) (by decide) (fun h1 => ?_) (fun h1 => ?_)
  · exact rov_ret hx hb hr hlk dX6_needComponent_20
  · exfalso; omega
set_option maxHeartbeats 4000000 in
set_option maxRecDepth 100000 in
theorem c6_needComponent_b (l : Launch) (hfl : l.stackTraces = false) (D : va_G) (tc : Nat → ClassId) (zb : Nat) (pp : Int32) (hp : ¬ (nI 0 ≤ pp ∧ pp ≤ nI 2)) : TH l yX6_needComponent wsX6_needComponent 6 82 D tc zb [] [.int (pp)] "java/lang/IllegalArgumentException" := by
  refine TH.of (cc := cX6_needComponent) (maxL := 1) (ret := none) (by decide) rfl (Nat.le_of_ble_eq_true rfl) ?_
  intro p e s m args below meth c hx hb hr hml hlk hts hown hex hM hS hP ls hl
  have hl : lv_has ls 1 [(0, .int (pp))] := hl
  have hF54 : ∀ w ∈ (vx_atS RX6 54 "java/lang/IllegalArgumentException" ["java/lang/RuntimeException", "java/lang/Exception"]).filter goodWord, w ∈ wsX6_needComponent := by intro w hw; unfold wsX6_needComponent; with_reducible (first | exact List.mem_cons_of_mem _ (List.mem_append_right _ hw) | exact List.mem_cons_of_mem _ (List.mem_append_left _ (List.mem_append_right _ hw)) | exact List.mem_cons_of_mem _ (List.mem_append_left _ (List.mem_append_left _ (List.mem_append_right _ hw))))
  refine lv_iload_n hx hb dX6_needComponent_0 rfl (lv_at hl 0 rfl) ?_
  refine lv_if_lt (tgt := 9) hx hb dX6_needComponent_1 (by decide) (fun h1 => ?_) (fun h1 => ?_)
  · exact th_throwW (own := RX6) (cls := "java/lang/IllegalArgumentException") (text := "a component is 0 to 2") (ik := 50) (is := 318) (ic := 54) (names := ["java/lang/RuntimeException", "java/lang/Exception"]) hx hb hfl hown hex hlk hM (by decide +kernel) (by decide +kernel) (hts _ (by decide +kernel)) (hts _ (by decide +kernel)) (by decide +kernel) (th_hat hM (fun w hw => hts w (hF54 w hw)) th_n54 (by decide +kernel)) th_g54 (hl.1.trans hml.symm) dX6_needComponent_9 dX6_needComponent_12 dX6_needComponent_13 dX6_needComponent_16 dX6_needComponent_19 (by decide) (by decide) (by decide) (by decide)
  · refine lv_iload_n hx hb dX6_needComponent_4 rfl (lv_at hl 0 rfl) ?_
    refine lv_iconst (v := (nI 3)) hx hb dX6_needComponent_5 (by decide) ?_
    refine lv_icmp_lt (tgt := 20) hx hb dX6_needComponent_6 (by decide) (fun h2 => ?_) (fun h2 => ?_)
    · exact (hp ⟨k_nn0 (by assumption), k_lt_le (by assumption)⟩).elim
    · exact th_throwW (own := RX6) (cls := "java/lang/IllegalArgumentException") (text := "a component is 0 to 2") (ik := 50) (is := 318) (ic := 54) (names := ["java/lang/RuntimeException", "java/lang/Exception"]) hx hb hfl hown hex hlk hM (by decide +kernel) (by decide +kernel) (hts _ (by decide +kernel)) (hts _ (by decide +kernel)) (by decide +kernel) (th_hat hM (fun w hw => hts w (hF54 w hw)) th_n54 (by decide +kernel)) th_g54 (hl.1.trans hml.symm) dX6_needComponent_9 dX6_needComponent_12 dX6_needComponent_13 dX6_needComponent_16 dX6_needComponent_19 (by decide) (by decide) (by decide) (by decide)
set_option maxHeartbeats 4000000 in
set_option maxRecDepth 100000 in
theorem c6_needSlot (l : Launch) (D : va_G) (tc : Nat → ClassId) (zb : Nat) (x : Nat) (hx9 : x ≤ 1) : ROV l yX6_needSlot wsX6_needSlot 0 0 D tc zb [] [.int (nI x)] := by
  refine ROV.of (cc := cX6_needSlot) (maxL := 1) (ret := none) (by decide) rfl (Nat.le_of_ble_eq_true rfl) ?_
  intro p e s m args below meth c hx hb hr hml hlk hts hown hM hS hP ls hl
  have hl : lv_has ls 1 [(0, .int (nI x))] := hl
  refine lv_iload_n hx hb dX6_needSlot_0 rfl (lv_at hl 0 rfl) ?_
  refine ln_if_eq (tgt := 20) hx hb dX6_needSlot_1 (by decide) (by omega) (fun h1 => ?_) (fun h1 => ?_)
  · exact rov_ret hx hb hr hlk dX6_needSlot_20
  · refine lv_iload_n hx hb dX6_needSlot_4 rfl (lv_at hl 0 rfl) ?_
    refine lv_iconst (v := (nI 1)) hx hb dX6_needSlot_5 (by decide) ?_
    refine ln_icmp_eq (tgt := 20) hx hb dX6_needSlot_6 (by decide) (by omega) (by decide) (fun h2 => ?_) (fun h2 => ?_)
    · exact rov_ret hx hb hr hlk dX6_needSlot_20
    · exfalso; omega
set_option maxHeartbeats 4000000 in
set_option maxRecDepth 100000 in
theorem c6_needSlot_b (l : Launch) (hfl : l.stackTraces = false) (D : va_G) (tc : Nat → ClassId) (zb : Nat) (pp : Int32) (hp : ¬ (nI 0 ≤ pp ∧ pp ≤ nI 1)) : TH l yX6_needSlot wsX6_needSlot 6 82 D tc zb [] [.int (pp)] "java/lang/IndexOutOfBoundsException" := by
  refine TH.of (cc := cX6_needSlot) (maxL := 1) (ret := none) (by decide) rfl (Nat.le_of_ble_eq_true rfl) ?_
  intro p e s m args below meth c hx hb hr hml hlk hts hown hex hM hS hP ls hl
  have hl : lv_has ls 1 [(0, .int (pp))] := hl
  have hF314 : ∀ w ∈ (vx_atS RX6 314 "java/lang/IndexOutOfBoundsException" ["java/lang/RuntimeException", "java/lang/Exception"]).filter goodWord, w ∈ wsX6_needSlot := by intro w hw; unfold wsX6_needSlot; with_reducible (first | exact List.mem_cons_of_mem _ (List.mem_append_right _ hw) | exact List.mem_cons_of_mem _ (List.mem_append_left _ (List.mem_append_right _ hw)) | exact List.mem_cons_of_mem _ (List.mem_append_left _ (List.mem_append_left _ (List.mem_append_right _ hw))))
  refine lv_iload_n hx hb dX6_needSlot_0 rfl (lv_at hl 0 rfl) ?_
  refine lv_if_eq (tgt := 20) hx hb dX6_needSlot_1 (by decide) (fun h1 => ?_) (fun h1 => ?_)
  · exact (hp (by (have h9 : pp = 0 := by assumption); subst h9; decide)).elim
  · refine lv_iload_n hx hb dX6_needSlot_4 rfl (lv_at hl 0 rfl) ?_
    refine lv_iconst (v := (nI 1)) hx hb dX6_needSlot_5 (by decide) ?_
    refine lv_icmp_eq (tgt := 20) hx hb dX6_needSlot_6 (by decide) (fun h2 => ?_) (fun h2 => ?_)
    · exact (hp (by (have h9 : pp = nI 1 := by assumption); subst h9; decide)).elim
    · exact th_throwW (own := RX6) (cls := "java/lang/IndexOutOfBoundsException") (text := "a save slot is 0 or 1") (ik := 310) (is := 320) (ic := 314) (names := ["java/lang/RuntimeException", "java/lang/Exception"]) hx hb hfl hown hex hlk hM (by decide +kernel) (by decide +kernel) (hts _ (by decide +kernel)) (hts _ (by decide +kernel)) (by decide +kernel) (th_hat hM (fun w hw => hts w (hF314 w hw)) th_n314 (by decide +kernel)) th_g314 (hl.1.trans hml.symm) dX6_needSlot_9 dX6_needSlot_12 dX6_needSlot_13 dX6_needSlot_16 dX6_needSlot_19 (by decide) (by decide) (by decide) (by decide)
set_option maxHeartbeats 4000000 in
set_option maxRecDepth 100000 in
theorem c6_needJoin (l : Launch) (D : va_G) (tc : Nat → ClassId) (zb : Nat) (f9 s9 a9 b9 : Nat) (hf9 : f9 < 1331) (hs9 : s9 < 1331) (ha9 : a9 < 3) (hb9 : b9 < 3) : ROV l yX6_needJoin wsX6_needJoin 1 20 D tc zb [] [.int (nI f9), .int (nI s9), .int (nI a9), .int (nI b9)] := by
  refine ROV.of (cc := cX6_needJoin) (maxL := 4) (ret := none) (by decide) rfl (Nat.le_of_ble_eq_true rfl) ?_
  intro p e s m args below meth c hx hb hr hml hlk hts hown hM hS hP ls hl
  have hl : lv_has ls 4 [(0, .int (nI f9)), (1, .int (nI s9)), (2, .int (nI a9)), (3, .int (nI b9))] := hl
  refine lv_iload_n hx hb dX6_needJoin_0 rfl (lv_at hl 0 rfl) ?_
  refine rov_S (n := 1) ⟨hx, hb, hml, hown, hts⟩ hM hS hP (c6_needQuestion l D tc zb f9 (by omega)) gX6_needJoin_X6_needQuestion rfl (by decide +kernel) ⟨Nat.le_of_ble_eq_true rfl, Nat.le_of_ble_eq_true rfl⟩ [] rfl rfl hl.1 rfl (Nat.le_of_ble_eq_true rfl) dX6_needJoin_1 ⟨Nat.le_refl _, Nat.le_refl _⟩ ?_
  refine lv_iload_n hx hb dX6_needJoin_4 rfl (lv_at hl 1 rfl) ?_
  refine rov_S (n := 1) ⟨hx, hb, hml, hown, hts⟩ hM hS hP (c6_needQuestion l D tc zb s9 (by omega)) gX6_needJoin_X6_needQuestion rfl (by decide +kernel) ⟨Nat.le_of_ble_eq_true rfl, Nat.le_of_ble_eq_true rfl⟩ [] rfl rfl hl.1 rfl (Nat.le_of_ble_eq_true rfl) dX6_needJoin_5 ⟨Nat.le_refl _, Nat.le_refl _⟩ ?_
  refine lv_iload_n hx hb dX6_needJoin_8 rfl (lv_at hl 2 rfl) ?_
  refine rov_S (n := 1) ⟨hx, hb, hml, hown, hts⟩ hM hS hP (c6_needComponent l D tc zb a9 (by omega)) gX6_needJoin_X6_needComponent rfl (by decide +kernel) ⟨Nat.le_of_ble_eq_true rfl, Nat.le_of_ble_eq_true rfl⟩ [] rfl rfl hl.1 rfl (Nat.le_of_ble_eq_true rfl) dX6_needJoin_9 ⟨Nat.le_refl _, Nat.le_refl _⟩ ?_
  refine lv_iload_n hx hb dX6_needJoin_12 rfl (lv_at hl 3 rfl) ?_
  refine rov_S (n := 1) ⟨hx, hb, hml, hown, hts⟩ hM hS hP (c6_needComponent l D tc zb b9 (by omega)) gX6_needJoin_X6_needComponent rfl (by decide +kernel) ⟨Nat.le_of_ble_eq_true rfl, Nat.le_of_ble_eq_true rfl⟩ [] rfl rfl hl.1 rfl (Nat.le_of_ble_eq_true rfl) dX6_needJoin_13 ⟨Nat.le_refl _, Nat.le_refl _⟩ ?_
  exact rov_ret hx hb hr hlk dX6_needJoin_16
set_option maxHeartbeats 4000000 in
set_option maxRecDepth 100000 in
theorem c6_needJoin_b1 (l : Launch) (hfl : l.stackTraces = false) (D : va_G) (tc : Nat → ClassId) (zb : Nat) (pp p2 p3 p4 : Int32)  (hp : ¬ (nI 0 ≤ pp ∧ pp ≤ nI 1330)) : TH l yX6_needJoin wsX6_needJoin 7 102 D tc zb [] [.int (pp), .int (p2), .int (p3), .int (p4)] "java/lang/IllegalArgumentException" := by
  refine TH.of (cc := cX6_needJoin) (maxL := 4) (ret := none) (by decide) rfl (Nat.le_of_ble_eq_true rfl) ?_
  intro p e s m args below meth c hx hb hr hml hlk hts hown hex hM hS hP ls hl
  have hl : lv_has ls 4 [(0, .int (pp)), (1, .int (p2)), (2, .int (p3)), (3, .int (p4))] := hl
  refine lv_iload_n hx hb dX6_needJoin_0 rfl (lv_at hl 0 rfl) ?_
  exact th_S (n := 1) ⟨hx, hb, hml, hown, hts⟩ hM hS hP (c6_needQuestion_b l hfl D tc zb ((pp)) (by first | assumption | exact hp.1)) gX6_needJoin_X6_needQuestion rfl (by decide +kernel) ⟨Nat.le_of_ble_eq_true rfl, Nat.le_of_ble_eq_true rfl⟩ [] rfl rfl hl.1 rfl (Nat.le_of_ble_eq_true rfl) dX6_needJoin_1 ⟨Nat.le_refl _, Nat.le_refl _⟩ (fun H1 q ce h1 h2 h3 h4 h5 => th_out hex hlk h1 h2 h3 h4 h5)
set_option maxHeartbeats 4000000 in
set_option maxRecDepth 100000 in
theorem c6_needJoin_b2 (l : Launch) (hfl : l.stackTraces = false) (D : va_G) (tc : Nat → ClassId) (zb : Nat) (f9 : Nat) (p2 p3 p4 : Int32) (hf9 : f9 < 1331) (hp : ¬ (nI 0 ≤ p2 ∧ p2 ≤ nI 1330)) : TH l yX6_needJoin wsX6_needJoin 7 102 D tc zb [] [.int (nI f9), .int (p2), .int (p3), .int (p4)] "java/lang/IllegalArgumentException" := by
  refine TH.of (cc := cX6_needJoin) (maxL := 4) (ret := none) (by decide) rfl (Nat.le_of_ble_eq_true rfl) ?_
  intro p e s m args below meth c hx hb hr hml hlk hts hown hex hM hS hP ls hl
  have hl : lv_has ls 4 [(0, .int (nI f9)), (1, .int (p2)), (2, .int (p3)), (3, .int (p4))] := hl
  refine lv_iload_n hx hb dX6_needJoin_0 rfl (lv_at hl 0 rfl) ?_
  refine rov_S (n := 1) ⟨hx, hb, hml, hown, hts⟩ hM hS hP (c6_needQuestion l D tc zb f9 (by omega)) gX6_needJoin_X6_needQuestion rfl (by decide +kernel) ⟨Nat.le_of_ble_eq_true rfl, Nat.le_of_ble_eq_true rfl⟩ [] rfl rfl hl.1 rfl (Nat.le_of_ble_eq_true rfl) dX6_needJoin_1 ⟨Nat.zero_le _, Nat.zero_le _⟩ ?_
  refine lv_iload_n hx hb dX6_needJoin_4 rfl (lv_at hl 1 rfl) ?_
  exact th_S (n := 1) ⟨hx, hb, hml, hown, hts⟩ hM hS hP (c6_needQuestion_b l hfl D tc zb ((p2)) (by first | assumption | exact hp.1)) gX6_needJoin_X6_needQuestion rfl (by decide +kernel) ⟨Nat.le_of_ble_eq_true rfl, Nat.le_of_ble_eq_true rfl⟩ [] rfl rfl hl.1 rfl (Nat.le_of_ble_eq_true rfl) dX6_needJoin_5 ⟨Nat.le_refl _, Nat.le_refl _⟩ (fun H1 q ce h1 h2 h3 h4 h5 => th_out hex hlk h1 h2 h3 h4 h5)
set_option maxHeartbeats 4000000 in
set_option maxRecDepth 100000 in
theorem c6_needJoin_b3 (l : Launch) (hfl : l.stackTraces = false) (D : va_G) (tc : Nat → ClassId) (zb : Nat) (f9 s9 : Nat) (p3 p4 : Int32) (hf9 : f9 < 1331) (hs9 : s9 < 1331) (hp : ¬ (nI 0 ≤ p3 ∧ p3 ≤ nI 2)) : TH l yX6_needJoin wsX6_needJoin 7 102 D tc zb [] [.int (nI f9), .int (nI s9), .int (p3), .int (p4)] "java/lang/IllegalArgumentException" := by
  refine TH.of (cc := cX6_needJoin) (maxL := 4) (ret := none) (by decide) rfl (Nat.le_of_ble_eq_true rfl) ?_
  intro p e s m args below meth c hx hb hr hml hlk hts hown hex hM hS hP ls hl
  have hl : lv_has ls 4 [(0, .int (nI f9)), (1, .int (nI s9)), (2, .int (p3)), (3, .int (p4))] := hl
  refine lv_iload_n hx hb dX6_needJoin_0 rfl (lv_at hl 0 rfl) ?_
  refine rov_S (n := 1) ⟨hx, hb, hml, hown, hts⟩ hM hS hP (c6_needQuestion l D tc zb f9 (by omega)) gX6_needJoin_X6_needQuestion rfl (by decide +kernel) ⟨Nat.le_of_ble_eq_true rfl, Nat.le_of_ble_eq_true rfl⟩ [] rfl rfl hl.1 rfl (Nat.le_of_ble_eq_true rfl) dX6_needJoin_1 ⟨Nat.zero_le _, Nat.zero_le _⟩ ?_
  refine lv_iload_n hx hb dX6_needJoin_4 rfl (lv_at hl 1 rfl) ?_
  refine rov_S (n := 1) ⟨hx, hb, hml, hown, hts⟩ hM hS hP (c6_needQuestion l D tc zb s9 (by omega)) gX6_needJoin_X6_needQuestion rfl (by decide +kernel) ⟨Nat.le_of_ble_eq_true rfl, Nat.le_of_ble_eq_true rfl⟩ [] rfl rfl hl.1 rfl (Nat.le_of_ble_eq_true rfl) dX6_needJoin_5 ⟨Nat.zero_le _, Nat.zero_le _⟩ ?_
  refine lv_iload_n hx hb dX6_needJoin_8 rfl (lv_at hl 2 rfl) ?_
  exact th_S (n := 1) ⟨hx, hb, hml, hown, hts⟩ hM hS hP (c6_needComponent_b l hfl D tc zb ((p3)) (by first | assumption | exact hp.1)) gX6_needJoin_X6_needComponent rfl (by decide +kernel) ⟨Nat.le_of_ble_eq_true rfl, Nat.le_of_ble_eq_true rfl⟩ [] rfl rfl hl.1 rfl (Nat.le_of_ble_eq_true rfl) dX6_needJoin_9 ⟨Nat.le_refl _, Nat.le_refl _⟩ (fun H1 q ce h1 h2 h3 h4 h5 => th_out hex hlk h1 h2 h3 h4 h5)
set_option maxHeartbeats 4000000 in
set_option maxRecDepth 100000 in
theorem c6_needJoin_b4 (l : Launch) (hfl : l.stackTraces = false) (D : va_G) (tc : Nat → ClassId) (zb : Nat) (f9 s9 a9 : Nat) (p4 : Int32) (hf9 : f9 < 1331) (hs9 : s9 < 1331) (ha9 : a9 < 3) (hp : ¬ (nI 0 ≤ p4 ∧ p4 ≤ nI 2)) : TH l yX6_needJoin wsX6_needJoin 7 102 D tc zb [] [.int (nI f9), .int (nI s9), .int (nI a9), .int (p4)] "java/lang/IllegalArgumentException" := by
  refine TH.of (cc := cX6_needJoin) (maxL := 4) (ret := none) (by decide) rfl (Nat.le_of_ble_eq_true rfl) ?_
  intro p e s m args below meth c hx hb hr hml hlk hts hown hex hM hS hP ls hl
  have hl : lv_has ls 4 [(0, .int (nI f9)), (1, .int (nI s9)), (2, .int (nI a9)), (3, .int (p4))] := hl
  refine lv_iload_n hx hb dX6_needJoin_0 rfl (lv_at hl 0 rfl) ?_
  refine rov_S (n := 1) ⟨hx, hb, hml, hown, hts⟩ hM hS hP (c6_needQuestion l D tc zb f9 (by omega)) gX6_needJoin_X6_needQuestion rfl (by decide +kernel) ⟨Nat.le_of_ble_eq_true rfl, Nat.le_of_ble_eq_true rfl⟩ [] rfl rfl hl.1 rfl (Nat.le_of_ble_eq_true rfl) dX6_needJoin_1 ⟨Nat.zero_le _, Nat.zero_le _⟩ ?_
  refine lv_iload_n hx hb dX6_needJoin_4 rfl (lv_at hl 1 rfl) ?_
  refine rov_S (n := 1) ⟨hx, hb, hml, hown, hts⟩ hM hS hP (c6_needQuestion l D tc zb s9 (by omega)) gX6_needJoin_X6_needQuestion rfl (by decide +kernel) ⟨Nat.le_of_ble_eq_true rfl, Nat.le_of_ble_eq_true rfl⟩ [] rfl rfl hl.1 rfl (Nat.le_of_ble_eq_true rfl) dX6_needJoin_5 ⟨Nat.zero_le _, Nat.zero_le _⟩ ?_
  refine lv_iload_n hx hb dX6_needJoin_8 rfl (lv_at hl 2 rfl) ?_
  refine rov_S (n := 1) ⟨hx, hb, hml, hown, hts⟩ hM hS hP (c6_needComponent l D tc zb a9 (by omega)) gX6_needJoin_X6_needComponent rfl (by decide +kernel) ⟨Nat.le_of_ble_eq_true rfl, Nat.le_of_ble_eq_true rfl⟩ [] rfl rfl hl.1 rfl (Nat.le_of_ble_eq_true rfl) dX6_needJoin_9 ⟨Nat.zero_le _, Nat.zero_le _⟩ ?_
  refine lv_iload_n hx hb dX6_needJoin_12 rfl (lv_at hl 3 rfl) ?_
  exact th_S (n := 1) ⟨hx, hb, hml, hown, hts⟩ hM hS hP (c6_needComponent_b l hfl D tc zb ((p4)) (by first | assumption | exact hp.1)) gX6_needJoin_X6_needComponent rfl (by decide +kernel) ⟨Nat.le_of_ble_eq_true rfl, Nat.le_of_ble_eq_true rfl⟩ [] rfl rfl hl.1 rfl (Nat.le_of_ble_eq_true rfl) dX6_needJoin_13 ⟨Nat.le_refl _, Nat.le_refl _⟩ (fun H1 q ce h1 h2 h3 h4 h5 => th_out hex hlk h1 h2 h3 h4 h5)
set_option maxHeartbeats 4000000 in
set_option maxRecDepth 100000 in
theorem c6_firstTooLong (l : Launch) (D : va_G) (tc : Nat → ClassId) (zb : Nat) (n9 : Nat) (hn9 : 1 ≤ n9 ∧ n9 ≤ 3) : RO l yX6_firstTooLong wsX6_firstTooLong 0 0 D tc zb [] [.int (nI n9)] (.long (lN (100000 ^ n9))) := by
  refine RO.of (cc := cX6_firstTooLong) (maxL := 4) (ret := (some .long)) (by decide) rfl (Nat.le_of_ble_eq_true rfl) ?_
  intro p e s m args below meth c hx hb hr hml hlk hts hown hM hS hP ls hl
  have hl : lv_has ls 4 [(0, .int (nI n9))] := hl
  rcases (show n9 = 1 ∨ n9 = 2 ∨ n9 = 3 by omega) with rfl | rfl | rfl
  · refine lv_lconst (v := (1 : Int64)) hx hb dX6_firstTooLong_0 rfl ?_
    refine lv_lstore_n (lv' := [(1, .long (1)), (0, .int (nI 1))]) hx hb dX6_firstTooLong_1 rfl hl (by decide) rfl (fun ls hl => ?_)
    refine lv_iconst (v := (nI 0)) hx hb dX6_firstTooLong_2 (by decide) ?_
    refine lv_istore_n (lv' := [(3, .int (nI 0)), (1, .long (1)), (0, .int (nI 1))]) hx hb dX6_firstTooLong_3 rfl hl (by decide) rfl (fun ls hl => ?_)
    refine lv_iload_n hx hb dX6_firstTooLong_4 rfl (lv_at hl 0 rfl) ?_
    refine lv_iload_n hx hb dX6_firstTooLong_5 rfl (lv_at hl 2 rfl) ?_
    refine lv_icmp_ge (tgt := 26) hx hb dX6_firstTooLong_6 (by decide) (fun h9 => False.elim (by revert h9; decide)) (fun _ => ?_)
    refine lv_iload_n hx hb dX6_firstTooLong_9 rfl (lv_at hl 0 rfl) ?_
    refine lv_iconst (v := (nI 3)) hx hb dX6_firstTooLong_10 (by decide) ?_
    refine lv_icmp_ge (tgt := 26) hx hb dX6_firstTooLong_11 (by decide) (fun h9 => False.elim (by revert h9; decide)) (fun _ => ?_)
    refine lv_lload_n hx hb dX6_firstTooLong_14 rfl (lv_at hl 1 rfl) ?_
    refine lv_ldc2 (v := (100000 : Int64)) hx hb hown (hts (.constantLong RX6 325 (100000)) (by decide +kernel)) dX6_firstTooLong_15 ?_
    refine lv_lmul hx hb dX6_firstTooLong_18 ?_
    refine ln_eqV (v' := .long (100000)) (congrArg Value.long (by decide)) ?_
    refine lv_lstore_n (lv' := [(1, .long (100000)), (3, .int (nI 0)), (0, .int (nI 1))]) hx hb dX6_firstTooLong_19 rfl hl (by decide) rfl (fun ls hl => ?_)
    refine lv_iinc (v := (nI 1)) (lv' := [(3, .int (nI 1)), (1, .long (100000)), (0, .int (nI 1))]) hx hb dX6_firstTooLong_20 hl (k := 1) rfl (by decide) (by decide) rfl (fun ls hl => ?_)
    refine lv_goto (tgt := 4) hx hb dX6_firstTooLong_23 (by decide) ?_
    refine lv_iload_n hx hb dX6_firstTooLong_4 rfl (lv_at hl 0 rfl) ?_
    refine lv_iload_n hx hb dX6_firstTooLong_5 rfl (lv_at hl 2 rfl) ?_
    refine lv_icmp_ge (tgt := 26) hx hb dX6_firstTooLong_6 (by decide) (fun _ => ?_) (fun h9 => False.elim (by revert h9; decide))
    refine lv_lload_n hx hb dX6_firstTooLong_26 rfl (lv_at hl 1 rfl) ?_
    exact ro_lret hx hb hr hlk dX6_firstTooLong_27 (by decide)
  · refine lv_lconst (v := (1 : Int64)) hx hb dX6_firstTooLong_0 rfl ?_
    refine lv_lstore_n (lv' := [(1, .long (1)), (0, .int (nI 2))]) hx hb dX6_firstTooLong_1 rfl hl (by decide) rfl (fun ls hl => ?_)
    refine lv_iconst (v := (nI 0)) hx hb dX6_firstTooLong_2 (by decide) ?_
    refine lv_istore_n (lv' := [(3, .int (nI 0)), (1, .long (1)), (0, .int (nI 2))]) hx hb dX6_firstTooLong_3 rfl hl (by decide) rfl (fun ls hl => ?_)
    refine lv_iload_n hx hb dX6_firstTooLong_4 rfl (lv_at hl 0 rfl) ?_
    refine lv_iload_n hx hb dX6_firstTooLong_5 rfl (lv_at hl 2 rfl) ?_
    refine lv_icmp_ge (tgt := 26) hx hb dX6_firstTooLong_6 (by decide) (fun h9 => False.elim (by revert h9; decide)) (fun _ => ?_)
    refine lv_iload_n hx hb dX6_firstTooLong_9 rfl (lv_at hl 0 rfl) ?_
    refine lv_iconst (v := (nI 3)) hx hb dX6_firstTooLong_10 (by decide) ?_
    refine lv_icmp_ge (tgt := 26) hx hb dX6_firstTooLong_11 (by decide) (fun h9 => False.elim (by revert h9; decide)) (fun _ => ?_)
    refine lv_lload_n hx hb dX6_firstTooLong_14 rfl (lv_at hl 1 rfl) ?_
    refine lv_ldc2 (v := (100000 : Int64)) hx hb hown (hts (.constantLong RX6 325 (100000)) (by decide +kernel)) dX6_firstTooLong_15 ?_
    refine lv_lmul hx hb dX6_firstTooLong_18 ?_
    refine ln_eqV (v' := .long (100000)) (congrArg Value.long (by decide)) ?_
    refine lv_lstore_n (lv' := [(1, .long (100000)), (3, .int (nI 0)), (0, .int (nI 2))]) hx hb dX6_firstTooLong_19 rfl hl (by decide) rfl (fun ls hl => ?_)
    refine lv_iinc (v := (nI 1)) (lv' := [(3, .int (nI 1)), (1, .long (100000)), (0, .int (nI 2))]) hx hb dX6_firstTooLong_20 hl (k := 1) rfl (by decide) (by decide) rfl (fun ls hl => ?_)
    refine lv_goto (tgt := 4) hx hb dX6_firstTooLong_23 (by decide) ?_
    refine lv_iload_n hx hb dX6_firstTooLong_4 rfl (lv_at hl 0 rfl) ?_
    refine lv_iload_n hx hb dX6_firstTooLong_5 rfl (lv_at hl 2 rfl) ?_
    refine lv_icmp_ge (tgt := 26) hx hb dX6_firstTooLong_6 (by decide) (fun h9 => False.elim (by revert h9; decide)) (fun _ => ?_)
    refine lv_iload_n hx hb dX6_firstTooLong_9 rfl (lv_at hl 0 rfl) ?_
    refine lv_iconst (v := (nI 3)) hx hb dX6_firstTooLong_10 (by decide) ?_
    refine lv_icmp_ge (tgt := 26) hx hb dX6_firstTooLong_11 (by decide) (fun h9 => False.elim (by revert h9; decide)) (fun _ => ?_)
    refine lv_lload_n hx hb dX6_firstTooLong_14 rfl (lv_at hl 1 rfl) ?_
    refine lv_ldc2 (v := (100000 : Int64)) hx hb hown (hts (.constantLong RX6 325 (100000)) (by decide +kernel)) dX6_firstTooLong_15 ?_
    refine lv_lmul hx hb dX6_firstTooLong_18 ?_
    refine ln_eqV (v' := .long (10000000000)) (congrArg Value.long (by decide)) ?_
    refine lv_lstore_n (lv' := [(1, .long (10000000000)), (3, .int (nI 1)), (0, .int (nI 2))]) hx hb dX6_firstTooLong_19 rfl hl (by decide) rfl (fun ls hl => ?_)
    refine lv_iinc (v := (nI 2)) (lv' := [(3, .int (nI 2)), (1, .long (10000000000)), (0, .int (nI 2))]) hx hb dX6_firstTooLong_20 hl (k := 1) rfl (by decide) (by decide) rfl (fun ls hl => ?_)
    refine lv_goto (tgt := 4) hx hb dX6_firstTooLong_23 (by decide) ?_
    refine lv_iload_n hx hb dX6_firstTooLong_4 rfl (lv_at hl 0 rfl) ?_
    refine lv_iload_n hx hb dX6_firstTooLong_5 rfl (lv_at hl 2 rfl) ?_
    refine lv_icmp_ge (tgt := 26) hx hb dX6_firstTooLong_6 (by decide) (fun _ => ?_) (fun h9 => False.elim (by revert h9; decide))
    refine lv_lload_n hx hb dX6_firstTooLong_26 rfl (lv_at hl 1 rfl) ?_
    exact ro_lret hx hb hr hlk dX6_firstTooLong_27 (by decide)
  · refine lv_lconst (v := (1 : Int64)) hx hb dX6_firstTooLong_0 rfl ?_
    refine lv_lstore_n (lv' := [(1, .long (1)), (0, .int (nI 3))]) hx hb dX6_firstTooLong_1 rfl hl (by decide) rfl (fun ls hl => ?_)
    refine lv_iconst (v := (nI 0)) hx hb dX6_firstTooLong_2 (by decide) ?_
    refine lv_istore_n (lv' := [(3, .int (nI 0)), (1, .long (1)), (0, .int (nI 3))]) hx hb dX6_firstTooLong_3 rfl hl (by decide) rfl (fun ls hl => ?_)
    refine lv_iload_n hx hb dX6_firstTooLong_4 rfl (lv_at hl 0 rfl) ?_
    refine lv_iload_n hx hb dX6_firstTooLong_5 rfl (lv_at hl 2 rfl) ?_
    refine lv_icmp_ge (tgt := 26) hx hb dX6_firstTooLong_6 (by decide) (fun h9 => False.elim (by revert h9; decide)) (fun _ => ?_)
    refine lv_iload_n hx hb dX6_firstTooLong_9 rfl (lv_at hl 0 rfl) ?_
    refine lv_iconst (v := (nI 3)) hx hb dX6_firstTooLong_10 (by decide) ?_
    refine lv_icmp_ge (tgt := 26) hx hb dX6_firstTooLong_11 (by decide) (fun h9 => False.elim (by revert h9; decide)) (fun _ => ?_)
    refine lv_lload_n hx hb dX6_firstTooLong_14 rfl (lv_at hl 1 rfl) ?_
    refine lv_ldc2 (v := (100000 : Int64)) hx hb hown (hts (.constantLong RX6 325 (100000)) (by decide +kernel)) dX6_firstTooLong_15 ?_
    refine lv_lmul hx hb dX6_firstTooLong_18 ?_
    refine ln_eqV (v' := .long (100000)) (congrArg Value.long (by decide)) ?_
    refine lv_lstore_n (lv' := [(1, .long (100000)), (3, .int (nI 0)), (0, .int (nI 3))]) hx hb dX6_firstTooLong_19 rfl hl (by decide) rfl (fun ls hl => ?_)
    refine lv_iinc (v := (nI 1)) (lv' := [(3, .int (nI 1)), (1, .long (100000)), (0, .int (nI 3))]) hx hb dX6_firstTooLong_20 hl (k := 1) rfl (by decide) (by decide) rfl (fun ls hl => ?_)
    refine lv_goto (tgt := 4) hx hb dX6_firstTooLong_23 (by decide) ?_
    refine lv_iload_n hx hb dX6_firstTooLong_4 rfl (lv_at hl 0 rfl) ?_
    refine lv_iload_n hx hb dX6_firstTooLong_5 rfl (lv_at hl 2 rfl) ?_
    refine lv_icmp_ge (tgt := 26) hx hb dX6_firstTooLong_6 (by decide) (fun h9 => False.elim (by revert h9; decide)) (fun _ => ?_)
    refine lv_iload_n hx hb dX6_firstTooLong_9 rfl (lv_at hl 0 rfl) ?_
    refine lv_iconst (v := (nI 3)) hx hb dX6_firstTooLong_10 (by decide) ?_
    refine lv_icmp_ge (tgt := 26) hx hb dX6_firstTooLong_11 (by decide) (fun h9 => False.elim (by revert h9; decide)) (fun _ => ?_)
    refine lv_lload_n hx hb dX6_firstTooLong_14 rfl (lv_at hl 1 rfl) ?_
    refine lv_ldc2 (v := (100000 : Int64)) hx hb hown (hts (.constantLong RX6 325 (100000)) (by decide +kernel)) dX6_firstTooLong_15 ?_
    refine lv_lmul hx hb dX6_firstTooLong_18 ?_
    refine ln_eqV (v' := .long (10000000000)) (congrArg Value.long (by decide)) ?_
    refine lv_lstore_n (lv' := [(1, .long (10000000000)), (3, .int (nI 1)), (0, .int (nI 3))]) hx hb dX6_firstTooLong_19 rfl hl (by decide) rfl (fun ls hl => ?_)
    refine lv_iinc (v := (nI 2)) (lv' := [(3, .int (nI 2)), (1, .long (10000000000)), (0, .int (nI 3))]) hx hb dX6_firstTooLong_20 hl (k := 1) rfl (by decide) (by decide) rfl (fun ls hl => ?_)
    refine lv_goto (tgt := 4) hx hb dX6_firstTooLong_23 (by decide) ?_
    refine lv_iload_n hx hb dX6_firstTooLong_4 rfl (lv_at hl 0 rfl) ?_
    refine lv_iload_n hx hb dX6_firstTooLong_5 rfl (lv_at hl 2 rfl) ?_
    refine lv_icmp_ge (tgt := 26) hx hb dX6_firstTooLong_6 (by decide) (fun h9 => False.elim (by revert h9; decide)) (fun _ => ?_)
    refine lv_iload_n hx hb dX6_firstTooLong_9 rfl (lv_at hl 0 rfl) ?_
    refine lv_iconst (v := (nI 3)) hx hb dX6_firstTooLong_10 (by decide) ?_
    refine lv_icmp_ge (tgt := 26) hx hb dX6_firstTooLong_11 (by decide) (fun h9 => False.elim (by revert h9; decide)) (fun _ => ?_)
    refine lv_lload_n hx hb dX6_firstTooLong_14 rfl (lv_at hl 1 rfl) ?_
    refine lv_ldc2 (v := (100000 : Int64)) hx hb hown (hts (.constantLong RX6 325 (100000)) (by decide +kernel)) dX6_firstTooLong_15 ?_
    refine lv_lmul hx hb dX6_firstTooLong_18 ?_
    refine ln_eqV (v' := .long (1000000000000000)) (congrArg Value.long (by decide)) ?_
    refine lv_lstore_n (lv' := [(1, .long (1000000000000000)), (3, .int (nI 2)), (0, .int (nI 3))]) hx hb dX6_firstTooLong_19 rfl hl (by decide) rfl (fun ls hl => ?_)
    refine lv_iinc (v := (nI 3)) (lv' := [(3, .int (nI 3)), (1, .long (1000000000000000)), (0, .int (nI 3))]) hx hb dX6_firstTooLong_20 hl (k := 1) rfl (by decide) (by decide) rfl (fun ls hl => ?_)
    refine lv_goto (tgt := 4) hx hb dX6_firstTooLong_23 (by decide) ?_
    refine lv_iload_n hx hb dX6_firstTooLong_4 rfl (lv_at hl 0 rfl) ?_
    refine lv_iload_n hx hb dX6_firstTooLong_5 rfl (lv_at hl 2 rfl) ?_
    refine lv_icmp_ge (tgt := 26) hx hb dX6_firstTooLong_6 (by decide) (fun _ => ?_) (fun h9 => False.elim (by revert h9; decide))
    refine lv_lload_n hx hb dX6_firstTooLong_26 rfl (lv_at hl 1 rfl) ?_
    exact ro_lret hx hb hr hlk dX6_firstTooLong_27 (by decide)
set_option maxHeartbeats 4000000 in
set_option maxRecDepth 100000 in
theorem c6_slotOf_0 (l : Launch) (D : va_G) (tc : Nat → ClassId) (zb : Nat) (x0 l1 l2 : Nat) (o : Nat → Value)  : RO l yX6_slotOf wsX6_slotOf 0 0 D tc zb [(x0, .inr (5, [o 0, o 1, o 2, o 3, o 4, .ref l1, .ref l2]))] [.ref x0, .int (nI 0)] (.ref l1) := by
  refine RO.of (cc := cX6_slotOf) (maxL := 2) (ret := (some (.object "TripleWays$Slot"))) (by decide) rfl (Nat.le_of_ble_eq_true rfl) ?_
  intro p e s m args below meth c hx hb hr hml hlk hts hown hM hS hP ls hl
  have hl : lv_has ls 2 [(0, .ref x0), (1, .int (nI 0))] := hl
  have hinX6 : ∀ w ∈ u_ws RX6 TX6 7, w ∈ wsX6_slotOf := by decide +kernel
  refine lv_iload_n hx hb dX6_slotOf_0 rfl (lv_at hl 1 rfl) ?_
  refine lv_if_ne (tgt := 11) hx hb dX6_slotOf_1 (by decide) (fun h9 => False.elim (by revert h9; decide)) (fun _ => ?_)
  refine lv_aload_n hx hb dX6_slotOf_4 rfl (lv_at hl 0 rfl) ?_
  refine va_get (D := D) (ci := 5) (v := .ref l1) (C := RX6) (T := TX6) (N := 7) hx hb hts hinX6 hown hM.1 hP 0 rfl rfl 5 (by decide) (hts (.fieldLink RX6 43 "TripleWays" "firstSlot" "LTripleWays$Slot;") (by decide +kernel)) (fun _ h9 => h9) rfl dX6_slotOf_5 ?_
  refine lv_goto (tgt := 15) hx hb dX6_slotOf_8 (by decide) ?_
  exact ro_aret hx hb hr hlk dX6_slotOf_15 rfl
set_option maxHeartbeats 4000000 in
set_option maxRecDepth 100000 in
theorem c6_slotOf_1 (l : Launch) (D : va_G) (tc : Nat → ClassId) (zb : Nat) (x0 l1 l2 : Nat) (o : Nat → Value)  : RO l yX6_slotOf wsX6_slotOf 0 0 D tc zb [(x0, .inr (5, [o 0, o 1, o 2, o 3, o 4, .ref l1, .ref l2]))] [.ref x0, .int (nI 1)] (.ref l2) := by
  refine RO.of (cc := cX6_slotOf) (maxL := 2) (ret := (some (.object "TripleWays$Slot"))) (by decide) rfl (Nat.le_of_ble_eq_true rfl) ?_
  intro p e s m args below meth c hx hb hr hml hlk hts hown hM hS hP ls hl
  have hl : lv_has ls 2 [(0, .ref x0), (1, .int (nI 1))] := hl
  have hinX6 : ∀ w ∈ u_ws RX6 TX6 7, w ∈ wsX6_slotOf := by decide +kernel
  refine lv_iload_n hx hb dX6_slotOf_0 rfl (lv_at hl 1 rfl) ?_
  refine lv_if_ne (tgt := 11) hx hb dX6_slotOf_1 (by decide) (fun _ => ?_) (fun h9 => False.elim (by revert h9; decide))
  refine lv_aload_n hx hb dX6_slotOf_11 rfl (lv_at hl 0 rfl) ?_
  refine va_get (D := D) (ci := 5) (v := .ref l2) (C := RX6) (T := TX6) (N := 7) hx hb hts hinX6 hown hM.1 hP 0 rfl rfl 6 (by decide) (hts (.fieldLink RX6 47 "TripleWays" "secondSlot" "LTripleWays$Slot;") (by decide +kernel)) (fun _ h9 => h9) rfl dX6_slotOf_12 ?_
  exact ro_aret hx hb hr hlk dX6_slotOf_15 rfl
