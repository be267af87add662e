theorem k_lt_le {v : Int32} {a : Nat} (h : v < nI (a + 1)) (ha : a + 1 < 2 ^ 31 := by decide) : v ≤ nI a := by
  rw [Int32.lt_iff_toInt_lt, nI_toInt ha] at h
  rw [Int32.le_iff_toInt_le, nI_toInt (by omega)]
  omega
theorem k_swo {v : Int32} {lo hi : Nat} (h : ¬ (nI lo ≤ v ∧ v ≤ nI hi)) (hl : lo < 2 ^ 31 := by decide) (hh : hi < 2 ^ 31 := by decide) : v.toInt < (lo : Int) ∨ (hi : Int) < v.toInt := by
  rw [Int32.le_iff_toInt_le, Int32.le_iff_toInt_le, nI_toInt hl, nI_toInt hh] at h
  omega
theorem k_nn0 {v : Int32} (h : ¬ v < 0) : nI 0 ≤ v := Int32.not_lt.mp h
set_option maxHeartbeats 4000000 in
set_option maxRecDepth 100000 in
theorem c6_needQuestion (l : Launch) (D : va_G) (tc : Nat → ClassId) (zb : Nat) (x : Nat) (hx9 : x < 1331) : ROV l yX6_needQuestion wsX6_needQuestion 0 0 D tc zb [] [.int (nI x)] := by
  refine ROV.of (cc := cX6_needQuestion) (maxL := 1) (ret := none) (by decide) rfl (Nat.le_of_ble_eq_true rfl) ?_
  intro p e s m args below meth c hx hb hr hml hlk hts hown hM hS hP ls hl
  have hl : lv_has ls 1 [(0, .int (nI x))] := hl
  refine lv_iload_n hx hb dX6_needQuestion_0 rfl (lv_at hl 0 rfl) ?_
  refine ln_if_lt (tgt := 11) hx hb dX6_needQuestion_1 (by decide) (by omega) ?_
  refine lv_iload_n hx hb dX6_needQuestion_4 rfl (lv_at hl 0 rfl) ?_
  refine lv_sipush (v := (nI 1330)) hx hb dX6_needQuestion_5 (by decide) ?_
  refine ln_icmp_le (tgt := 22) hx hb dX6_needQuestion_8 (by decide) (by omega) (by decide) (fun h1 => ?_) (fun h1 => ?_)
  · exact rov_ret hx hb hr hlk dX6_needQuestion_22
  · exfalso; omega

set_option maxHeartbeats 4000000 in
set_option maxRecDepth 100000 in
theorem c6_needTriple (l : Launch) (D : va_G) (tc : Nat → ClassId) (zb : Nat) (x : Nat) (hx9 : x < 1000) : ROV l yX6_needTriple wsX6_needTriple 0 0 D tc zb [] [.int (nI x)] := by
  refine ROV.of (cc := cX6_needTriple) (maxL := 1) (ret := none) (by decide) rfl (Nat.le_of_ble_eq_true rfl) ?_
  intro p e s m args below meth c hx hb hr hml hlk hts hown hM hS hP ls hl
  have hl : lv_has ls 1 [(0, .int (nI x))] := hl
  refine lv_iload_n hx hb dX6_needTriple_0 rfl (lv_at hl 0 rfl) ?_
  refine ln_if_lt (tgt := 11) hx hb dX6_needTriple_1 (by decide) (by omega) ?_
  refine lv_iload_n hx hb dX6_needTriple_4 rfl (lv_at hl 0 rfl) ?_
  refine lv_sipush (v := (nI 999)) hx hb dX6_needTriple_5 (by decide) ?_
  refine ln_icmp_le (tgt := 22) hx hb dX6_needTriple_8 (by decide) (by omega) (by decide) (fun h1 => ?_) (fun h1 => ?_)
  · exact rov_ret hx hb hr hlk dX6_needTriple_22
  · exfalso; omega

set_option maxHeartbeats 4000000 in
set_option maxRecDepth 100000 in
theorem c6_needPlace (l : Launch) (D : va_G) (tc : Nat → ClassId) (zb : Nat) (x : Nat) (hx9 : x < 2 ^ 31) : ROV l yX6_needPlace wsX6_needPlace 0 0 D tc zb [] [.int (nI x)] := by
  refine ROV.of (cc := cX6_needPlace) (maxL := 1) (ret := none) (by decide) rfl (Nat.le_of_ble_eq_true rfl) ?_
  intro p e s m args below meth c hx hb hr hml hlk hts hown hM hS hP ls hl
  have hl : lv_has ls 1 [(0, .int (nI x))] := hl
  refine lv_iload_n hx hb dX6_needPlace_0 rfl (lv_at hl 0 rfl) ?_
  refine ln_if_ge (tgt := 15) hx hb dX6_needPlace_1 (by decide) (by omega) ?_
  exact rov_ret hx hb hr hlk dX6_needPlace_15

set_option maxHeartbeats 4000000 in
set_option maxRecDepth 100000 in
theorem c6_needOrder (l : Launch) (D : va_G) (tc : Nat → ClassId) (zb : Nat) (x : Nat) (hx9 : x < 6) : ROV l yX6_needOrder wsX6_needOrder 0 0 D tc zb [] [.int (nI x)] := by
  refine ROV.of (cc := cX6_needOrder) (maxL := 1) (ret := none) (by decide) rfl (Nat.le_of_ble_eq_true rfl) ?_
  intro p e s m args below meth c hx hb hr hml hlk hts hown hM hS hP ls hl
  have hl : lv_has ls 1 [(0, .int (nI x))] := hl
  refine lv_iload_n hx hb dX6_needOrder_0 rfl (lv_at hl 0 rfl) ?_
  refine ln_if_lt (tgt := 10) hx hb dX6_needOrder_1 (by decide) (by omega) ?_
  refine lv_iload_n hx hb dX6_needOrder_4 rfl (lv_at hl 0 rfl) ?_
  refine lv_bipush (v := (nI 6)) hx hb dX6_needOrder_5 (by decide) ?_
  refine ln_icmp_lt (tgt := 21) hx hb dX6_needOrder_7 (by decide) (by omega) (by decide) (fun h1 => ?_) (fun h1 => ?_)
  · exact rov_ret hx hb hr hlk dX6_needOrder_21
  · exfalso; omega

set_option maxHeartbeats 4000000 in
set_option maxRecDepth 100000 in
theorem c6_needOrderOrNone (l : Launch) (D : va_G) (tc : Nat → ClassId) (zb : Nat) (x : Nat) (hx9 : x < 6) : ROV l yX6_needOrderOrNone wsX6_needOrderOrNone 1 20 D tc zb [] [.int (nI x)] := by
  refine ROV.of (cc := cX6_needOrderOrNone) (maxL := 1) (ret := none) (by decide) rfl (Nat.le_of_ble_eq_true rfl) ?_
  intro p e s m args below meth c hx hb hr hml hlk hts hown hM hS hP ls hl
  have hl : lv_has ls 1 [(0, .int (nI x))] := hl
  refine lv_iload_n hx hb dX6_needOrderOrNone_0 rfl (lv_at hl 0 rfl) ?_
  refine lv_iconst (v := (-1)) hx hb dX6_needOrderOrNone_1 (by decide) ?_
  refine ln_eq_m1 (tgt := 9) hx hb dX6_needOrderOrNone_2 (by decide) (by omega) ?_
  refine lv_iload_n hx hb dX6_needOrderOrNone_5 rfl (lv_at hl 0 rfl) ?_
  refine rov_S (n := 1) ⟨hx, hb, hml, hown, hts⟩ hM hS hP (c6_needOrder l D tc zb x (by omega)) gX6_needOrderOrNone_X6_needOrder rfl (by decide +kernel) ⟨Nat.le_of_ble_eq_true rfl, Nat.le_of_ble_eq_true rfl⟩ [] rfl rfl hl.1 rfl (Nat.le_of_ble_eq_true rfl) dX6_needOrderOrNone_6 ⟨Nat.le_refl _, Nat.le_refl _⟩ ?_
  exact rov_ret hx hb hr hlk dX6_needOrderOrNone_9
set_option maxHeartbeats 4000000 in
set_option maxRecDepth 100000 in
theorem c6_needOrderOrNone_n (l : Launch) (D : va_G) (tc : Nat → ClassId) (zb : Nat)   : ROV l yX6_needOrderOrNone wsX6_needOrderOrNone 0 0 D tc zb [] [.int (-1)] := by
  refine ROV.of (cc := cX6_needOrderOrNone) (maxL := 1) (ret := none) (by decide) rfl (Nat.le_of_ble_eq_true rfl) ?_
  intro p e s m args below meth c hx hb hr hml hlk hts hown hM hS hP ls hl
  have hl : lv_has ls 1 [(0, .int (-1))] := hl
  refine lv_iload_n hx hb dX6_needOrderOrNone_0 rfl (lv_at hl 0 rfl) ?_
  refine lv_iconst (v := (-1)) hx hb dX6_needOrderOrNone_1 (by decide) ?_
  refine lv_icmp_eq (tgt := 9) hx hb dX6_needOrderOrNone_2 (by decide) (fun _ => ?_) (fun h9 => False.elim (by revert h9; decide))
  exact rov_ret hx hb hr hlk dX6_needOrderOrNone_9













