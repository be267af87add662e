theorem c7_in_g (l : Launch) (D : va_G) (tc : Nat → ClassId) (zb : Nat) (x lo hi : Nat) (h1 : x < 2 ^ 31) (h2 : lo < 2 ^ 31) (h3 : hi < 2 ^ 31) : RO l yX7_in wsX7_in 0 0 D tc zb [] [.long (nI x).toInt64, .long (lN lo), .long (lN hi)] (.int (bI (decide (lo ≤ x ∧ x ≤ hi)))) := by
  have h := c7_in l D tc zb (nI x).toInt64 (lN lo) (lN hi)
  rw [show decide (lN lo ≤ (nI x).toInt64 ∧ (nI x).toInt64 ≤ lN hi) = decide (lo ≤ x ∧ x ≤ hi) from decide_eq_decide.mpr (by rw [nI_l h1, lN_le h2 h1, lN_le h1 h3])] at h
  exact h
theorem c7_in_ok (l : Launch) (D : va_G) (tc : Nat → ClassId) (zb : Nat) (x lo hi : Nat) (h1 : lo ≤ x ∧ x ≤ hi) (h3 : hi < 2 ^ 31) : RO l yX7_in wsX7_in 0 0 D tc zb [] [.long (nI x).toInt64, .long (lN lo), .long (lN hi)] (.int (bI true)) := by
  have h := c7_in_g l D tc zb x lo hi (by omega) (by omega) h3
  rw [decide_eq_true h1] at h
  exact h
theorem c7_in_bad (l : Launch) (D : va_G) (tc : Nat → ClassId) (zb : Nat) (pp : Int32) (lo hi : Nat) (h1 : ¬ (nI lo ≤ pp ∧ pp ≤ nI hi)) (h2 : lo < 2 ^ 31) (h3 : hi < 2 ^ 31) : RO l yX7_in wsX7_in 0 0 D tc zb [] [.long pp.toInt64, .long (lN lo), .long (lN hi)] (.int (bI false)) := by
  have h := c7_in l D tc zb pp.toInt64 (lN lo) (lN hi)
  rw [decide_eq_false (fun q => h1 (by rw [← nI_l h2, ← nI_l h3, k_wide_le, k_wide_le] at q; exact q))] at h
  exact h
theorem c7_in_by (l : Launch) (D : va_G) (tc : Nat → ClassId) (zb : Nat) (c9 : Nat) (h1 : c9 < 256) : RO l yX7_in wsX7_in 0 0 D tc zb [] [.long (byI c9).toInt64, .long (48 : Int64), .long (57 : Int64)] (.int (bI (decide (48 ≤ c9 ∧ c9 ≤ 57)))) := by
  have h := c7_in l D tc zb (byI c9).toInt64 (48 : Int64) (57 : Int64)
  rw [k_by_in c9 h1] at h
  exact h

set_option maxHeartbeats 4000000 in
set_option maxRecDepth 100000 in
theorem c7_isQuestion_bad (l : Launch) (D : va_G) (tc : Nat → ClassId) (zb : Nat) (pp : Int32) (hp : ¬ (nI 0 ≤ pp ∧ pp ≤ nI 1330)) : RO l yX7_isQuestion wsX7_isQuestion 1 25 D tc zb [] [.int (pp)] (.int (bI (false))) := by
  refine RO.of (cc := cX7_isQuestion) (maxL := 1) (ret := (some .boolean)) (by decide) rfl (Nat.le_of_ble_eq_true rfl) ?_
  intro p e s m args below meth c hx hb hr hml hlk hts hown hM hS hP ls hl
  have hl : lv_has ls 1 [(0, .int (pp))] := hl
  refine lv_iload_n hx hb dX7_isQuestion_0 rfl (lv_at hl 0 rfl) ?_
  refine lv_i2l (v := ((pp)).toInt64) hx hb dX7_isQuestion_1 rfl ?_
  refine lv_lconst (v := (0 : Int64)) hx hb dX7_isQuestion_2 rfl ?_
  refine lv_ldc2 (v := (1330 : Int64)) hx hb hown (hts (.constantLong RX7 51 (1330)) (by decide +kernel)) dX7_isQuestion_3 ?_
  refine ro_S (n := 3) ⟨hx, hb, hml, hown, hts⟩ hM hS hP (c7_in_bad l D tc zb pp 0 1330 (by assumption) (by decide) (by decide)) gX7_isQuestion_X7_in rfl (by decide +kernel) ⟨Nat.le_of_ble_eq_true rfl, Nat.le_of_ble_eq_true rfl⟩ [] rfl rfl hl.1 rfl (Nat.le_of_ble_eq_true rfl) dX7_isQuestion_6 ⟨Nat.le_refl _, Nat.le_refl _⟩ ?_
  exact ro_zret hx hb hr hlk dX7_isQuestion_9 (rfl)
set_option maxHeartbeats 4000000 in
set_option maxRecDepth 100000 in
theorem c7_isQuestion_g (l : Launch) (D : va_G) (tc : Nat → ClassId) (zb : Nat) (x : Nat) (hx9 : x < 2 ^ 31) : RO l yX7_isQuestion wsX7_isQuestion 1 25 D tc zb [] [.int (nI x)] (.int (bI (decide (x ≤ 1330)))) := by
  refine RO.of (cc := cX7_isQuestion) (maxL := 1) (ret := (some .boolean)) (by decide) rfl (Nat.le_of_ble_eq_true rfl) ?_
  intro p e s m args below meth c hx hb hr hml hlk hts hown hM hS hP ls hl
  have hl : lv_has ls 1 [(0, .int (nI x))] := hl
  refine lv_iload_n hx hb dX7_isQuestion_0 rfl (lv_at hl 0 rfl) ?_
  refine lv_i2l (v := ((nI x)).toInt64) hx hb dX7_isQuestion_1 rfl ?_
  refine lv_lconst (v := (0 : Int64)) hx hb dX7_isQuestion_2 rfl ?_
  refine lv_ldc2 (v := (1330 : Int64)) hx hb hown (hts (.constantLong RX7 51 (1330)) (by decide +kernel)) dX7_isQuestion_3 ?_
  refine ro_S (n := 3) ⟨hx, hb, hml, hown, hts⟩ hM hS hP (c7_in_g l D tc zb x 0 1330 (by omega) (by decide) (by decide)) gX7_isQuestion_X7_in rfl (by decide +kernel) ⟨Nat.le_of_ble_eq_true rfl, Nat.le_of_ble_eq_true rfl⟩ [] rfl rfl hl.1 rfl (Nat.le_of_ble_eq_true rfl) dX7_isQuestion_6 ⟨Nat.le_refl _, Nat.le_refl _⟩ ?_
  exact ro_zret hx hb hr hlk dX7_isQuestion_9 (congrArg bI (by simp))
set_option maxHeartbeats 4000000 in
set_option maxRecDepth 100000 in
theorem c7_isQuestion_ok (l : Launch) (D : va_G) (tc : Nat → ClassId) (zb : Nat) (x : Nat) (hx9 : x ≤ 1330) : RO l yX7_isQuestion wsX7_isQuestion 1 25 D tc zb [] [.int (nI x)] (.int (bI (true))) := by
  refine RO.of (cc := cX7_isQuestion) (maxL := 1) (ret := (some .boolean)) (by decide) rfl (Nat.le_of_ble_eq_true rfl) ?_
  intro p e s m args below meth c hx hb hr hml hlk hts hown hM hS hP ls hl
  have hl : lv_has ls 1 [(0, .int (nI x))] := hl
  refine lv_iload_n hx hb dX7_isQuestion_0 rfl (lv_at hl 0 rfl) ?_
  refine lv_i2l (v := ((nI x)).toInt64) hx hb dX7_isQuestion_1 rfl ?_
  refine lv_lconst (v := (0 : Int64)) hx hb dX7_isQuestion_2 rfl ?_
  refine lv_ldc2 (v := (1330 : Int64)) hx hb hown (hts (.constantLong RX7 51 (1330)) (by decide +kernel)) dX7_isQuestion_3 ?_
  refine ro_S (n := 3) ⟨hx, hb, hml, hown, hts⟩ hM hS hP (c7_in_ok l D tc zb x 0 1330 (by omega) (by decide)) gX7_isQuestion_X7_in rfl (by decide +kernel) ⟨Nat.le_of_ble_eq_true rfl, Nat.le_of_ble_eq_true rfl⟩ [] rfl rfl hl.1 rfl (Nat.le_of_ble_eq_true rfl) dX7_isQuestion_6 ⟨Nat.le_refl _, Nat.le_refl _⟩ ?_
  exact ro_zret hx hb hr hlk dX7_isQuestion_9 (rfl)
set_option maxHeartbeats 4000000 in
set_option maxRecDepth 100000 in
theorem c7_isOrder_bad (l : Launch) (D : va_G) (tc : Nat → ClassId) (zb : Nat) (pp : Int32) (hp : ¬ (nI 0 ≤ pp ∧ pp ≤ nI 5)) : RO l yX7_isOrder wsX7_isOrder 1 25 D tc zb [] [.int (pp)] (.int (bI (false))) := by
  refine RO.of (cc := cX7_isOrder) (maxL := 1) (ret := (some .boolean)) (by decide) rfl (Nat.le_of_ble_eq_true rfl) ?_
  intro p e s m args below meth c hx hb hr hml hlk hts hown hM hS hP ls hl
  have hl : lv_has ls 1 [(0, .int (pp))] := hl
  refine lv_iload_n hx hb dX7_isOrder_0 rfl (lv_at hl 0 rfl) ?_
  refine lv_i2l (v := ((pp)).toInt64) hx hb dX7_isOrder_1 rfl ?_
  refine lv_lconst (v := (0 : Int64)) hx hb dX7_isOrder_2 rfl ?_
  refine lv_ldc2 (v := (5 : Int64)) hx hb hown (hts (.constantLong RX7 57 (5)) (by decide +kernel)) dX7_isOrder_3 ?_
  refine ro_S (n := 3) ⟨hx, hb, hml, hown, hts⟩ hM hS hP (c7_in_bad l D tc zb pp 0 5 (by assumption) (by decide) (by decide)) gX7_isOrder_X7_in rfl (by decide +kernel) ⟨Nat.le_of_ble_eq_true rfl, Nat.le_of_ble_eq_true rfl⟩ [] rfl rfl hl.1 rfl (Nat.le_of_ble_eq_true rfl) dX7_isOrder_6 ⟨Nat.le_refl _, Nat.le_refl _⟩ ?_
  exact ro_zret hx hb hr hlk dX7_isOrder_9 (rfl)
set_option maxHeartbeats 4000000 in
set_option maxRecDepth 100000 in
theorem c7_isOrder_g (l : Launch) (D : va_G) (tc : Nat → ClassId) (zb : Nat) (q : Nat) (hx9 : q < 2 ^ 31) : RO l yX7_isOrder wsX7_isOrder 1 25 D tc zb [] [.int (nI q)] (.int (bI (decide (q ≤ 5)))) := by
  refine RO.of (cc := cX7_isOrder) (maxL := 1) (ret := (some .boolean)) (by decide) rfl (Nat.le_of_ble_eq_true rfl) ?_
  intro p e s m args below meth c hx hb hr hml hlk hts hown hM hS hP ls hl
  have hl : lv_has ls 1 [(0, .int (nI q))] := hl
  refine lv_iload_n hx hb dX7_isOrder_0 rfl (lv_at hl 0 rfl) ?_
  refine lv_i2l (v := ((nI q)).toInt64) hx hb dX7_isOrder_1 rfl ?_
  refine lv_lconst (v := (0 : Int64)) hx hb dX7_isOrder_2 rfl ?_
  refine lv_ldc2 (v := (5 : Int64)) hx hb hown (hts (.constantLong RX7 57 (5)) (by decide +kernel)) dX7_isOrder_3 ?_
  refine ro_S (n := 3) ⟨hx, hb, hml, hown, hts⟩ hM hS hP (c7_in_g l D tc zb q 0 5 (by omega) (by decide) (by decide)) gX7_isOrder_X7_in rfl (by decide +kernel) ⟨Nat.le_of_ble_eq_true rfl, Nat.le_of_ble_eq_true rfl⟩ [] rfl rfl hl.1 rfl (Nat.le_of_ble_eq_true rfl) dX7_isOrder_6 ⟨Nat.le_refl _, Nat.le_refl _⟩ ?_
  exact ro_zret hx hb hr hlk dX7_isOrder_9 (congrArg bI (by simp))
set_option maxHeartbeats 4000000 in
set_option maxRecDepth 100000 in
theorem c7_isOrder_ok (l : Launch) (D : va_G) (tc : Nat → ClassId) (zb : Nat) (q : Nat) (hx9 : q ≤ 5) : RO l yX7_isOrder wsX7_isOrder 1 25 D tc zb [] [.int (nI q)] (.int (bI (true))) := by
  refine RO.of (cc := cX7_isOrder) (maxL := 1) (ret := (some .boolean)) (by decide) rfl (Nat.le_of_ble_eq_true rfl) ?_
  intro p e s m args below meth c hx hb hr hml hlk hts hown hM hS hP ls hl
  have hl : lv_has ls 1 [(0, .int (nI q))] := hl
  refine lv_iload_n hx hb dX7_isOrder_0 rfl (lv_at hl 0 rfl) ?_
  refine lv_i2l (v := ((nI q)).toInt64) hx hb dX7_isOrder_1 rfl ?_
  refine lv_lconst (v := (0 : Int64)) hx hb dX7_isOrder_2 rfl ?_
  refine lv_ldc2 (v := (5 : Int64)) hx hb hown (hts (.constantLong RX7 57 (5)) (by decide +kernel)) dX7_isOrder_3 ?_
  refine ro_S (n := 3) ⟨hx, hb, hml, hown, hts⟩ hM hS hP (c7_in_ok l D tc zb q 0 5 (by omega) (by decide)) gX7_isOrder_X7_in rfl (by decide +kernel) ⟨Nat.le_of_ble_eq_true rfl, Nat.le_of_ble_eq_true rfl⟩ [] rfl rfl hl.1 rfl (Nat.le_of_ble_eq_true rfl) dX7_isOrder_6 ⟨Nat.le_refl _, Nat.le_refl _⟩ ?_
  exact ro_zret hx hb hr hlk dX7_isOrder_9 (rfl)
set_option maxHeartbeats 4000000 in
set_option maxRecDepth 100000 in
theorem c7_holds0 (l : Launch) (D : va_G) (tc : Nat → ClassId) (zb : Nat) (b : Nat) (th : Int32) (o : Nat → Value)  : IP l yX7_holds wsX7_holds 0 0 D tc zb [(b, .inr (6, [.int (th), o 1, o 2, o 3, o 4, o 5, o 6, o 7, o 8]))] [(b, .inr (6, [.int (nI 0), o 1, o 2, o 3, o 4, o 5, o 6, o 7, o 8]))] [.ref b, .int (nI 0)] (some (.int (bI (true)))) := by
  refine IP.of (cc := cX7_holds) (maxL := 2) (ret := (some .boolean)) (by decide) rfl (Nat.le_of_ble_eq_true rfl) ?_
  intro p e s m args below meth c A hx hb hr hml hlk hts hown hM hS hP hD ls hl
  have hl : lv_has ls 2 [(0, .ref b), (1, .int (nI 0))] := hl
  have hinX7 : ∀ w ∈ u_ws RX7 TX7 9, w ∈ wsX7_holds := by decide +kernel
  refine lv_aload_n hx hb dX7_holds_0 rfl (lv_at hl 0 rfl) ?_
  refine lv_iload_n hx hb dX7_holds_1 rfl (lv_at hl 1 rfl) ?_
  refine va_put (D := D) (ci := 6) (v := .int (nI 0)) (ty := .int) (C := RX7) (T := TX7) (N := 9) hx hb hts hinX7 tyX7 tyX7_ok nmX7 hown hM.1 hP hD hS 0 rfl rfl 0 (by decide) (hts (.fieldLink RX7 30 "TripleWaysModel" "thrown" "I") (by decide +kernel)) (fun _ h9 => h9) rfl (by decide +kernel) rfl rfl (Nat.le_of_ble_eq_true rfl) dX7_holds_2 (fun H locs hP hD hS => ?_)
  have hP : va_P D vwCl [(b, .inr (6, [.int (nI 0), o 1, o 2, o 3, o 4, o 5, o 6, o 7, o 8]))] H := hP
  have hD : va_D A [(b, .inr (6, [.int (nI 0), o 1, o 2, o 3, o 4, o 5, o 6, o 7, o 8]))] := hD
  refine lv_iload_n hx hb dX7_holds_5 rfl (lv_at hl 1 rfl) ?_
  refine lv_if_ne (tgt := 13) hx hb dX7_holds_6 (by decide) (fun h9 => False.elim (by revert h9; decide)) (fun _ => ?_)
  refine lv_iconst (v := (nI 1)) hx hb dX7_holds_9 (by decide) ?_
  refine lv_goto (tgt := 14) hx hb dX7_holds_10 (by decide) ?_
  exact ip_zret hx hb hr hlk dX7_holds_14 hS (show bI true = _ from congrArg bI (by rfl)) hP
set_option maxHeartbeats 4000000 in
set_option maxRecDepth 100000 in
theorem c7_holdsP (l : Launch) (D : va_G) (tc : Nat → ClassId) (zb : Nat) (b : Nat) (th : Int32) (o : Nat → Value) (pl : Nat) (hpl : 0 < pl ∧ pl < 3) : IP l yX7_holds wsX7_holds 0 0 D tc zb [(b, .inr (6, [.int (th), o 1, o 2, o 3, o 4, o 5, o 6, o 7, o 8]))] [(b, .inr (6, [.int (nI pl), o 1, o 2, o 3, o 4, o 5, o 6, o 7, o 8]))] [.ref b, .int (nI pl)] (some (.int (bI (false)))) := by
  refine IP.of (cc := cX7_holds) (maxL := 2) (ret := (some .boolean)) (by decide) rfl (Nat.le_of_ble_eq_true rfl) ?_
  intro p e s m args below meth c A hx hb hr hml hlk hts hown hM hS hP hD ls hl
  have hl : lv_has ls 2 [(0, .ref b), (1, .int (nI pl))] := hl
  have hinX7 : ∀ w ∈ u_ws RX7 TX7 9, w ∈ wsX7_holds := by decide +kernel
  refine lv_aload_n hx hb dX7_holds_0 rfl (lv_at hl 0 rfl) ?_
  refine lv_iload_n hx hb dX7_holds_1 rfl (lv_at hl 1 rfl) ?_
  refine va_put (D := D) (ci := 6) (v := .int (nI pl)) (ty := .int) (C := RX7) (T := TX7) (N := 9) hx hb hts hinX7 tyX7 tyX7_ok nmX7 hown hM.1 hP hD hS 0 rfl rfl 0 (by decide) (hts (.fieldLink RX7 30 "TripleWaysModel" "thrown" "I") (by decide +kernel)) (fun _ h9 => h9) rfl (by decide +kernel) rfl rfl (Nat.le_of_ble_eq_true rfl) dX7_holds_2 (fun H locs hP hD hS => ?_)
  have hP : va_P D vwCl [(b, .inr (6, [.int (nI pl), o 1, o 2, o 3, o 4, o 5, o 6, o 7, o 8]))] H := hP
  have hD : va_D A [(b, .inr (6, [.int (nI pl), o 1, o 2, o 3, o 4, o 5, o 6, o 7, o 8]))] := hD
  refine lv_iload_n hx hb dX7_holds_5 rfl (lv_at hl 1 rfl) ?_
  refine ln_if_ne (tgt := 13) hx hb dX7_holds_6 (by decide) (by omega) (fun h1 => ?_) (fun h1 => ?_)
  · refine lv_iconst (v := (nI 0)) hx hb dX7_holds_13 (by decide) ?_
    exact ip_zret hx hb hr hlk dX7_holds_14 hS (show bI false = _ from congrArg bI (by rfl)) hP
  · exfalso; omega
set_option maxHeartbeats 4000000 in
set_option maxRecDepth 100000 in
theorem c7_thrown (l : Launch) (D : va_G) (tc : Nat → ClassId) (zb : Nat) (b : Nat) (th : Int32) (o : Nat → Value)  : RO l yX7_thrown wsX7_thrown 0 0 D tc zb [(b, .inr (6, [.int (th), o 1, o 2, o 3, o 4, o 5, o 6, o 7, o 8]))] [.ref b] (.int (th)) := by
  refine RO.of (cc := cX7_thrown) (maxL := 1) (ret := (some .int)) (by decide) rfl (Nat.le_of_ble_eq_true rfl) ?_
  intro p e s m args below meth c hx hb hr hml hlk hts hown hM hS hP ls hl
  have hl : lv_has ls 1 [(0, .ref b)] := hl
  have hinX7 : ∀ w ∈ u_ws RX7 TX7 9, w ∈ wsX7_thrown := by decide +kernel
  refine lv_aload_n hx hb dX7_thrown_0 rfl (lv_at hl 0 rfl) ?_
  refine va_get (D := D) (ci := 6) (v := .int (th)) (C := RX7) (T := TX7) (N := 9) hx hb hts hinX7 hown hM.1 hP 0 rfl rfl 0 (by decide) (hts (.fieldLink RX7 30 "TripleWaysModel" "thrown" "I") (by decide +kernel)) (fun _ h9 => h9) rfl dX7_thrown_1 ?_
  exact ro_iret hx hb hr hlk dX7_thrown_4 (by rfl)
