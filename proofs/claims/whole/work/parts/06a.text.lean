/-- the class's text -/
abbrev w_tx (tc : Nat → ClassId) (t0 t1 : Nat) (u : Nat → Nat) (ln : Nat) : va_W := [(t0, .inr (4, [.ref t1, .int (nI ln)])), (t1, .inl (tc 1, 100, .inl (fun k => nI (u k))))]
def k_d1 (c : Nat) : Option Nat := if 48 ≤ c ∧ c ≤ 57 then some (c - 48) else none
def k_c1 (c : Nat) : Option Nat := if c = 42 then some 10 else k_d1 c
theorem k_d1_lt {c r : Nat} (h : k_d1 c = some r) : 48 ≤ c ∧ c ≤ 57 ∧ r ≤ 9 := by
  unfold k_d1 at h; split at h
  · cases h; omega
  · cases h
theorem k_d1_no {c : Nat} (h : k_d1 c = none) : ¬ (48 ≤ c ∧ c ≤ 57) := by
  unfold k_d1 at h; split at h
  · cases h
  · assumption
theorem k_c1_lt {c r : Nat} (h : k_c1 c = some r) : (48 ≤ c ∧ c ≤ 57 ∨ c = 42) ∧ r ≤ 10 := by
  unfold k_c1 at h; split at h
  · cases h; omega
  · have := k_d1_lt h; omega
theorem k_c1_no {c : Nat} (h : k_c1 c = none) : ¬ (48 ≤ c ∧ c ≤ 57 ∨ c = 42) := by
  unfold k_c1 at h; split at h
  · cases h
  · have := k_d1_no h; omega
theorem k_fq_3 {u : Nat → Nat} {n : Nat} (h : k_fq0 u n = none) : n ≤ 3 := by
  by_cases q : n ≤ 3
  · exact q
  · have := (k_fq0_all h 3 (by omega)).1; omega
set_option maxHeartbeats 4000000 in
set_option maxRecDepth 100000 in
theorem c5_isFull (l : Launch) (D : va_G) (tc : Nat → ClassId) (zb : Nat) (t0 t1 : Nat) (u : Nat → Nat) (ln : Nat) (hln : ln ≤ 100) (hu : ∀ k, u k < 256) : RO l yX5_isFull wsX5_isFull 0 0 D tc zb (w_tx tc t0 t1 u ln) [.ref t0] (.int (bI (decide (100 ≤ ln)))) := by
  refine RO.of (cc := cX5_isFull) (maxL := 1) (ret := (some .boolean)) (by decide) rfl (Nat.le_of_ble_eq_true rfl) ?_
  intro p e s m args below meth c hx hb hr hml hlk hts hown hM hS hP ls hl
  have hl : lv_has ls 1 [(0, .ref t0)] := hl
  have hinX5 : ∀ w ∈ u_ws RX5 TX5 2, w ∈ wsX5_isFull := by decide +kernel
  refine lv_aload_n hx hb dX5_isFull_0 rfl (lv_at hl 0 rfl) ?_
  refine va_get (D := D) (ci := 4) (v := .int (nI ln)) (C := RX5) (T := TX5) (N := 2) hx hb hts hinX5 hown hM.1 hP 0 rfl rfl 1 (by decide) (hts (.fieldLink RX5 15 "TripleWays$Text" "length" "I") (by decide +kernel)) (fun _ h9 => h9) rfl dX5_isFull_1 ?_
  refine lv_aload_n hx hb dX5_isFull_4 rfl (lv_at hl 0 rfl) ?_
  refine va_get (D := D) (ci := 4) (v := .ref t1) (C := RX5) (T := TX5) (N := 2) hx hb hts hinX5 hown hM.1 hP 0 rfl rfl 0 (by decide) (hts (.fieldLink RX5 9 "TripleWays$Text" "signs" "[C") (by decide +kernel)) (fun _ h9 => h9) rfl dX5_isFull_5 ?_
  refine va_alen hx hb hM.1 hP 1 1 rfl rfl (v := nI 100) rfl dX5_isFull_8 ?_
  refine ln_icmp_lt (tgt := 16) hx hb dX5_isFull_9 (by decide) (by omega) (by decide) (fun h1 => ?_) (fun h1 => ?_)
  · refine lv_iconst (v := (nI 0)) hx hb dX5_isFull_16 (by decide) ?_
    exact ro_zret hx hb hr hlk dX5_isFull_17 (show bI false = _ from congrArg bI (by simp [*] <;> omega))
  · refine lv_iconst (v := (nI 1)) hx hb dX5_isFull_12 (by decide) ?_
    refine lv_goto (tgt := 17) hx hb dX5_isFull_13 (by decide) ?_
    exact ro_zret hx hb hr hlk dX5_isFull_17 (show bI true = _ from congrArg bI (by simp [*] <;> omega))
set_option maxHeartbeats 4000000 in
set_option maxRecDepth 100000 in
theorem c5_signAt (l : Launch) (D : va_G) (tc : Nat → ClassId) (zb : Nat) (t0 t1 : Nat) (u : Nat → Nat) (ln : Nat) (i : Nat) (hln : ln ≤ 100) (hu : ∀ k, u k < 256) (hi9 : i < ln) : RO l yX5_signAt wsX5_signAt 0 0 D tc zb (w_tx tc t0 t1 u ln) [.ref t0, .int (nI i)] (.int (nI (u i))) := by
  refine RO.of (cc := cX5_signAt) (maxL := 2) (ret := (some .int)) (by decide) rfl (Nat.le_of_ble_eq_true rfl) ?_
  intro p e s m args below meth c hx hb hr hml hlk hts hown hM hS hP ls hl
  have hl : lv_has ls 2 [(0, .ref t0), (1, .int (nI i))] := hl
  have hinX5 : ∀ w ∈ u_ws RX5 TX5 2, w ∈ wsX5_signAt := by decide +kernel
  have hu9 := hu i
  refine lv_iload_n hx hb dX5_signAt_0 rfl (lv_at hl 1 rfl) ?_
  refine ln_if_lt (tgt := 30) hx hb dX5_signAt_1 (by decide) (by omega) ?_
  refine lv_iload_n hx hb dX5_signAt_4 rfl (lv_at hl 1 rfl) ?_
  refine lv_aload_n hx hb dX5_signAt_5 rfl (lv_at hl 0 rfl) ?_
  refine va_get (D := D) (ci := 4) (v := .int (nI ln)) (C := RX5) (T := TX5) (N := 2) hx hb hts hinX5 hown hM.1 hP 0 rfl rfl 1 (by decide) (hts (.fieldLink RX5 15 "TripleWays$Text" "length" "I") (by decide +kernel)) (fun _ h9 => h9) rfl dX5_signAt_6 ?_
  refine ln_icmp_ge (tgt := 30) hx hb dX5_signAt_9 (by decide) (by omega) (by omega) (fun h1 => ?_) (fun h1 => ?_)
  · exfalso; omega
  · refine lv_iload_n hx hb dX5_signAt_12 rfl (lv_at hl 1 rfl) ?_
    refine lv_aload_n hx hb dX5_signAt_13 rfl (lv_at hl 0 rfl) ?_
    refine va_get (D := D) (ci := 4) (v := .ref t1) (C := RX5) (T := TX5) (N := 2) hx hb hts hinX5 hown hM.1 hP 0 rfl rfl 0 (by decide) (hts (.fieldLink RX5 9 "TripleWays$Text" "signs" "[C") (by decide +kernel)) (fun _ h9 => h9) rfl dX5_signAt_14 ?_
    refine va_alen hx hb hM.1 hP 1 1 rfl rfl (v := nI 100) rfl dX5_signAt_17 ?_
    refine ln_icmp_ge (tgt := 30) hx hb dX5_signAt_18 (by decide) (by omega) (by decide) (fun h2 => ?_) (fun h2 => ?_)
    · exfalso; omega
    · refine lv_aload_n hx hb dX5_signAt_21 rfl (lv_at hl 0 rfl) ?_
      refine va_get (D := D) (ci := 4) (v := .ref t1) (C := RX5) (T := TX5) (N := 2) hx hb hts hinX5 hown hM.1 hP 0 rfl rfl 0 (by decide) (hts (.fieldLink RX5 9 "TripleWays$Text" "signs" "[C") (by decide +kernel)) (fun _ h9 => h9) rfl dX5_signAt_22 ?_
      refine lv_iload_n hx hb dX5_signAt_25 rfl (lv_at hl 1 rfl) ?_
      refine ln_cald hx hb hM.1 hP 1 1 rfl rfl dX5_signAt_26 (by decide) (by omega) (rfl) ?_
      refine lv_goto (tgt := 31) hx hb dX5_signAt_27 (by decide) ?_
      exact ro_iret hx hb hr hlk dX5_signAt_31 (rfl)
set_option maxHeartbeats 4000000 in
set_option maxRecDepth 100000 in
theorem c5_digitAt (l : Launch) (D : va_G) (tc : Nat → ClassId) (zb : Nat) (t0 t1 : Nat) (u : Nat → Nat) (ln : Nat) (i : Nat) (hln : ln ≤ 100) (hu : ∀ k, u k < 256) (hi9 : i < ln) : RO l yX5_digitAt wsX5_digitAt 1 21 D tc zb (w_tx tc t0 t1 u ln) [.ref t0, .int (nI i)] (.int (oI (k_d1 (u i)))) := by
  refine RO.of (cc := cX5_digitAt) (maxL := 3) (ret := (some .int)) (by decide) rfl (Nat.le_of_ble_eq_true rfl) ?_
  intro p e s m args below meth c hx hb hr hml hlk hts hown hM hS hP ls hl
  have hl : lv_has ls 3 [(0, .ref t0), (1, .int (nI i))] := hl
  have hu9 := hu i
  refine lv_aload_n hx hb dX5_digitAt_0 rfl (lv_at hl 0 rfl) ?_
  refine lv_iload_n hx hb dX5_digitAt_1 rfl (lv_at hl 1 rfl) ?_
  refine ro_V (C := RX5) (n := 1) ⟨hx, hb, hml, hown, hts⟩ hM hS hP (c5_signAt l D tc zb t0 t1 u ln i (by first | assumption | omega) (by assumption) (by omega)) gX5_digitAt_X5_signAt rfl (by decide +kernel) ⟨Nat.le_of_ble_eq_true rfl, Nat.le_of_ble_eq_true rfl⟩ [0, 1] rfl (va_recv hM.1 hP (ci := 4) (q0 := 0) rfl rfl) rfl hl.1 rfl (Nat.le_of_ble_eq_true rfl) dX5_digitAt_2 ⟨Nat.le_refl _, Nat.le_refl _⟩ ?_
  have hf1 := hu i
  refine lv_istore_n (lv' := [(2, .int (nI (u i))), (0, .ref t0), (1, .int (nI i))]) hx hb dX5_digitAt_5 rfl hl (by decide) rfl (fun ls hl => ?_)
  refine lv_iload_n hx hb dX5_digitAt_6 rfl (lv_at hl 0 rfl) ?_
  refine lv_bipush (v := (nI 48)) hx hb dX5_digitAt_7 (by decide) ?_
  refine ln_icmp_lt (tgt := 25) hx hb dX5_digitAt_9 (by decide) (by omega) (by decide) (fun h2 => ?_) (fun h2 => ?_)
  · refine lv_iconst (v := (-1)) hx hb dX5_digitAt_25 (by decide) ?_
    exact ro_iret hx hb hr hlk dX5_digitAt_26 (show oI none = _ from congrArg oI (by first | exact (if_pos ⟨by omega, by omega⟩).symm | exact (if_neg (by omega)).symm))
  · refine lv_iload_n hx hb dX5_digitAt_12 rfl (lv_at hl 0 rfl) ?_
    refine lv_bipush (v := (nI 57)) hx hb dX5_digitAt_13 (by decide) ?_
    refine ln_icmp_gt (tgt := 25) hx hb dX5_digitAt_15 (by decide) (by omega) (by decide) (fun h3 => ?_) (fun h3 => ?_)
    · refine lv_iconst (v := (-1)) hx hb dX5_digitAt_25 (by decide) ?_
      exact ro_iret hx hb hr hlk dX5_digitAt_26 (show oI none = _ from congrArg oI (by first | exact (if_pos ⟨by omega, by omega⟩).symm | exact (if_neg (by omega)).symm))
    · refine lv_iload_n hx hb dX5_digitAt_18 rfl (lv_at hl 0 rfl) ?_
      refine lv_bipush (v := (nI 48)) hx hb dX5_digitAt_19 (by decide) ?_
      refine ln_isub hx hb dX5_digitAt_21 (by omega) ?_
      refine lv_goto (tgt := 26) hx hb dX5_digitAt_22 (by decide) ?_
      exact ro_iret hx hb hr hlk dX5_digitAt_26 (show oI (some ((u i) - 48)) = _ from congrArg oI (by first | exact (if_pos ⟨by omega, by omega⟩).symm | exact (if_neg (by omega)).symm))
set_option maxHeartbeats 4000000 in
set_option maxRecDepth 100000 in
theorem c5_digitAtN (l : Launch) (D : va_G) (tc : Nat → ClassId) (zb : Nat) (t0 t1 : Nat) (u : Nat → Nat) (ln : Nat) (i : Nat) (hln : ln ≤ 100) (hu : ∀ k, u k < 256) (hi9 : i < ln) (hd9 : 48 ≤ u i ∧ u i ≤ 57) : RO l yX5_digitAt wsX5_digitAt 1 21 D tc zb (w_tx tc t0 t1 u ln) [.ref t0, .int (nI i)] (.int (nI (u i - 48))) := by
  refine RO.of (cc := cX5_digitAt) (maxL := 3) (ret := (some .int)) (by decide) rfl (Nat.le_of_ble_eq_true rfl) ?_
  intro p e s m args below meth c hx hb hr hml hlk hts hown hM hS hP ls hl
  have hl : lv_has ls 3 [(0, .ref t0), (1, .int (nI i))] := hl
  have hu9 := hu i
  refine lv_aload_n hx hb dX5_digitAt_0 rfl (lv_at hl 0 rfl) ?_
  refine lv_iload_n hx hb dX5_digitAt_1 rfl (lv_at hl 1 rfl) ?_
  refine ro_V (C := RX5) (n := 1) ⟨hx, hb, hml, hown, hts⟩ hM hS hP (c5_signAt l D tc zb t0 t1 u ln i (by first | assumption | omega) (by assumption) (by omega)) gX5_digitAt_X5_signAt rfl (by decide +kernel) ⟨Nat.le_of_ble_eq_true rfl, Nat.le_of_ble_eq_true rfl⟩ [0, 1] rfl (va_recv hM.1 hP (ci := 4) (q0 := 0) rfl rfl) rfl hl.1 rfl (Nat.le_of_ble_eq_true rfl) dX5_digitAt_2 ⟨Nat.le_refl _, Nat.le_refl _⟩ ?_
  have hf1 := hu i
  refine lv_istore_n (lv' := [(2, .int (nI (u i))), (0, .ref t0), (1, .int (nI i))]) hx hb dX5_digitAt_5 rfl hl (by decide) rfl (fun ls hl => ?_)
  refine lv_iload_n hx hb dX5_digitAt_6 rfl (lv_at hl 0 rfl) ?_
  refine lv_bipush (v := (nI 48)) hx hb dX5_digitAt_7 (by decide) ?_
  refine ln_icmp_lt (tgt := 25) hx hb dX5_digitAt_9 (by decide) (by omega) (by decide) (fun h2 => ?_) (fun h2 => ?_)
  · exfalso; omega
  · refine lv_iload_n hx hb dX5_digitAt_12 rfl (lv_at hl 0 rfl) ?_
    refine lv_bipush (v := (nI 57)) hx hb dX5_digitAt_13 (by decide) ?_
    refine ln_icmp_gt (tgt := 25) hx hb dX5_digitAt_15 (by decide) (by omega) (by decide) (fun h3 => ?_) (fun h3 => ?_)
    · exfalso; omega
    · refine lv_iload_n hx hb dX5_digitAt_18 rfl (lv_at hl 0 rfl) ?_
      refine lv_bipush (v := (nI 48)) hx hb dX5_digitAt_19 (by decide) ?_
      refine ln_isub hx hb dX5_digitAt_21 (by omega) ?_
      refine lv_goto (tgt := 26) hx hb dX5_digitAt_22 (by decide) ?_
      exact ro_iret hx hb hr hlk dX5_digitAt_26 (congrArg nI (by omega))
set_option maxHeartbeats 4000000 in
set_option maxRecDepth 100000 in
theorem c5_choiceAt (l : Launch) (D : va_G) (tc : Nat → ClassId) (zb : Nat) (t0 t1 : Nat) (u : Nat → Nat) (ln : Nat) (i : Nat) (hln : ln ≤ 100) (hu : ∀ k, u k < 256) (hi9 : i < ln) : RO l yX5_choiceAt wsX5_choiceAt 2 43 D tc zb (w_tx tc t0 t1 u ln) [.ref t0, .int (nI i)] (.int (oI (k_c1 (u i)))) := by
  refine RO.of (cc := cX5_choiceAt) (maxL := 2) (ret := (some .int)) (by decide) rfl (Nat.le_of_ble_eq_true rfl) ?_
  intro p e s m args below meth c hx hb hr hml hlk hts hown hM hS hP ls hl
  have hl : lv_has ls 2 [(0, .ref t0), (1, .int (nI i))] := hl
  have hu9 := hu i
  refine lv_aload_n hx hb dX5_choiceAt_0 rfl (lv_at hl 0 rfl) ?_
  refine lv_iload_n hx hb dX5_choiceAt_1 rfl (lv_at hl 1 rfl) ?_
  refine ro_V (C := RX5) (n := 1) ⟨hx, hb, hml, hown, hts⟩ hM hS hP (c5_signAt l D tc zb t0 t1 u ln i (by first | assumption | omega) (by assumption) (by omega)) gX5_choiceAt_X5_signAt rfl (by decide +kernel) ⟨Nat.le_of_ble_eq_true rfl, Nat.le_of_ble_eq_true rfl⟩ [0, 1] rfl (va_recv hM.1 hP (ci := 4) (q0 := 0) rfl rfl) rfl hl.1 rfl (Nat.le_of_ble_eq_true rfl) dX5_choiceAt_2 ⟨Nat.le_refl _, Nat.le_refl _⟩ ?_
  have hf1 := hu i
  refine lv_bipush (v := (nI 42)) hx hb dX5_choiceAt_5 (by decide) ?_
  refine ln_icmp_ne (tgt := 15) hx hb dX5_choiceAt_7 (by decide) (by omega) (by decide) (fun h2 => ?_) (fun h2 => ?_)
  · refine lv_aload_n hx hb dX5_choiceAt_15 rfl (lv_at hl 0 rfl) ?_
    refine lv_iload_n hx hb dX5_choiceAt_16 rfl (lv_at hl 1 rfl) ?_
    refine ro_V (C := RX5) (n := 1) ⟨hx, hb, hml, hown, hts⟩ hM hS hP (c5_digitAt l D tc zb t0 t1 u ln i (by first | assumption | omega) (by assumption) (by omega)) gX5_choiceAt_X5_digitAt rfl (by decide +kernel) ⟨Nat.le_of_ble_eq_true rfl, Nat.le_of_ble_eq_true rfl⟩ [0, 1] rfl (va_recv hM.1 hP (ci := 4) (q0 := 0) rfl rfl) rfl hl.1 rfl (Nat.le_of_ble_eq_true rfl) dX5_choiceAt_17 ⟨Nat.le_refl _, Nat.le_refl _⟩ ?_
    exact ro_iret hx hb hr hlk dX5_choiceAt_20 (congrArg oI (by first | exact (if_pos (by assumption)).symm | exact (if_neg (by assumption)).symm))
  · refine lv_bipush (v := (nI 10)) hx hb dX5_choiceAt_10 (by decide) ?_
    refine lv_goto (tgt := 20) hx hb dX5_choiceAt_12 (by decide) ?_
    exact ro_iret hx hb hr hlk dX5_choiceAt_20 (show oI (some 10) = _ from congrArg oI (by first | exact (if_pos (by assumption)).symm | exact (if_neg (by assumption)).symm))
set_option maxHeartbeats 4000000 in
set_option maxRecDepth 100000 in
theorem c5_choiceAtN (l : Launch) (D : va_G) (tc : Nat → ClassId) (zb : Nat) (t0 t1 : Nat) (u : Nat → Nat) (ln : Nat) (i : Nat) (hln : ln ≤ 100) (hu : ∀ k, u k < 256) (hi9 : i < ln) (hd9 : 48 ≤ u i ∧ u i ≤ 57 ∨ u i = 42) : RO l yX5_choiceAt wsX5_choiceAt 2 43 D tc zb (w_tx tc t0 t1 u ln) [.ref t0, .int (nI i)] (.int (nI (k_ch (u i)))) := by
  refine RO.of (cc := cX5_choiceAt) (maxL := 2) (ret := (some .int)) (by decide) rfl (Nat.le_of_ble_eq_true rfl) ?_
  intro p e s m args below meth c hx hb hr hml hlk hts hown hM hS hP ls hl
  have hl : lv_has ls 2 [(0, .ref t0), (1, .int (nI i))] := hl
  have hu9 := hu i
  refine lv_aload_n hx hb dX5_choiceAt_0 rfl (lv_at hl 0 rfl) ?_
  refine lv_iload_n hx hb dX5_choiceAt_1 rfl (lv_at hl 1 rfl) ?_
  refine ro_V (C := RX5) (n := 1) ⟨hx, hb, hml, hown, hts⟩ hM hS hP (c5_signAt l D tc zb t0 t1 u ln i (by first | assumption | omega) (by assumption) (by omega)) gX5_choiceAt_X5_signAt rfl (by decide +kernel) ⟨Nat.le_of_ble_eq_true rfl, Nat.le_of_ble_eq_true rfl⟩ [0, 1] rfl (va_recv hM.1 hP (ci := 4) (q0 := 0) rfl rfl) rfl hl.1 rfl (Nat.le_of_ble_eq_true rfl) dX5_choiceAt_2 ⟨Nat.le_refl _, Nat.le_refl _⟩ ?_
  have hf1 := hu i
  refine lv_bipush (v := (nI 42)) hx hb dX5_choiceAt_5 (by decide) ?_
  refine ln_icmp_ne (tgt := 15) hx hb dX5_choiceAt_7 (by decide) (by omega) (by decide) (fun h2 => ?_) (fun h2 => ?_)
  · refine lv_aload_n hx hb dX5_choiceAt_15 rfl (lv_at hl 0 rfl) ?_
    refine lv_iload_n hx hb dX5_choiceAt_16 rfl (lv_at hl 1 rfl) ?_
    refine ro_V (C := RX5) (n := 1) ⟨hx, hb, hml, hown, hts⟩ hM hS hP (c5_digitAtN l D tc zb t0 t1 u ln i (by first | assumption | omega) (by assumption) (by omega) (by omega)) gX5_choiceAt_X5_digitAt rfl (by decide +kernel) ⟨Nat.le_of_ble_eq_true rfl, Nat.le_of_ble_eq_true rfl⟩ [0, 1] rfl (va_recv hM.1 hP (ci := 4) (q0 := 0) rfl rfl) rfl hl.1 rfl (Nat.le_of_ble_eq_true rfl) dX5_choiceAt_17 ⟨Nat.le_refl _, Nat.le_refl _⟩ ?_
    exact ro_iret hx hb hr hlk dX5_choiceAt_20 (congrArg nI (by first | exact (if_pos (by assumption)).symm | exact (if_neg (by assumption)).symm))
  · refine lv_bipush (v := (nI 10)) hx hb dX5_choiceAt_10 (by decide) ?_
    refine lv_goto (tgt := 20) hx hb dX5_choiceAt_12 (by decide) ?_
    exact ro_iret hx hb hr hlk dX5_choiceAt_20 (congrArg nI (by first | exact (if_pos (by assumption)).symm | exact (if_neg (by assumption)).symm))
set_option maxHeartbeats 4000000 in
set_option maxRecDepth 100000 in
theorem c5_put (l : Launch) (D : va_G) (tc : Nat → ClassId) (zb : Nat) (t0 t1 : Nat) (u : Nat → Nat) (ln : Nat) (c9 : Nat) (hln : ln ≤ 100) (hu : ∀ k, u k < 256) (hc9 : c9 ≤ 255) (hl9 : ln < 100) : IP l yX5_put wsX5_put 0 0 D tc zb (w_tx tc t0 t1 u ln) (w_tx tc t0 t1 ((k_up u ln c9)) (ln + 1)) [.ref t0, .int (nI c9)] (some (.int (nI (ln + 1)))) := by
  refine IP.of (cc := cX5_put) (maxL := 2) (ret := (some .int)) (by decide) rfl (Nat.le_of_ble_eq_true rfl) ?_
  intro p e s m args below meth c A hx hb hr hml hlk hts hown hM hS hP hD ls hl
  have hl : lv_has ls 2 [(0, .ref t0), (1, .int (nI c9))] := hl
  have hinX5 : ∀ w ∈ u_ws RX5 TX5 2, w ∈ wsX5_put := by decide +kernel
  refine lv_aload_n hx hb dX5_put_0 rfl (lv_at hl 0 rfl) ?_
  refine va_get (D := D) (ci := 4) (v := .int (nI ln)) (C := RX5) (T := TX5) (N := 2) hx hb hts hinX5 hown hM.1 hP 0 rfl rfl 1 (by decide) (hts (.fieldLink RX5 15 "TripleWays$Text" "length" "I") (by decide +kernel)) (fun _ h9 => h9) rfl dX5_put_1 ?_
  refine ln_if_lt (tgt := 40) hx hb dX5_put_4 (by decide) (by omega) ?_
  refine lv_aload_n hx hb dX5_put_7 rfl (lv_at hl 0 rfl) ?_
  refine va_get (D := D) (ci := 4) (v := .int (nI ln)) (C := RX5) (T := TX5) (N := 2) hx hb hts hinX5 hown hM.1 hP 0 rfl rfl 1 (by decide) (hts (.fieldLink RX5 15 "TripleWays$Text" "length" "I") (by decide +kernel)) (fun _ h9 => h9) rfl dX5_put_8 ?_
  refine lv_aload_n hx hb dX5_put_11 rfl (lv_at hl 0 rfl) ?_
  refine va_get (D := D) (ci := 4) (v := .ref t1) (C := RX5) (T := TX5) (N := 2) hx hb hts hinX5 hown hM.1 hP 0 rfl rfl 0 (by decide) (hts (.fieldLink RX5 9 "TripleWays$Text" "signs" "[C") (by decide +kernel)) (fun _ h9 => h9) rfl dX5_put_12 ?_
  refine va_alen hx hb hM.1 hP 1 1 rfl rfl (v := nI 100) rfl dX5_put_15 ?_
  refine ln_icmp_ge (tgt := 40) hx hb dX5_put_16 (by decide) (by omega) (by decide) (fun h1 => ?_) (fun h1 => ?_)
  · exfalso; omega
  · refine lv_aload_n hx hb dX5_put_19 rfl (lv_at hl 0 rfl) ?_
    refine va_get (D := D) (ci := 4) (v := .ref t1) (C := RX5) (T := TX5) (N := 2) hx hb hts hinX5 hown hM.1 hP 0 rfl rfl 0 (by decide) (hts (.fieldLink RX5 9 "TripleWays$Text" "signs" "[C") (by decide +kernel)) (fun _ h9 => h9) rfl dX5_put_20 ?_
    refine lv_aload_n hx hb dX5_put_23 rfl (lv_at hl 0 rfl) ?_
    refine va_get (D := D) (ci := 4) (v := .int (nI ln)) (C := RX5) (T := TX5) (N := 2) hx hb hts hinX5 hown hM.1 hP 0 rfl rfl 1 (by decide) (hts (.fieldLink RX5 15 "TripleWays$Text" "length" "I") (by decide +kernel)) (fun _ h9 => h9) rfl dX5_put_24 ?_
    refine lv_iload_n hx hb dX5_put_27 rfl (lv_at hl 1 rfl) ?_
    refine lv_i2c (v := nI c9) hx hb dX5_put_28 (k_i2c (by omega)) ?_
    refine ln_castU hx hb hM.1 hP hD hS 1 1 rfl rfl dX5_put_29 (by decide) (by omega) (by omega) (fun H locs hP hD hS => ?_)
    have hP : va_P D vwCl [(t0, .inr (4, [.ref t1, .int (nI ln)])), (t1, .inl (tc 1, 100, .inl ((fun k => nI (k_up u ln c9 k)))))] H := hP
    have hD : va_D A [(t0, .inr (4, [.ref t1, .int (nI ln)])), (t1, .inl (tc 1, 100, .inl ((fun k => nI (k_up u ln c9 k)))))] := hD
    refine lv_aload_n hx hb dX5_put_30 rfl (lv_at hl 0 rfl) ?_
    refine lv_dup hx hb dX5_put_31 rfl ?_
    refine va_get (D := D) (ci := 4) (v := .int (nI ln)) (C := RX5) (T := TX5) (N := 2) hx hb hts hinX5 hown hM.1 hP 0 rfl rfl 1 (by decide) (hts (.fieldLink RX5 15 "TripleWays$Text" "length" "I") (by decide +kernel)) (fun _ h9 => h9) rfl dX5_put_32 ?_
    refine lv_iconst (v := (nI 1)) hx hb dX5_put_35 (by decide) ?_
    refine ln_iadd hx hb dX5_put_36 ?_
    refine va_put (D := D) (ci := 4) (v := .int (nI (ln + 1))) (ty := .int) (C := RX5) (T := TX5) (N := 2) hx hb hts hinX5 tyX5 tyX5_ok nmX5 hown hM.1 hP hD hS 0 rfl rfl 1 (by decide) (hts (.fieldLink RX5 15 "TripleWays$Text" "length" "I") (by decide +kernel)) (fun _ h9 => h9) rfl (by decide +kernel) rfl rfl (Nat.le_of_ble_eq_true rfl) dX5_put_37 (fun H locs hP hD hS => ?_)
    have hP : va_P D vwCl [(t0, .inr (4, [.ref t1, .int (nI (ln + 1))])), (t1, .inl (tc 1, 100, .inl ((fun k => nI (k_up u ln c9 k)))))] H := hP
    have hD : va_D A [(t0, .inr (4, [.ref t1, .int (nI (ln + 1))])), (t1, .inl (tc 1, 100, .inl ((fun k => nI (k_up u ln c9 k)))))] := hD
    refine lv_aload_n hx hb dX5_put_40 rfl (lv_at hl 0 rfl) ?_
    refine va_get (D := D) (ci := 4) (v := .int (nI (ln + 1))) (C := RX5) (T := TX5) (N := 2) hx hb hts hinX5 hown hM.1 hP 0 rfl rfl 1 (by decide) (hts (.fieldLink RX5 15 "TripleWays$Text" "length" "I") (by decide +kernel)) (fun _ h9 => h9) rfl dX5_put_41 ?_
    exact ip_iret hx hb hr hlk dX5_put_44 hS (rfl) hP
set_option maxHeartbeats 4000000 in
set_option maxRecDepth 100000 in
theorem c5_empty (l : Launch) (D : va_G) (tc : Nat → ClassId) (zb : Nat) (t0 t1 : Nat) (u : Nat → Nat) (ln : Nat) (hln : ln ≤ 100) (hu : ∀ k, u k < 256) : IP l yX5_empty wsX5_empty 0 0 D tc zb (w_tx tc t0 t1 u ln) (w_tx tc t0 t1 u 0) [.ref t0] (some (.int (nI ln))) := by
  refine IP.of (cc := cX5_empty) (maxL := 2) (ret := (some .int)) (by decide) rfl (Nat.le_of_ble_eq_true rfl) ?_
  intro p e s m args below meth c A hx hb hr hml hlk hts hown hM hS hP hD ls hl
  have hl : lv_has ls 2 [(0, .ref t0)] := hl
  have hinX5 : ∀ w ∈ u_ws RX5 TX5 2, w ∈ wsX5_empty := by decide +kernel
  refine lv_aload_n hx hb dX5_empty_0 rfl (lv_at hl 0 rfl) ?_
  refine va_get (D := D) (ci := 4) (v := .int (nI ln)) (C := RX5) (T := TX5) (N := 2) hx hb hts hinX5 hown hM.1 hP 0 rfl rfl 1 (by decide) (hts (.fieldLink RX5 15 "TripleWays$Text" "length" "I") (by decide +kernel)) (fun _ h9 => h9) rfl dX5_empty_1 ?_
  refine lv_istore_n (lv' := [(1, .int (nI ln)), (0, .ref t0)]) hx hb dX5_empty_4 rfl hl (by decide) rfl (fun ls hl => ?_)
  refine lv_aload_n hx hb dX5_empty_5 rfl (lv_at hl 1 rfl) ?_
  refine lv_iconst (v := (nI 0)) hx hb dX5_empty_6 (by decide) ?_
  refine va_put (D := D) (ci := 4) (v := .int (nI 0)) (ty := .int) (C := RX5) (T := TX5) (N := 2) hx hb hts hinX5 tyX5 tyX5_ok nmX5 hown hM.1 hP hD hS 0 rfl rfl 1 (by decide) (hts (.fieldLink RX5 15 "TripleWays$Text" "length" "I") (by decide +kernel)) (fun _ h9 => h9) rfl (by decide +kernel) rfl rfl (Nat.le_of_ble_eq_true rfl) dX5_empty_7 (fun H locs hP hD hS => ?_)
  have hP : va_P D vwCl [(t0, .inr (4, [.ref t1, .int (nI 0)])), (t1, .inl (tc 1, 100, .inl ((fun k => nI (u k)))))] H := hP
  have hD : va_D A [(t0, .inr (4, [.ref t1, .int (nI 0)])), (t1, .inl (tc 1, 100, .inl ((fun k => nI (u k)))))] := hD
  refine lv_iload_n hx hb dX5_empty_10 rfl (lv_at hl 0 rfl) ?_
  exact ip_iret hx hb hr hlk dX5_empty_11 hS (rfl) hP
set_option maxHeartbeats 4000000 in
set_option maxRecDepth 100000 in
theorem c5_questionError (l : Launch) (D : va_G) (tc : Nat → ClassId) (zb : Nat) (t0 t1 : Nat) (u : Nat → Nat) (ln : Nat) (hln : ln ≤ 100) (hu : ∀ k, u k < 256) : RO l yX5_questionError wsX5_questionError 3 64 D tc zb (w_tx tc t0 t1 u ln) [.ref t0] (.int (oI (k_fq u ln))) := by
  refine RO.of (cc := cX5_questionError) (maxL := 2) (ret := (some .int)) (by decide) rfl (Nat.le_of_ble_eq_true rfl) ?_
  intro p e s m args below meth c hx hb hr hml hlk hts hown hM hS hP ls hl
  have hl : lv_has ls 2 [(0, .ref t0)] := hl
  have hinX5 : ∀ w ∈ u_ws RX5 TX5 2, w ∈ wsX5_questionError := by decide +kernel
  refine lv_iconst (v := (nI 0)) hx hb dX5_questionError_0 (by decide) ?_
  refine lv_istore_n (lv' := [(1, .int (nI 0)), (0, .ref t0)]) hx hb dX5_questionError_1 rfl hl (by decide) rfl (fun ls hl => ?_)
  have lp2 : ∀ (n9 : Nat) (i : Nat), (ln - i) < n9 → (i ≤ ln) → (k_fq0 u i = none) → ∀ ls : Array Slot, lv_has ls 2 [(1, .int (nI i)), (0, .ref t0)] → W p l e ({ frames := 3, cells := 0, slots := 0, locals := 64 } : Room) s m args below meth c s.heap [] 0 0 (MQ below (roQ (.int (oI (k_fq u ln)))) args s 0 0 (fun _ => False)) (F0 m 2 ls []) := by
    intro n9
    induction n9 with
    | zero => intro i hmu; exact absurd hmu (Nat.not_lt_zero _)
    | succ n9 ih2 =>
      intro i hmu hi hv ls hl
      have hu9 := hu i
      refine lv_iload_n hx hb dX5_questionError_2 rfl (lv_at hl 0 rfl) ?_
      refine lv_aload_n hx hb dX5_questionError_3 rfl (lv_at hl 1 rfl) ?_
      refine va_get (D := D) (ci := 4) (v := .int (nI ln)) (C := RX5) (T := TX5) (N := 2) hx hb hts hinX5 hown hM.1 hP 0 rfl rfl 1 (by decide) (hts (.fieldLink RX5 15 "TripleWays$Text" "length" "I") (by decide +kernel)) (fun _ h9 => h9) rfl dX5_questionError_4 ?_
      refine ln_icmp_ge (tgt := 32) hx hb dX5_questionError_7 (by decide) (by omega) (by omega) (fun h1 => ?_) (fun h1 => ?_)
      · refine lv_aload_n hx hb dX5_questionError_32 rfl (lv_at hl 1 rfl) ?_
        refine va_get (D := D) (ci := 4) (v := .int (nI ln)) (C := RX5) (T := TX5) (N := 2) hx hb hts hinX5 hown hM.1 hP 0 rfl rfl 1 (by decide) (hts (.fieldLink RX5 15 "TripleWays$Text" "length" "I") (by decide +kernel)) (fun _ h9 => h9) rfl dX5_questionError_33 ?_
        refine lv_iconst (v := (nI 3)) hx hb dX5_questionError_36 (by decide) ?_
        refine ln_icmp_ge (tgt := 47) hx hb dX5_questionError_37 (by decide) (by omega) (by decide) (fun h2 => ?_) (fun h2 => ?_)
        · refine lv_iconst (v := (-1)) hx hb dX5_questionError_47 (by decide) ?_
          exact ro_iret hx hb hr hlk dX5_questionError_48 (show oI none = _ from congrArg oI (by (have ei : i = ln := by omega); (have h7 := k_fq_3 hv); rw [k_fq_end (show k_fq0 u ln = none by rw [← ei]; exact hv)]; first | exact (if_pos (by omega)).symm | exact (if_neg (by omega)).symm))
        · refine lv_aload_n hx hb dX5_questionError_40 rfl (lv_at hl 1 rfl) ?_
          refine va_get (D := D) (ci := 4) (v := .int (nI ln)) (C := RX5) (T := TX5) (N := 2) hx hb hts hinX5 hown hM.1 hP 0 rfl rfl 1 (by decide) (hts (.fieldLink RX5 15 "TripleWays$Text" "length" "I") (by decide +kernel)) (fun _ h9 => h9) rfl dX5_questionError_41 ?_
          refine lv_goto (tgt := 48) hx hb dX5_questionError_44 (by decide) ?_
          exact ro_iret hx hb hr hlk dX5_questionError_48 (show oI (some ln) = _ from congrArg oI (by (have ei : i = ln := by omega); (have h7 := k_fq_3 hv); rw [k_fq_end (show k_fq0 u ln = none by rw [← ei]; exact hv)]; first | exact (if_pos (by omega)).symm | exact (if_neg (by omega)).symm))
      · refine lv_iload_n hx hb dX5_questionError_10 rfl (lv_at hl 0 rfl) ?_
        refine lv_iconst (v := (nI 3)) hx hb dX5_questionError_11 (by decide) ?_
        refine ln_icmp_ge (tgt := 24) hx hb dX5_questionError_12 (by decide) (by omega) (by decide) (fun h3 => ?_) (fun h3 => ?_)
        · refine lv_iload_n hx hb dX5_questionError_24 rfl (lv_at hl 0 rfl) ?_
          exact ro_iret hx hb hr hlk dX5_questionError_25 (show oI (some i) = _ from congrArg oI (by exact (k_fq_hit hv (by omega) (fun h9 => by first | omega | (have h8 := k_c1_no (by assumption); omega))).symm))
        · refine lv_aload_n hx hb dX5_questionError_15 rfl (lv_at hl 1 rfl) ?_
          refine lv_iload_n hx hb dX5_questionError_16 rfl (lv_at hl 0 rfl) ?_
          refine ro_V (C := RX5) (n := 1) ⟨hx, hb, hml, hown, hts⟩ hM hS hP (c5_choiceAt l D tc zb t0 t1 u ln i (by first | assumption | omega) (by assumption) (by omega)) gX5_questionError_X5_choiceAt rfl (by decide +kernel) ⟨Nat.le_of_ble_eq_true rfl, Nat.le_of_ble_eq_true rfl⟩ [0, 1] rfl (va_recv hM.1 hP (ci := 4) (q0 := 0) rfl rfl) rfl hl.1 rfl (Nat.le_of_ble_eq_true rfl) dX5_questionError_17 ⟨Nat.le_refl _, Nat.le_refl _⟩ ?_
          cases ho17 : k_c1 (u i) with
          | none =>
            refine ln_eq (x' := -1) rfl ?_
            refine lv_iconst (v := (-1)) hx hb dX5_questionError_20 (by decide) ?_
            refine lv_icmp_ne (tgt := 26) hx hb dX5_questionError_21 (by decide) (fun h9 => False.elim (by revert h9; decide)) (fun _ => ?_)
            refine lv_iload_n hx hb dX5_questionError_24 rfl (lv_at hl 0 rfl) ?_
            exact ro_iret hx hb hr hlk dX5_questionError_25 (show oI (some i) = _ from congrArg oI (by exact (k_fq_hit hv (by omega) (fun h9 => by first | omega | (have h8 := k_c1_no (by assumption); omega))).symm))
          | some r17 =>
            refine ln_eq (x' := nI r17) rfl ?_
            have hr9 := k_c1_lt ho17
            refine lv_iconst (v := (-1)) hx hb dX5_questionError_20 (by decide) ?_
            refine ln_ne_m1 (tgt := 26) hx hb dX5_questionError_21 (by decide) (by omega) ?_
            refine lv_iinc (v := (nI (i + 1))) (lv' := [(1, .int (nI (i + 1))), (0, .ref t0)]) hx hb dX5_questionError_26 hl (k := 0) rfl (nI_add i 1) (by decide) rfl (fun ls hl => ?_)
            refine lv_goto (tgt := 2) hx hb dX5_questionError_29 (by decide) ?_
            exact ih2 (i + 1) (by omega) (by omega) (by exact k_fq_go hv (by omega)) _ (lv_sub hl [0, 1] rfl)
  exact lp2 _ 0 (Nat.lt_succ_self _) (by omega) (by rfl) _ (lv_sub hl [0, 1] rfl)
set_option maxHeartbeats 4000000 in
set_option maxRecDepth 100000 in
theorem c5_triplesError (l : Launch) (D : va_G) (tc : Nat → ClassId) (zb : Nat) (t0 t1 : Nat) (u : Nat → Nat) (ln : Nat) (hln : ln ≤ 100) (hu : ∀ k, u k < 256) : RO l yX5_triplesError wsX5_triplesError 2 43 D tc zb (w_tx tc t0 t1 u ln) [.ref t0] (.int (oI (k_ft u ln))) := by
  refine RO.of (cc := cX5_triplesError) (maxL := 3) (ret := (some .int)) (by decide) rfl (Nat.le_of_ble_eq_true rfl) ?_
  intro p e s m args below meth c hx hb hr hml hlk hts hown hM hS hP ls hl
  have hl : lv_has ls 3 [(0, .ref t0)] := hl
  have hinX5 : ∀ w ∈ u_ws RX5 TX5 2, w ∈ wsX5_triplesError := by decide +kernel
  refine lv_iconst (v := (nI 0)) hx hb dX5_triplesError_0 (by decide) ?_
  refine lv_istore_n (lv' := [(1, .int (nI 0)), (0, .ref t0)]) hx hb dX5_triplesError_1 rfl hl (by decide) rfl (fun ls hl => ?_)
  have lp2 : ∀ (n9 : Nat) (i : Nat), (ln - i) < n9 → (i ≤ ln) → (k_ft0 u i = none) → ∀ ls : Array Slot, lv_has ls 3 [(1, .int (nI i)), (0, .ref t0)] → W p l e ({ frames := 2, cells := 0, slots := 0, locals := 43 } : Room) s m args below meth c s.heap [] 0 0 (MQ below (roQ (.int (oI (k_ft u ln)))) args s 0 0 (fun _ => False)) (F0 m 2 ls []) := by
    intro n9
    induction n9 with
    | zero => intro i hmu; exact absurd hmu (Nat.not_lt_zero _)
    | succ n9 ih2 =>
      intro i hmu hi hv ls hl
      have hu9 := hu i
      refine lv_iload_n hx hb dX5_triplesError_2 rfl (lv_at hl 0 rfl) ?_
      refine lv_aload_n hx hb dX5_triplesError_3 rfl (lv_at hl 1 rfl) ?_
      refine va_get (D := D) (ci := 4) (v := .int (nI ln)) (C := RX5) (T := TX5) (N := 2) hx hb hts hinX5 hown hM.1 hP 0 rfl rfl 1 (by decide) (hts (.fieldLink RX5 15 "TripleWays$Text" "length" "I") (by decide +kernel)) (fun _ h9 => h9) rfl dX5_triplesError_4 ?_
      refine ln_icmp_ge (tgt := 62) hx hb dX5_triplesError_7 (by decide) (by omega) (by omega) (fun h1 => ?_) (fun h1 => ?_)
      · refine lv_aload_n hx hb dX5_triplesError_62 rfl (lv_at hl 1 rfl) ?_
        refine va_get (D := D) (ci := 4) (v := .int (nI ln)) (C := RX5) (T := TX5) (N := 2) hx hb hts hinX5 hown hM.1 hP 0 rfl rfl 1 (by decide) (hts (.fieldLink RX5 15 "TripleWays$Text" "length" "I") (by decide +kernel)) (fun _ h9 => h9) rfl dX5_triplesError_63 ?_
        refine lv_iconst (v := (nI 4)) hx hb dX5_triplesError_66 (by decide) ?_
        refine ln_irem hx hb dX5_triplesError_67 (by omega) (by decide) (by decide) ?_
        refine lv_iconst (v := (nI 3)) hx hb dX5_triplesError_68 (by decide) ?_
        refine ln_icmp_ne (tgt := 76) hx hb dX5_triplesError_69 (by decide) (by omega) (by decide) (fun h2 => ?_) (fun h2 => ?_)
        · refine lv_aload_n hx hb dX5_triplesError_76 rfl (lv_at hl 1 rfl) ?_
          refine va_get (D := D) (ci := 4) (v := .int (nI ln)) (C := RX5) (T := TX5) (N := 2) hx hb hts hinX5 hown hM.1 hP 0 rfl rfl 1 (by decide) (hts (.fieldLink RX5 15 "TripleWays$Text" "length" "I") (by decide +kernel)) (fun _ h9 => h9) rfl dX5_triplesError_77 ?_
          exact ro_iret hx hb hr hlk dX5_triplesError_80 (show oI (some ln) = _ from congrArg oI (by (have ei : i = ln := by omega); rw [k_ft_end (show k_ft0 u ln = none by rw [← ei]; exact hv)]; first | exact (if_pos (by omega)).symm | exact (if_neg (by omega)).symm))
        · refine lv_iconst (v := (-1)) hx hb dX5_triplesError_72 (by decide) ?_
          refine lv_goto (tgt := 80) hx hb dX5_triplesError_73 (by decide) ?_
          exact ro_iret hx hb hr hlk dX5_triplesError_80 (show oI none = _ from congrArg oI (by (have ei : i = ln := by omega); rw [k_ft_end (show k_ft0 u ln = none by rw [← ei]; exact hv)]; first | exact (if_pos (by omega)).symm | exact (if_neg (by omega)).symm))
      · refine lv_iload_n hx hb dX5_triplesError_10 rfl (lv_at hl 0 rfl) ?_
        refine lv_iconst (v := (nI 4)) hx hb dX5_triplesError_11 (by decide) ?_
        refine ln_irem hx hb dX5_triplesError_12 (by omega) (by decide) (by decide) ?_
        refine lv_iconst (v := (nI 3)) hx hb dX5_triplesError_13 (by decide) ?_
        refine ln_icmp_ne (tgt := 35) hx hb dX5_triplesError_14 (by decide) (by omega) (by decide) (fun h3 => ?_) (fun h3 => ?_)
        · refine lv_aload_n hx hb dX5_triplesError_35 rfl (lv_at hl 1 rfl) ?_
          refine lv_iload_n hx hb dX5_triplesError_36 rfl (lv_at hl 0 rfl) ?_
          refine ro_V (C := RX5) (n := 1) ⟨hx, hb, hml, hown, hts⟩ hM hS hP (c5_digitAt l D tc zb t0 t1 u ln i (by first | assumption | omega) (by assumption) (by omega)) gX5_triplesError_X5_digitAt rfl (by decide +kernel) ⟨Nat.le_of_ble_eq_true rfl, Nat.le_of_ble_eq_true rfl⟩ [0, 1] rfl (va_recv hM.1 hP (ci := 4) (q0 := 0) rfl rfl) rfl hl.1 rfl (Nat.le_of_ble_eq_true rfl) dX5_triplesError_37 ⟨Nat.le_refl _, Nat.le_refl _⟩ ?_
          cases ho37 : k_d1 (u i) with
          | none =>
            refine ln_eq (x' := -1) rfl ?_
            refine lv_iconst (v := (-1)) hx hb dX5_triplesError_40 (by decide) ?_
            refine lv_icmp_eq (tgt := 48) hx hb dX5_triplesError_41 (by decide) (fun _ => ?_) (fun h9 => False.elim (by revert h9; decide))
            refine lv_iconst (v := (nI 0)) hx hb dX5_triplesError_48 (by decide) ?_
            refine lv_istore_n (lv' := [(2, .int (nI 0)), (1, .int (nI i)), (0, .ref t0)]) hx hb dX5_triplesError_49 rfl hl (by decide) rfl (fun ls hl => ?_)
            refine lv_iload_n hx hb dX5_triplesError_50 rfl (lv_at hl 0 rfl) ?_
            refine lv_if_ne (tgt := 56) hx hb dX5_triplesError_51 (by decide) (fun h9 => False.elim (by revert h9; decide)) (fun _ => ?_)
            refine lv_iload_n hx hb dX5_triplesError_54 rfl (lv_at hl 1 rfl) ?_
            exact ro_iret hx hb hr hlk dX5_triplesError_55 (show oI (some i) = _ from congrArg oI (by exact (k_ft_hit hv (by omega) (fun h9 => by first | omega | (have h8 := k_d1_no (by assumption); omega))).symm))
          | some r37 =>
            refine ln_eq (x' := nI r37) rfl ?_
            have hr9 := k_d1_lt ho37
            refine lv_iconst (v := (-1)) hx hb dX5_triplesError_40 (by decide) ?_
            refine ln_eq_m1 (tgt := 48) hx hb dX5_triplesError_41 (by decide) (by omega) ?_
            refine lv_iconst (v := (nI 1)) hx hb dX5_triplesError_44 (by decide) ?_
            refine lv_goto (tgt := 49) hx hb dX5_triplesError_45 (by decide) ?_
            refine lv_istore_n (lv' := [(2, .int (nI 1)), (1, .int (nI i)), (0, .ref t0)]) hx hb dX5_triplesError_49 rfl hl (by decide) rfl (fun ls hl => ?_)
            refine lv_iload_n hx hb dX5_triplesError_50 rfl (lv_at hl 0 rfl) ?_
            refine lv_if_ne (tgt := 56) hx hb dX5_triplesError_51 (by decide) (fun _ => ?_) (fun h9 => False.elim (by revert h9; decide))
            refine lv_iinc (v := (nI (i + 1))) (lv' := [(1, .int (nI (i + 1))), (2, .int (nI 1)), (0, .ref t0)]) hx hb dX5_triplesError_56 hl (k := 1) rfl (nI_add i 1) (by decide) rfl (fun ls hl => ?_)
            refine lv_goto (tgt := 2) hx hb dX5_triplesError_59 (by decide) ?_
            exact ih2 (i + 1) (by omega) (by omega) (by exact k_ft_go hv (by omega)) _ (lv_sub hl [0, 2] rfl)
        · refine lv_aload_n hx hb dX5_triplesError_17 rfl (lv_at hl 1 rfl) ?_
          refine lv_iload_n hx hb dX5_triplesError_18 rfl (lv_at hl 0 rfl) ?_
          refine ro_V (C := RX5) (n := 1) ⟨hx, hb, hml, hown, hts⟩ hM hS hP (c5_signAt l D tc zb t0 t1 u ln i (by first | assumption | omega) (by assumption) (by omega)) gX5_triplesError_X5_signAt rfl (by decide +kernel) ⟨Nat.le_of_ble_eq_true rfl, Nat.le_of_ble_eq_true rfl⟩ [0, 1] rfl (va_recv hM.1 hP (ci := 4) (q0 := 0) rfl rfl) rfl hl.1 rfl (Nat.le_of_ble_eq_true rfl) dX5_triplesError_19 ⟨Nat.le_refl _, Nat.le_refl _⟩ ?_
          have hf4 := hu i
          refine lv_bipush (v := (nI 44)) hx hb dX5_triplesError_22 (by decide) ?_
          refine ln_icmp_ne (tgt := 31) hx hb dX5_triplesError_24 (by decide) (by omega) (by decide) (fun h5 => ?_) (fun h5 => ?_)
          · refine lv_iconst (v := (nI 0)) hx hb dX5_triplesError_31 (by decide) ?_
            refine lv_goto (tgt := 49) hx hb dX5_triplesError_32 (by decide) ?_
            refine lv_istore_n (lv' := [(2, .int (nI 0)), (1, .int (nI i)), (0, .ref t0)]) hx hb dX5_triplesError_49 rfl hl (by decide) rfl (fun ls hl => ?_)
            refine lv_iload_n hx hb dX5_triplesError_50 rfl (lv_at hl 0 rfl) ?_
            refine lv_if_ne (tgt := 56) hx hb dX5_triplesError_51 (by decide) (fun h9 => False.elim (by revert h9; decide)) (fun _ => ?_)
            refine lv_iload_n hx hb dX5_triplesError_54 rfl (lv_at hl 1 rfl) ?_
            exact ro_iret hx hb hr hlk dX5_triplesError_55 (show oI (some i) = _ from congrArg oI (by exact (k_ft_hit hv (by omega) (fun h9 => by first | omega | (have h8 := k_d1_no (by assumption); omega))).symm))
          · refine lv_iconst (v := (nI 1)) hx hb dX5_triplesError_27 (by decide) ?_
            refine lv_goto (tgt := 49) hx hb dX5_triplesError_28 (by decide) ?_
            refine lv_istore_n (lv' := [(2, .int (nI 1)), (1, .int (nI i)), (0, .ref t0)]) hx hb dX5_triplesError_49 rfl hl (by decide) rfl (fun ls hl => ?_)
            refine lv_iload_n hx hb dX5_triplesError_50 rfl (lv_at hl 0 rfl) ?_
            refine lv_if_ne (tgt := 56) hx hb dX5_triplesError_51 (by decide) (fun _ => ?_) (fun h9 => False.elim (by revert h9; decide))
            refine lv_iinc (v := (nI (i + 1))) (lv' := [(1, .int (nI (i + 1))), (2, .int (nI 1)), (0, .ref t0)]) hx hb dX5_triplesError_56 hl (k := 1) rfl (nI_add i 1) (by decide) rfl (fun ls hl => ?_)
            refine lv_goto (tgt := 2) hx hb dX5_triplesError_59 (by decide) ?_
            exact ih2 (i + 1) (by omega) (by omega) (by exact k_ft_go hv (by omega)) _ (lv_sub hl [0, 2] rfl)
  exact lp2 _ 0 (Nat.lt_succ_self _) (by omega) (by rfl) _ (lv_sub hl [0, 1] rfl)
set_option maxHeartbeats 4000000 in
set_option maxRecDepth 100000 in
theorem c5_asQuestion (l : Launch) (D : va_G) (tc : Nat → ClassId) (zb : Nat) (t0 t1 : Nat) (u : Nat → Nat) (ln : Nat) (hln : ln ≤ 100) (hu : ∀ k, u k < 256) (hf : k_fq u ln = none) : RO l yX5_asQuestion wsX5_asQuestion 3 64 D tc zb (w_tx tc t0 t1 u ln) [.ref t0] (.int (nI (k_tq u))) := by
  refine RO.of (cc := cX5_asQuestion) (maxL := 1) (ret := (some .int)) (by decide) rfl (Nat.le_of_ble_eq_true rfl) ?_
  intro p e s m args below meth c hx hb hr hml hlk hts hown hM hS hP ls hl
  have hl : lv_has ls 1 [(0, .ref t0)] := hl
  have hd9 := k_fq_none hf
  have hl3 := hd9.1
  have hd0 := hd9.2 0 (by omega)
  have hd1 := hd9.2 1 (by omega)
  have hd2 := hd9.2 2 (by omega)
  refine lv_aload_n hx hb dX5_asQuestion_0 rfl (lv_at hl 0 rfl) ?_
  refine lv_iconst (v := (nI 0)) hx hb dX5_asQuestion_1 (by decide) ?_
  refine ro_V (C := RX5) (n := 1) ⟨hx, hb, hml, hown, hts⟩ hM hS hP (c5_choiceAtN l D tc zb t0 t1 u ln 0 (by first | assumption | omega) (by assumption) (by omega) (by first | assumption | omega)) gX5_asQuestion_X5_choiceAt rfl (by decide +kernel) ⟨Nat.le_of_ble_eq_true rfl, Nat.le_of_ble_eq_true rfl⟩ [0, 1] rfl (va_recv hM.1 hP (ci := 4) (q0 := 0) rfl rfl) rfl hl.1 rfl (Nat.le_of_ble_eq_true rfl) dX5_asQuestion_2 ⟨Nat.le_refl _, Nat.le_refl _⟩ ?_
  refine lv_aload_n hx hb dX5_asQuestion_5 rfl (lv_at hl 0 rfl) ?_
  refine lv_iconst (v := (nI 1)) hx hb dX5_asQuestion_6 (by decide) ?_
  refine ro_V (C := RX5) (n := 1) ⟨hx, hb, hml, hown, hts⟩ hM hS hP (c5_choiceAtN l D tc zb t0 t1 u ln 1 (by first | assumption | omega) (by assumption) (by omega) (by first | assumption | omega)) gX5_asQuestion_X5_choiceAt rfl (by decide +kernel) ⟨Nat.le_of_ble_eq_true rfl, Nat.le_of_ble_eq_true rfl⟩ [0, 1] rfl (va_recv hM.1 hP (ci := 4) (q0 := 0) rfl rfl) rfl hl.1 rfl (Nat.le_of_ble_eq_true rfl) dX5_asQuestion_7 ⟨Nat.le_refl _, Nat.le_refl _⟩ ?_
  refine lv_aload_n hx hb dX5_asQuestion_10 rfl (lv_at hl 0 rfl) ?_
  refine lv_iconst (v := (nI 2)) hx hb dX5_asQuestion_11 (by decide) ?_
  refine ro_V (C := RX5) (n := 1) ⟨hx, hb, hml, hown, hts⟩ hM hS hP (c5_choiceAtN l D tc zb t0 t1 u ln 2 (by first | assumption | omega) (by assumption) (by omega) (by first | assumption | omega)) gX5_asQuestion_X5_choiceAt rfl (by decide +kernel) ⟨Nat.le_of_ble_eq_true rfl, Nat.le_of_ble_eq_true rfl⟩ [0, 1] rfl (va_recv hM.1 hP (ci := 4) (q0 := 0) rfl rfl) rfl hl.1 rfl (Nat.le_of_ble_eq_true rfl) dX5_asQuestion_12 ⟨Nat.le_refl _, Nat.le_refl _⟩ ?_
  refine ro_S (n := 3) ⟨hx, hb, hml, hown, hts⟩ hM hS hP (c_questionOf l D tc zb (k_ch (u 0)) (k_ch (u 1)) (k_ch (u 2))) gX5_asQuestion_X2_questionOf rfl (by decide +kernel) ⟨Nat.le_of_ble_eq_true rfl, Nat.le_of_ble_eq_true rfl⟩ [] rfl rfl hl.1 rfl (Nat.le_of_ble_eq_true rfl) dX5_asQuestion_15 ⟨Nat.le_refl _, Nat.le_refl _⟩ ?_
  exact ro_iret hx hb hr hlk dX5_asQuestion_18 (congrArg nI (by rfl))
set_option maxHeartbeats 4000000 in
set_option maxRecDepth 100000 in
theorem c5_countTriples (l : Launch) (D : va_G) (tc : Nat → ClassId) (zb : Nat) (t0 t1 : Nat) (u : Nat → Nat) (ln : Nat) (hln : ln ≤ 100) (hu : ∀ k, u k < 256) : RO l yX5_countTriples wsX5_countTriples 0 0 D tc zb (w_tx tc t0 t1 u ln) [.ref t0] (.int (nI ((ln + 1) / 4))) := by
  refine RO.of (cc := cX5_countTriples) (maxL := 1) (ret := (some .int)) (by decide) rfl (Nat.le_of_ble_eq_true rfl) ?_
  intro p e s m args below meth c hx hb hr hml hlk hts hown hM hS hP ls hl
  have hl : lv_has ls 1 [(0, .ref t0)] := hl
  have hinX5 : ∀ w ∈ u_ws RX5 TX5 2, w ∈ wsX5_countTriples := by decide +kernel
  refine lv_aload_n hx hb dX5_countTriples_0 rfl (lv_at hl 0 rfl) ?_
  refine va_get (D := D) (ci := 4) (v := .int (nI ln)) (C := RX5) (T := TX5) (N := 2) hx hb hts hinX5 hown hM.1 hP 0 rfl rfl 1 (by decide) (hts (.fieldLink RX5 15 "TripleWays$Text" "length" "I") (by decide +kernel)) (fun _ h9 => h9) rfl dX5_countTriples_1 ?_
  refine lv_iconst (v := (nI 1)) hx hb dX5_countTriples_4 (by decide) ?_
  refine ln_iadd hx hb dX5_countTriples_5 ?_
  refine lv_iconst (v := (nI 4)) hx hb dX5_countTriples_6 (by decide) ?_
  refine ln_idiv hx hb dX5_countTriples_7 (by omega) (by decide) (by decide) ?_
  exact ro_iret hx hb hr hlk dX5_countTriples_8 (rfl)
set_option maxHeartbeats 4000000 in
set_option maxRecDepth 100000 in
theorem c5_tripleAt (l : Launch) (D : va_G) (tc : Nat → ClassId) (zb : Nat) (t0 t1 : Nat) (u : Nat → Nat) (ln : Nat) (i : Nat) (hln : ln ≤ 100) (hu : ∀ k, u k < 256) (hf : k_ft u ln = none) (hi9 : 4 * i < ln) : RO l yX5_tripleAt wsX5_tripleAt 2 43 D tc zb (w_tx tc t0 t1 u ln) [.ref t0, .int (nI i)] (.int (nI (k_tt u i))) := by
  refine RO.of (cc := cX5_tripleAt) (maxL := 2) (ret := (some .int)) (by decide) rfl (Nat.le_of_ble_eq_true rfl) ?_
  intro p e s m args below meth c hx hb hr hml hlk hts hown hM hS hP ls hl
  have hl : lv_has ls 2 [(0, .ref t0), (1, .int (nI i))] := hl
  have hfd := k_ft_none hf
  have hf4 := hfd.1
  have hd0 := hfd.2 (4 * i) (by omega)
  have hd1 := hfd.2 (4 * i + 1) (by omega)
  have hd2 := hfd.2 (4 * i + 2) (by omega)
  have hu9 := hu (4 * i)
  refine lv_bipush (v := (nI 100)) hx hb dX5_tripleAt_0 (by decide) ?_
  refine lv_aload_n hx hb dX5_tripleAt_2 rfl (lv_at hl 0 rfl) ?_
  refine lv_iconst (v := (nI 4)) hx hb dX5_tripleAt_3 (by decide) ?_
  refine lv_iload_n hx hb dX5_tripleAt_4 rfl (lv_at hl 1 rfl) ?_
  refine ln_imul hx hb dX5_tripleAt_5 ?_
  refine ro_V (C := RX5) (n := 1) ⟨hx, hb, hml, hown, hts⟩ hM hS hP (c5_digitAtN l D tc zb t0 t1 u ln (4 * i) (by first | assumption | omega) (by assumption) (by omega) (by omega)) gX5_tripleAt_X5_digitAt rfl (by decide +kernel) ⟨Nat.le_of_ble_eq_true rfl, Nat.le_of_ble_eq_true rfl⟩ [0, 1] rfl (va_recv hM.1 hP (ci := 4) (q0 := 0) rfl rfl) rfl hl.1 rfl (Nat.le_of_ble_eq_true rfl) dX5_tripleAt_6 ⟨Nat.le_refl _, Nat.le_refl _⟩ ?_
  refine ln_imul hx hb dX5_tripleAt_9 ?_
  refine lv_bipush (v := (nI 10)) hx hb dX5_tripleAt_10 (by decide) ?_
  refine lv_aload_n hx hb dX5_tripleAt_12 rfl (lv_at hl 0 rfl) ?_
  refine lv_iconst (v := (nI 4)) hx hb dX5_tripleAt_13 (by decide) ?_
  refine lv_iload_n hx hb dX5_tripleAt_14 rfl (lv_at hl 1 rfl) ?_
  refine ln_imul hx hb dX5_tripleAt_15 ?_
  refine lv_iconst (v := (nI 1)) hx hb dX5_tripleAt_16 (by decide) ?_
  refine ln_iadd hx hb dX5_tripleAt_17 ?_
  refine ro_V (C := RX5) (n := 1) ⟨hx, hb, hml, hown, hts⟩ hM hS hP (c5_digitAtN l D tc zb t0 t1 u ln ((4 * i) + 1) (by first | assumption | omega) (by assumption) (by omega) (by omega)) gX5_tripleAt_X5_digitAt rfl (by decide +kernel) ⟨Nat.le_of_ble_eq_true rfl, Nat.le_of_ble_eq_true rfl⟩ [0, 1] rfl (va_recv hM.1 hP (ci := 4) (q0 := 0) rfl rfl) rfl hl.1 rfl (Nat.le_of_ble_eq_true rfl) dX5_tripleAt_18 ⟨Nat.le_refl _, Nat.le_refl _⟩ ?_
  refine ln_imul hx hb dX5_tripleAt_21 ?_
  refine ln_iadd hx hb dX5_tripleAt_22 ?_
  refine lv_aload_n hx hb dX5_tripleAt_23 rfl (lv_at hl 0 rfl) ?_
  refine lv_iconst (v := (nI 4)) hx hb dX5_tripleAt_24 (by decide) ?_
  refine lv_iload_n hx hb dX5_tripleAt_25 rfl (lv_at hl 1 rfl) ?_
  refine ln_imul hx hb dX5_tripleAt_26 ?_
  refine lv_iconst (v := (nI 2)) hx hb dX5_tripleAt_27 (by decide) ?_
  refine ln_iadd hx hb dX5_tripleAt_28 ?_
  refine ro_V (C := RX5) (n := 1) ⟨hx, hb, hml, hown, hts⟩ hM hS hP (c5_digitAtN l D tc zb t0 t1 u ln ((4 * i) + 2) (by first | assumption | omega) (by assumption) (by omega) (by omega)) gX5_tripleAt_X5_digitAt rfl (by decide +kernel) ⟨Nat.le_of_ble_eq_true rfl, Nat.le_of_ble_eq_true rfl⟩ [0, 1] rfl (va_recv hM.1 hP (ci := 4) (q0 := 0) rfl rfl) rfl hl.1 rfl (Nat.le_of_ble_eq_true rfl) dX5_tripleAt_29 ⟨Nat.le_refl _, Nat.le_refl _⟩ ?_
  refine ln_iadd hx hb dX5_tripleAt_32 ?_
  exact ro_iret hx hb hr hlk dX5_tripleAt_33 (congrArg nI (by rfl))
