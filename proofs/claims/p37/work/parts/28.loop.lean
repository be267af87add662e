/-- what the law's own walk stands on -/
def lw_C (p : Program) (s : State) (m : MethodId) (meth : Method) (c : Code) (l : Launch) (D : va_G) (tc : Nat → ClassId) (zb sb L : Nat) (xs : Nat → Int32) : Prop :=
  p.tables.exec = Jvm.exec ∧ c.code = cL_law ∧ c.maxLocals = 12 ∧ s.vm.findClass RL = some m.cls ∧ (∀ w ∈ wsL_law, w.before #[Value.ref sb] s = true) ∧ amb D tc zb (fun q => s.heap.size ≤ q) s s.heap ∧ va_X sb L xs s s.heap ∧ sb < s.heap.size ∧ meth.sig.returnType = ret ∧ meth.locks = false ∧ L ≤ 260
theorem k_j2 {od n : Nat} (h1 : od < 14) (h2 : n ≤ 14) : (k_od od n + (k_n1 n + 1 - 1)) % 14 = (od + n) % 14 := by
  unfold k_od k_n1
  by_cases q : n = 14
  · rw [if_pos q, if_pos q]; omega
  · rw [if_neg q, if_neg q]; omega
theorem k_rmb_ask {g : Nat → Nat} {x : Nat} (hk : k_ok g) : k_rmb (m_ask g x) 0 = some x := by
  obtain ⟨a0, a46, a59, aq, al⟩ := m_ask_at (x := x) hk.2.2.1
  unfold k_rmb
  rw [if_pos (by rw [a46]; omega), a46, show 47 + (m_fg g 46 + 1) - 1 - 0 = 47 + m_fg g 46 by omega, al]
theorem k_cnt_ask {g : Nat → Nat} {x : Nat} (hk : k_ok g) : k_cnt (m_ask g x) x = k_cnt g x := by
  obtain ⟨a0, a46, a59, aq, al⟩ := m_ask_at (x := x) hk.2.2.1
  have h0 := hk.1
  exact k_cnt_cong (a0 0 (by omega)) (fun i hi => a0 _ (by omega))
theorem R_back {tr qs tr2 qs2 : Nat → Int32} {g : Nat → Nat} (h : k_R tr qs g) : k_R (k_cp tr tr2 (g 0)) (k_cp qs qs2 (g 46)) g := R_cp h
set_option maxHeartbeats 4000000 in
set_option maxRecDepth 100000 in
theorem l_undo (l : Launch) (D : va_G) (tc : Nat → ClassId) (zb x0 : Nat) (as : Nat → Nat) (tr : Nat → Int32) (qs : Nat → Int32) (g : Nat → Nat) (trc : Nat → Int32) (qsc : Nat → Int32) (gc : Nat → Nat) (od : Nat) (n : Nat) (tri : Nat → Nat → Int32) (qsi : Nat → Nat → Int32) (gi : Nat → Nat → Nat) (fc : Nat → Int32) (hc : Nat → Int32) (v1 : Int32) (v2 : Int32) (v3 : Int32) (v4 : Int32) (trs : Nat → Nat → Int32) (qss : Nat → Nat → Int32) (gs : Nat → Nat → Nat) (iz : Nat → Bool) (u : Nat → Nat) (ln : Nat) (hinv : INC tr qs g od n tri qsi gi) (x : Nat) (hx9 : x < 1331) : ∃ (tr3 qs3 : Nat → Int32), IP l yX6_undo wsX6_undo 3 65 D tc zb (CW tc x0 as tr (k_aqs qs g x) (m_ask g x) trc qsc gc (k_od od n) (k_n1 n + 1) (u_at tri ((od + n) % 14) (k_cp tr (tri ((od + n) % 14)) (g 0))) (u_at qsi ((od + n) % 14) (k_cp qs (qsi ((od + n) % 14)) (g 46))) (u_at gi ((od + n) % 14) g) fc hc v1 v2 v3 v4 trs qss gs iz u ln) (CW tc x0 as tr3 qs3 g trc qsc gc (k_od od n) (k_n1 n + 1 - 1) (u_at tri ((od + n) % 14) (k_cp tr (tri ((od + n) % 14)) (g 0))) (u_at qsi ((od + n) % 14) (k_cp qs (qsi ((od + n) % 14)) (g 46))) (u_at gi ((od + n) % 14) g) fc hc v1 v2 v3 v4 trs qss gs iz u ln) [.ref x0] (some (.int (nI (k_n1 n + 1 - 1)))) ∧ INC tr3 qs3 g (k_od od n) (k_n1 n + 1 - 1) (u_at tri ((od + n) % 14) (k_cp tr (tri ((od + n) % 14)) (g 0))) (u_at qsi ((od + n) % 14) (k_cp qs (qsi ((od + n) % 14)) (g 46))) (u_at gi ((od + n) % 14) g) := by
  obtain ⟨hk, hR, hod, hn, hgi⟩ := id hinv
  have hgi2 := gi_push (j := ((od + n) % 14)) hgi hk hR
  have hod2 := k_od_lt (n := n) hod
  have hn2 := k_n1_le hn
  have h := up_undo l D tc zb x0 as tr (k_aqs qs g x) (m_ask g x) trc qsc gc (k_od od n) (k_n1 n + 1) (u_at tri ((od + n) % 14) (k_cp tr (tri ((od + n) % 14)) (g 0))) (u_at qsi ((od + n) % 14) (k_cp qs (qsi ((od + n) % 14)) (g 46))) (u_at gi ((od + n) % 14) g) fc hc v1 v2 v3 v4 trs qss gs iz u ln (ok_ask hk hx9) (R_ask hk hR) hod2 hn2 (by omega) hgi2
  rw [k_j2 hod hn, u_at_eq (f := gi) (x := g) rfl] at h
  refine ⟨_, _, h, hk, ?_, hod2, by omega, hgi2⟩
  refine R_cp ?_
  have h9 := (hgi2 ((od + n) % 14) (Nat.mod_lt _ (by decide))).2
  rw [u_at_eq (f := gi) (x := g) rfl] at h9
  exact h9
set_option maxHeartbeats 4000000 in
set_option maxRecDepth 100000 in
theorem lw_loop {p : Program} {e : Env} {s : State} {m : MethodId} {below : List Frame} {meth : Method} {c : Code} (l : Launch) (D : va_G) (tc : Nat → ClassId) (zb x0 : Nat) (as : Nat → Nat) (sb L : Nat) (xs : Nat → Int32) (C0 : lw_C p s m meth c l D tc zb sb L xs) (cells slots : Nat) (hce : cells ≤ 600086) (hsl : slots ≤ 7301442) (trc : Nat → Int32) (qsc : Nat → Int32) (gc : Nat → Nat) (trs : Nat → Nat → Int32) (qss : Nat → Nat → Int32) (gs : Nat → Nat → Nat) (iz : Nat → Bool) (u : Nat → Nat) (ln : Nat) : ∀ (n9 i : Nat) (tr : Nat → Int32) (qs : Nat → Int32) (g : Nat → Nat) (od : Nat) (n : Nat) (tri : Nat → Nat → Int32) (qsi : Nat → Nat → Int32) (gi : Nat → Nat → Nat) (fc : Nat → Int32) (hc : Nat → Int32) (v1 : Int32) (v2 : Int32) (v3 : Int32) (v4 : Int32), 40 - i < n9 → i ≤ 40 → INC tr qs g od n tri qsi gi → ∀ (H : Heap) (locs : List Loc), va_P D vwCl (CW tc x0 as tr qs g trc qsc gc od n tri qsi gi fc hc v1 v2 v3 v4 trs qss gs iz u ln) H → va_D (fun q => s.heap.size ≤ q) (CW tc x0 as tr qs g trc qsc gc od n tri qsi gi fc hc v1 v2 v3 v4 trs qss gs iz u ln) → va_S (fun q => s.heap.size ≤ q) s.heap H locs → ∀ ls : Array Slot, lv_has ls 12 [(2, .int (nI i)), (1, .ref x0), (0, .ref sb)] → W p l e room_1 s m #[Value.ref sb] below meth c H locs cells slots (lw_Z below #[Value.ref sb] s) (F0 m 10 ls []) := by
  obtain ⟨hx, hb, hml, hown, hts, hM, hX, hbl, hrt, hlk, hL⟩ := id C0
  have hbA : ¬ (fun q : Nat => s.heap.size ≤ q) sb := Nat.not_le.mpr hbl
  have hL31 : L < 2 ^ 31 := Nat.lt_of_le_of_lt hL (by decide)
  have hf0 : cells + 0 ≤ room_1.cells ∧ slots + 0 ≤ room_1.slots := ⟨by show _ ≤ 600086; omega, by show _ ≤ 7301442; omega⟩
  intro n9
  induction n9 with
  | zero => intro i tr qs g od n tri qsi gi fc hc v1 v2 v3 v4 hmu; exact absurd hmu (Nat.not_lt_zero _)
  | succ n9 ih =>
    intro i tr qs g od n tri qsi gi fc hc v1 v2 v3 v4 hmu hi hinv H locs hP hD hS ls hl
    refine lv_iload_n hx hb dL_law_10 rfl (lv_at hl 0 rfl) ?_
    refine lv_bipush (v := nI 40) hx hb dL_law_11 (by decide) ?_
    refine ln_icmp_ge (tgt := 244) hx hb dL_law_13 (by decide) (by omega) (by decide) (fun h1 => ?_) (fun h1 => ?_)
    · refine lv_iconst (v := nI 1) hx hb dL_law_244 (by decide) ?_
      refine va_forget (fun q hq => hS.2.2 q hq) ?_
      refine W.widen (k := 600086) (n := 7301442) hce hsl ?_
      exact lw_ret hx hb hrt hlk dL_law_245
    · skip
      refine lv_aload_n hx hb dL_law_16 rfl (lv_at hl 2 rfl) ?_
      refine lv_iload_n hx hb dL_law_17 rfl (lv_at hl 0 rfl) ?_
      refine rx_S (n := 2) ⟨hx, hb, hml, hown, hts⟩ hX hbl hbA hS (l_cell l sb L xs i hL31 (by omega)) gL_law_L_cell rfl (by decide +kernel) ⟨Nat.le_of_ble_eq_true rfl, Nat.le_of_ble_eq_true rfl⟩ rfl hl.1 rfl (Nat.le_of_ble_eq_true rfl) dL_law_18 hf0 ?_
      generalize k_cell xs L i = v
      refine lv_istore_n (lv' := [(3, .int v), (2, .int (nI i)), (1, .ref x0), (0, .ref sb)]) hx hb dL_law_21 rfl hl (by decide) rfl (fun ls hl => ?_)
      refine lv_aload_n hx hb dL_law_22 rfl (lv_at hl 2 rfl) ?_
      refine lv_iload_n hx hb dL_law_23 rfl (lv_at hl 0 rfl) ?_
      obtain ⟨tr', qs', g', od', n', tri', qsi', gi', fc', hc', v1', v2', v3', v4', r, fr, lo, hfr, hlo, hd, hinv', hgot⟩ := l_does l D tc zb x0 as tr qs g trc qsc gc od n tri qsi gi fc hc v1 v2 v3 v4 trs qss gs iz u ln hinv v
      refine ipF_S (n := 2) (mc := 0) (ms := 0) ⟨hx, hb, hml, hown, hts⟩ hM hS hP hD hd gL_law_L_does rfl (by decide +kernel) ⟨Nat.le_trans (Nat.succ_le_succ hfr) (by decide), Nat.le_trans (Nat.add_le_add_left hlo _) (by decide)⟩ rfl rfl hl.1 rfl (Nat.le_of_ble_eq_true rfl) dL_law_24 hf0 (fun H locs hP hD hS => ?_)
      clear hd hinv
      obtain ⟨hk, hR, hod, hn, hgi⟩ := id hinv'
      refine W.eq (g2 := F0 m 27 ls [.int r]) rfl ?_
      refine lv_istore (lv' := [(4, .int r), (3, .int v), (2, .int (nI i)), (1, .ref x0), (0, .ref sb)]) hx hb dL_law_27 hl (by decide) rfl (fun ls hl => ?_)
      refine lv_iload_n hx hb dL_law_29 rfl (lv_at hl 1 rfl) ?_
      refine lv_bipush (v := nI 9) hx hb dL_law_30 (by decide) ?_
      refine lv_ishr hx hb dL_law_32 ?_
      refine ro_S (n := 1) ⟨hx, hb, hml, hown, hts⟩ hM hS hP (l_question l D tc zb (v >>> (nI 9 &&& 31))) gL_law_L_question rfl (by decide +kernel) ⟨Nat.le_of_ble_eq_true rfl, Nat.le_of_ble_eq_true rfl⟩ [] rfl rfl hl.1 rfl (Nat.le_of_ble_eq_true rfl) dL_law_33 hf0 ?_
      have hx9 : k_qn (v >>> (nI 9 &&& 31)) < 1331 := k_qn_lt _
      generalize k_qn (v >>> (nI 9 &&& 31)) = x at hx9 ⊢
      refine lv_istore (lv' := [(5, .int (nI x)), (4, .int r), (3, .int v), (2, .int (nI i)), (1, .ref x0), (0, .ref sb)]) hx hb dL_law_36 hl (by decide) rfl (fun ls hl => ?_)
      refine lv_aload_n hx hb dL_law_38 rfl (lv_at hl 4 rfl) ?_
      refine lv_iconst (v := nI 4) hx hb dL_law_39 (by decide) ?_
      refine ro_V (C := RX6) (n := 1) ⟨hx, hb, hml, hown, hts⟩ hM hS hP (c6_about_ok l D tc zb x0 (ofX as) (as 2) (as 3) (as 4) tr' qs' g' 4 hk hR (by decide)) gL_law_X6_about rfl (by decide +kernel) ⟨Nat.le_of_ble_eq_true rfl, Nat.le_of_ble_eq_true rfl⟩ [0, 3, 4, 5] rfl (va_recv hM.1 hP (ci := 5) (q0 := 0) rfl rfl) rfl hl.1 rfl (Nat.le_of_ble_eq_true rfl) dL_law_40 hf0 ?_
      refine ln_eq (x' := nI (g' 44)) (rfl) ?_
      refine lv_istore (lv' := [(6, .int (nI (g' 44))), (5, .int (nI x)), (4, .int r), (3, .int v), (2, .int (nI i)), (1, .ref x0), (0, .ref sb)]) hx hb dL_law_43 hl (by decide) rfl (fun ls hl => ?_)
      refine lv_aload_n hx hb dL_law_45 rfl (lv_at hl 5 rfl) ?_
      refine lv_iload hx hb dL_law_46 (lv_at hl 1 rfl) ?_
      refine lv_iconst (v := (-1)) hx hb dL_law_48 (by decide) ?_
      refine ro_V (C := RX6) (n := 2) ⟨hx, hb, hml, hown, hts⟩ hM hS hP (c6_cost_okN l D tc zb x0 (ofX as) (as 2) (as 3) (as 4) tr' qs' g' x hk hR hx9) gL_law_X6_cost rfl (by decide +kernel) ⟨Nat.le_of_ble_eq_true rfl, Nat.le_of_ble_eq_true rfl⟩ [0, 3, 4, 5] rfl (va_recv hM.1 hP (ci := 5) (q0 := 0) rfl rfl) rfl hl.1 rfl (Nat.le_of_ble_eq_true rfl) dL_law_49 hf0 ?_
      refine lv_istore (lv' := [(7, .int (nI (k_mn g' x (g' 41) 6))), (6, .int (nI (g' 44))), (5, .int (nI x)), (4, .int r), (3, .int v), (2, .int (nI i)), (1, .ref x0), (0, .ref sb)]) hx hb dL_law_52 hl (by decide) rfl (fun ls hl => ?_)
      refine lv_aload_n hx hb dL_law_54 rfl (lv_at hl 6 rfl) ?_
      refine lv_iconst (v := nI 5) hx hb dL_law_55 (by decide) ?_
      refine ro_V (C := RX6) (n := 1) ⟨hx, hb, hml, hown, hts⟩ hM hS hP (c6_about_ok l D tc zb x0 (ofX as) (as 2) (as 3) (as 4) tr' qs' g' 5 hk hR (by decide)) gL_law_X6_about rfl (by decide +kernel) ⟨Nat.le_of_ble_eq_true rfl, Nat.le_of_ble_eq_true rfl⟩ [0, 3, 4, 5] rfl (va_recv hM.1 hP (ci := 5) (q0 := 0) rfl rfl) rfl hl.1 rfl (Nat.le_of_ble_eq_true rfl) dL_law_56 hf0 ?_
      refine ln_eq (x' := nI (g' 45)) (rfl) ?_
      refine lv_istore (lv' := [(8, .int (nI (g' 45))), (7, .int (nI (k_mn g' x (g' 41) 6))), (6, .int (nI (g' 44))), (5, .int (nI x)), (4, .int r), (3, .int v), (2, .int (nI i)), (1, .ref x0), (0, .ref sb)]) hx hb dL_law_59 hl (by decide) rfl (fun ls hl => ?_)
      refine lv_aload_n hx hb dL_law_61 rfl (lv_at hl 7 rfl) ?_
      refine lv_iconst (v := nI 0) hx hb dL_law_62 (by decide) ?_
      refine ro_V (C := RX6) (n := 1) ⟨hx, hb, hml, hown, hts⟩ hM hS hP (c6_remembered_ok l D tc zb x0 (ofX as) (as 2) (as 3) (as 4) tr' qs' g' 0 hk hR (by decide)) gL_law_X6_remembered rfl (by decide +kernel) ⟨Nat.le_of_ble_eq_true rfl, Nat.le_of_ble_eq_true rfl⟩ [0, 3, 4, 5] rfl (va_recv hM.1 hP (ci := 5) (q0 := 0) rfl rfl) rfl hl.1 rfl (Nat.le_of_ble_eq_true rfl) dL_law_63 hf0 ?_
      refine lv_istore (lv' := [(9, .int (oI (k_rmb g' 0))), (8, .int (nI (g' 45))), (7, .int (nI (k_mn g' x (g' 41) 6))), (6, .int (nI (g' 44))), (5, .int (nI x)), (4, .int r), (3, .int v), (2, .int (nI i)), (1, .ref x0), (0, .ref sb)]) hx hb dL_law_66 hl (by decide) rfl (fun ls hl => ?_)
      refine lv_aload_n hx hb dL_law_68 rfl (lv_at hl 8 rfl) ?_
      refine lv_bipush (v := nI 6) hx hb dL_law_69 (by decide) ?_
      refine ro_V (C := RX6) (n := 1) ⟨hx, hb, hml, hown, hts⟩ hM hS hP (c6_about_ok l D tc zb x0 (ofX as) (as 2) (as 3) (as 4) tr' qs' g' 6 hk hR (by decide)) gL_law_X6_about rfl (by decide +kernel) ⟨Nat.le_of_ble_eq_true rfl, Nat.le_of_ble_eq_true rfl⟩ [0, 3, 4, 5] rfl (va_recv hM.1 hP (ci := 5) (q0 := 0) rfl rfl) rfl hl.1 rfl (Nat.le_of_ble_eq_true rfl) dL_law_71 hf0 ?_
      refine ln_eq (x' := nI (g' 46)) (rfl) ?_
      refine lv_istore (lv' := [(10, .int (nI (g' 46))), (9, .int (oI (k_rmb g' 0))), (8, .int (nI (g' 45))), (7, .int (nI (k_mn g' x (g' 41) 6))), (6, .int (nI (g' 44))), (5, .int (nI x)), (4, .int r), (3, .int v), (2, .int (nI i)), (1, .ref x0), (0, .ref sb)]) hx hb dL_law_74 hl (by decide) rfl (fun ls hl => ?_)
      refine lv_aload_n hx hb dL_law_76 rfl (lv_at hl 9 rfl) ?_
      refine lv_iload hx hb dL_law_77 (lv_at hl 5 rfl) ?_
      refine ipF_V (C := RX6) (n := 1) (mc := 0) (ms := 0) ⟨hx, hb, hml, hown, hts⟩ hM hS hP hD (up_ask l D tc zb x0 as tr' qs' g' trc qsc gc od' n' tri' qsi' gi' fc' hc' v1' v2' v3' v4' trs qss gs iz u ln hk hR hod hn x hx9) gL_law_X6_ask rfl (by decide +kernel) ⟨Nat.le_of_ble_eq_true rfl, Nat.le_of_ble_eq_true rfl⟩ rfl (va_recv hM.1 hP (ci := 5) (q0 := 0) rfl rfl) rfl hl.1 rfl (Nat.le_of_ble_eq_true rfl) dL_law_79 hf0 (fun H locs hP hD hS => ?_)
      refine W.eq (g2 := F0 m 82 ls [.int (nI (k_cnt g' x))]) rfl ?_
      have hk2 := ok_ask hk hx9
      have hR2 := R_ask (x := x) hk hR
      refine lv_aload_n hx hb dL_law_82 rfl (lv_at hl 9 rfl) ?_
      refine lv_iload hx hb dL_law_83 (lv_at hl 5 rfl) ?_
      refine ro_V (C := RX6) (n := 1) ⟨hx, hb, hml, hown, hts⟩ hM hS hP (c6_count_ok l D tc zb x0 (ofX as) (as 2) (as 3) (as 4) tr' (k_aqs qs' g' x) (m_ask g' x) x hk2 hR2 hx9) gL_law_X6_count rfl (by decide +kernel) ⟨Nat.le_of_ble_eq_true rfl, Nat.le_of_ble_eq_true rfl⟩ [0, 3, 4, 5] rfl (va_recv hM.1 hP (ci := 5) (q0 := 0) rfl rfl) rfl hl.1 rfl (Nat.le_of_ble_eq_true rfl) dL_law_85 hf0 ?_
      refine ln_eq (x' := nI (k_cnt g' x)) (congrArg nI (k_cnt_ask hk)) ?_
      refine lv_icmp_ne (tgt := 130) hx hb dL_law_88 (by decide) (fun h9 => absurd rfl h9) (fun _ => ?_)
      refine lv_aload_n hx hb dL_law_91 rfl (lv_at hl 9 rfl) ?_
      refine lv_iconst (v := nI 4) hx hb dL_law_92 (by decide) ?_
      refine ro_V (C := RX6) (n := 1) ⟨hx, hb, hml, hown, hts⟩ hM hS hP (c6_about_ok l D tc zb x0 (ofX as) (as 2) (as 3) (as 4) tr' (k_aqs qs' g' x) (m_ask g' x) 4 hk2 hR2 (by decide)) gL_law_X6_about rfl (by decide +kernel) ⟨Nat.le_of_ble_eq_true rfl, Nat.le_of_ble_eq_true rfl⟩ [0, 3, 4, 5] rfl (va_recv hM.1 hP (ci := 5) (q0 := 0) rfl rfl) rfl hl.1 rfl (Nat.le_of_ble_eq_true rfl) dL_law_93 hf0 ?_
      refine ln_eq (x' := nI (g' 44 + k_mn g' x (g' 41) 6)) (congrArg nI (show k_abt (m_ask g' x) 4 = _ from m_ask_44 (x := x))) ?_
      refine lv_iload hx hb dL_law_96 (lv_at hl 4 rfl) ?_
      refine lv_iload hx hb dL_law_98 (lv_at hl 3 rfl) ?_
      refine ln_iadd hx hb dL_law_100 ?_
      refine lv_icmp_ne (tgt := 130) hx hb dL_law_101 (by decide) (fun h9 => absurd rfl h9) (fun _ => ?_)
      refine lv_aload_n hx hb dL_law_104 rfl (lv_at hl 9 rfl) ?_
      refine lv_iconst (v := nI 5) hx hb dL_law_105 (by decide) ?_
      refine ro_V (C := RX6) (n := 1) ⟨hx, hb, hml, hown, hts⟩ hM hS hP (c6_about_ok l D tc zb x0 (ofX as) (as 2) (as 3) (as 4) tr' (k_aqs qs' g' x) (m_ask g' x) 5 hk2 hR2 (by decide)) gL_law_X6_about rfl (by decide +kernel) ⟨Nat.le_of_ble_eq_true rfl, Nat.le_of_ble_eq_true rfl⟩ [0, 3, 4, 5] rfl (va_recv hM.1 hP (ci := 5) (q0 := 0) rfl rfl) rfl hl.1 rfl (Nat.le_of_ble_eq_true rfl) dL_law_106 hf0 ?_
      refine ln_eq (x' := nI (g' 45 + 1)) (congrArg nI (show k_abt (m_ask g' x) 5 = _ from m_ask_45 (x := x))) ?_
      refine lv_iload hx hb dL_law_109 (lv_at hl 2 rfl) ?_
      refine lv_iconst (v := nI 1) hx hb dL_law_111 (by decide) ?_
      refine ln_iadd hx hb dL_law_112 ?_
      refine lv_icmp_ne (tgt := 130) hx hb dL_law_113 (by decide) (fun h9 => absurd rfl h9) (fun _ => ?_)
      refine lv_aload_n hx hb dL_law_116 rfl (lv_at hl 9 rfl) ?_
      refine lv_iconst (v := nI 0) hx hb dL_law_117 (by decide) ?_
      refine ro_V (C := RX6) (n := 1) ⟨hx, hb, hml, hown, hts⟩ hM hS hP (c6_remembered_ok l D tc zb x0 (ofX as) (as 2) (as 3) (as 4) tr' (k_aqs qs' g' x) (m_ask g' x) 0 hk2 hR2 (by decide)) gL_law_X6_remembered rfl (by decide +kernel) ⟨Nat.le_of_ble_eq_true rfl, Nat.le_of_ble_eq_true rfl⟩ [0, 3, 4, 5] rfl (va_recv hM.1 hP (ci := 5) (q0 := 0) rfl rfl) rfl hl.1 rfl (Nat.le_of_ble_eq_true rfl) dL_law_118 hf0 ?_
      refine ln_eq (x' := nI x) (congrArg oI (k_rmb_ask hk)) ?_
      refine lv_iload hx hb dL_law_121 (lv_at hl 5 rfl) ?_
      refine lv_icmp_ne (tgt := 130) hx hb dL_law_123 (by decide) (fun h9 => absurd rfl h9) (fun _ => ?_)
      refine lv_iconst (v := nI 1) hx hb dL_law_126 (by decide) ?_
      refine lv_goto (tgt := 131) hx hb dL_law_127 (by decide) ?_
      refine lv_istore (lv' := [(11, .int (nI 1)), (10, .int (nI (g' 46))), (9, .int (oI (k_rmb g' 0))), (8, .int (nI (g' 45))), (7, .int (nI (k_mn g' x (g' 41) 6))), (6, .int (nI (g' 44))), (5, .int (nI x)), (4, .int r), (3, .int v), (2, .int (nI i)), (1, .ref x0), (0, .ref sb)]) hx hb dL_law_131 hl (by decide) rfl (fun ls hl => ?_)
      refine lv_aload_n hx hb dL_law_133 rfl (lv_at hl 10 rfl) ?_
      obtain ⟨tr3, qs3, hu, hinv3⟩ := l_undo l D tc zb x0 as tr' qs' g' trc qsc gc od' n' tri' qsi' gi' fc' hc' v1' v2' v3' v4' trs qss gs iz u ln hinv' x hx9
      refine ipF_V (C := RX6) (n := 0) (mc := 0) (ms := 0) ⟨hx, hb, hml, hown, hts⟩ hM hS hP hD hu gL_law_X6_undo rfl (by decide +kernel) ⟨Nat.le_of_ble_eq_true rfl, Nat.le_of_ble_eq_true rfl⟩ rfl (va_recv hM.1 hP (ci := 5) (q0 := 0) rfl rfl) rfl hl.1 rfl (Nat.le_of_ble_eq_true rfl) dL_law_134 hf0 (fun H locs hP hD hS => ?_)
      clear hu hk hR hod hn hgi hk2 hR2
      refine W.eq (g2 := F0 m 137 ls [.int (nI (k_n1 n' + 1 - 1))]) rfl ?_
      refine lv_pop hx hb dL_law_137 rfl ?_
      generalize k_od od' n' = od2 at hP hD hinv3
      generalize k_n1 n' + 1 - 1 = n2 at hP hD hinv3
      generalize u_at tri' ((od' + n') % 14) (k_cp tr' (tri' ((od' + n') % 14)) (g' 0)) = tri2 at hP hD hinv3
      generalize u_at qsi' ((od' + n') % 14) (k_cp qs' (qsi' ((od' + n') % 14)) (g' 46)) = qsi2 at hP hD hinv3
      generalize u_at gi' ((od' + n') % 14) g' = gi2 at hP hD hinv3
      clear hinv'
      obtain ⟨hk, hR, hod, hn, hgi⟩ := id hinv3
      refine lv_iload hx hb dL_law_138 (lv_at hl 0 rfl) ?_
      refine lv_if_eq (tgt := 194) hx hb dL_law_140 (by decide) (fun h9 => False.elim (by revert h9; decide)) (fun _ => ?_)
      refine lv_iload hx hb dL_law_143 (lv_at hl 7 rfl) ?_
      refine lv_iconst (v := (-1)) hx hb dL_law_145 (by decide) ?_
      refine lv_icmp_lt (tgt := 194) hx hb dL_law_146 (by decide) (fun h9 => absurd h9 hgot) (fun _ => ?_)
      refine lv_aload_n hx hb dL_law_149 rfl (lv_at hl 10 rfl) ?_
      refine lv_iconst (v := nI 4) hx hb dL_law_150 (by decide) ?_
      refine ro_V (C := RX6) (n := 1) ⟨hx, hb, hml, hown, hts⟩ hM hS hP (c6_about_ok l D tc zb x0 (ofX as) (as 2) (as 3) (as 4) tr3 qs3 g' 4 hk hR (by decide)) gL_law_X6_about rfl (by decide +kernel) ⟨Nat.le_of_ble_eq_true rfl, Nat.le_of_ble_eq_true rfl⟩ [0, 3, 4, 5] rfl (va_recv hM.1 hP (ci := 5) (q0 := 0) rfl rfl) rfl hl.1 rfl (Nat.le_of_ble_eq_true rfl) dL_law_151 hf0 ?_
      refine ln_eq (x' := nI (g' 44)) (rfl) ?_
      refine lv_iload hx hb dL_law_154 (lv_at hl 5 rfl) ?_
      refine lv_icmp_ne (tgt := 194) hx hb dL_law_156 (by decide) (fun h9 => absurd rfl h9) (fun _ => ?_)
      refine lv_aload_n hx hb dL_law_159 rfl (lv_at hl 10 rfl) ?_
      refine lv_iconst (v := nI 5) hx hb dL_law_160 (by decide) ?_
      refine ro_V (C := RX6) (n := 1) ⟨hx, hb, hml, hown, hts⟩ hM hS hP (c6_about_ok l D tc zb x0 (ofX as) (as 2) (as 3) (as 4) tr3 qs3 g' 5 hk hR (by decide)) gL_law_X6_about rfl (by decide +kernel) ⟨Nat.le_of_ble_eq_true rfl, Nat.le_of_ble_eq_true rfl⟩ [0, 3, 4, 5] rfl (va_recv hM.1 hP (ci := 5) (q0 := 0) rfl rfl) rfl hl.1 rfl (Nat.le_of_ble_eq_true rfl) dL_law_161 hf0 ?_
      refine ln_eq (x' := nI (g' 45)) (rfl) ?_
      refine lv_iload hx hb dL_law_164 (lv_at hl 3 rfl) ?_
      refine lv_icmp_ne (tgt := 194) hx hb dL_law_166 (by decide) (fun h9 => absurd rfl h9) (fun _ => ?_)
      refine lv_aload_n hx hb dL_law_169 rfl (lv_at hl 10 rfl) ?_
      refine lv_iconst (v := nI 0) hx hb dL_law_170 (by decide) ?_
      refine ro_V (C := RX6) (n := 1) ⟨hx, hb, hml, hown, hts⟩ hM hS hP (c6_remembered_ok l D tc zb x0 (ofX as) (as 2) (as 3) (as 4) tr3 qs3 g' 0 hk hR (by decide)) gL_law_X6_remembered rfl (by decide +kernel) ⟨Nat.le_of_ble_eq_true rfl, Nat.le_of_ble_eq_true rfl⟩ [0, 3, 4, 5] rfl (va_recv hM.1 hP (ci := 5) (q0 := 0) rfl rfl) rfl hl.1 rfl (Nat.le_of_ble_eq_true rfl) dL_law_171 hf0 ?_
      refine lv_iload hx hb dL_law_174 (lv_at hl 2 rfl) ?_
      refine lv_icmp_ne (tgt := 194) hx hb dL_law_176 (by decide) (fun h9 => absurd rfl h9) (fun _ => ?_)
      refine lv_aload_n hx hb dL_law_179 rfl (lv_at hl 10 rfl) ?_
      refine lv_bipush (v := nI 6) hx hb dL_law_180 (by decide) ?_
      refine ro_V (C := RX6) (n := 1) ⟨hx, hb, hml, hown, hts⟩ hM hS hP (c6_about_ok l D tc zb x0 (ofX as) (as 2) (as 3) (as 4) tr3 qs3 g' 6 hk hR (by decide)) gL_law_X6_about rfl (by decide +kernel) ⟨Nat.le_of_ble_eq_true rfl, Nat.le_of_ble_eq_true rfl⟩ [0, 3, 4, 5] rfl (va_recv hM.1 hP (ci := 5) (q0 := 0) rfl rfl) rfl hl.1 rfl (Nat.le_of_ble_eq_true rfl) dL_law_182 hf0 ?_
      refine ln_eq (x' := nI (g' 46)) (rfl) ?_
      refine lv_iload hx hb dL_law_185 (lv_at hl 1 rfl) ?_
      refine lv_icmp_ne (tgt := 194) hx hb dL_law_187 (by decide) (fun h9 => absurd rfl h9) (fun _ => ?_)
      refine lv_iconst (v := nI 1) hx hb dL_law_190 (by decide) ?_
      refine lv_goto (tgt := 195) hx hb dL_law_191 (by decide) ?_
      refine lv_istore (lv' := [(11, .int (nI 1)), (10, .int (nI (g' 46))), (9, .int (oI (k_rmb g' 0))), (8, .int (nI (g' 45))), (7, .int (nI (k_mn g' x (g' 41) 6))), (6, .int (nI (g' 44))), (5, .int (nI x)), (4, .int r), (3, .int v), (2, .int (nI i)), (1, .ref x0), (0, .ref sb)]) hx hb dL_law_195 hl (by decide) rfl (fun ls hl => ?_)
      refine lv_iload hx hb dL_law_197 (lv_at hl 0 rfl) ?_
      refine lv_if_eq (tgt := 211) hx hb dL_law_199 (by decide) (fun h9 => False.elim (by revert h9; decide)) (fun _ => ?_)
      refine lv_aload_n hx hb dL_law_202 rfl (lv_at hl 10 rfl) ?_
      refine lv_iload hx hb dL_law_203 (lv_at hl 6 rfl) ?_
      refine ro_S (n := 2) ⟨hx, hb, hml, hown, hts⟩ hM hS hP (l_ans l D tc zb x0 as tr3 qs3 g' trc qsc gc od2 n2 tri2 qsi2 gi2 fc' hc' v1' v2' v3' v4' trs qss gs iz u ln x hk hR hx9) gL_law_L_isAnsweredSo rfl (by decide +kernel) ⟨Nat.le_of_ble_eq_true rfl, Nat.le_of_ble_eq_true rfl⟩ [0, 1, 2, 3, 4, 5, 6, 7, 8, 9, 10, 11, 12, 13, 14, 15, 16, 17, 18, 19, 20, 21, 22, 23, 24, 25, 26, 27, 28, 29, 30, 31, 32, 33, 34, 35, 36, 37, 38, 39, 40, 41, 42, 43, 44, 45, 46, 47, 48, 49, 50, 51, 52, 53, 54, 55, 56, 57, 58, 59, 60, 61, 62, 63] rfl rfl hl.1 rfl (Nat.le_of_ble_eq_true rfl) dL_law_205 hf0 ?_
      refine ln_eq (x' := nI 1) (rfl) ?_
      refine lv_if_ne (tgt := 213) hx hb dL_law_208 (by decide) (fun _ => ?_) (fun h9 => False.elim (by revert h9; decide))
      have kk : ∀ (fc : Nat → Int32) (hc : Nat → Int32) (v1 : Int32) (v2 : Int32) (v3 : Int32) (v4 : Int32), ∀ (H : Heap) (locs : List Loc), va_P D vwCl (CW tc x0 as tr3 qs3 g' trc qsc gc od2 n2 tri2 qsi2 gi2 fc hc v1 v2 v3 v4 trs qss gs iz u ln) H → va_D (fun q => s.heap.size ≤ q) (CW tc x0 as tr3 qs3 g' trc qsc gc od2 n2 tri2 qsi2 gi2 fc hc v1 v2 v3 v4 trs qss gs iz u ln) → va_S (fun q => s.heap.size ≤ q) s.heap H locs → ∀ ls : Array Slot, lv_has ls 12 [(2, .int (nI i)), (1, .ref x0), (0, .ref sb)] → W p l e room_1 s m #[Value.ref sb] below meth c H locs cells slots (lw_Z below #[Value.ref sb] s) (F0 m 238 ls []) := by
        intro fc hc v1 v2 v3 v4 H locs hP hD hS ls hl
        refine lv_iinc (v := nI (i + 1)) (lv' := [(2, .int (nI (i + 1))), (1, .ref x0), (0, .ref sb)]) hx hb dL_law_238 hl (k := 0) rfl (nI_add i 1) (by decide) rfl (fun ls hl => ?_)
        refine lv_goto (tgt := 10) hx hb dL_law_241 (by decide) ?_
        exact ih (i + 1) tr3 qs3 g' od2 n2 tri2 qsi2 gi2 fc hc v1 v2 v3 v4 (by omega) (by omega) hinv3 _ _ hP hD hS _ hl
      refine lv_iload_n hx hb dL_law_213 rfl (lv_at hl 9 rfl) ?_
      refine lv_bipush (v := nI 8) hx hb dL_law_214 (by decide) ?_
      refine ln_irem hx hb dL_law_216 (by omega) (by decide) (by decide) ?_
      refine lv_bipush (v := nI 7) hx hb dL_law_217 (by decide) ?_
      refine ln_icmp_ne (tgt := 238) hx hb dL_law_219 (by decide) (by omega) (by decide) (fun h2 => ?_) (fun h2 => ?_)
      · exact kk _ _ _ _ _ _ _ _ hP hD hS _ (lv_sub hl [9, 10, 11] rfl)
      · skip
        refine lv_aload_n hx hb dL_law_222 rfl (lv_at hl 10 rfl) ?_
        refine lv_iload_n hx hb dL_law_223 rfl (lv_at hl 8 rfl) ?_
        refine lv_bipush (v := nI 7) hx hb dL_law_224 (by decide) ?_
        refine lv_ishr hx hb dL_law_226 ?_
        refine lv_bipush (v := nI 63) hx hb dL_law_227 (by decide) ?_
        refine lv_iand hx hb dL_law_229 ?_
        refine ln_eq (x' := nI (bk (v >>> (nI 7 &&& 31)) 63)) (bk_eq _ _) ?_
        have hot : bk (v >>> (nI 7 &&& 31)) 63 < 64 := Nat.lt_succ_of_le (bk_le _ _)
        refine ipF_S (n := 2) (mc := 0) (ms := 0) ⟨hx, hb, hml, hown, hts⟩ hM hS hP hD (l_advice l D tc zb x0 as tr3 qs3 g' trc qsc gc od2 n2 tri2 qsi2 gi2 fc' hc' v1' v2' v3' v4' trs qss gs iz u ln (bk (v >>> (nI 7 &&& 31)) 63) hk hR hot) gL_law_L_isAdviceSo rfl (by decide +kernel) ⟨Nat.le_of_ble_eq_true rfl, Nat.le_of_ble_eq_true rfl⟩ rfl rfl hl.1 rfl (Nat.le_of_ble_eq_true rfl) dL_law_230 hf0 (fun H locs hP hD hS => ?_)
        refine W.eq (g2 := F0 m 233 ls [.int (bI true)]) rfl ?_
        refine ln_eq (x' := nI 1) (rfl) ?_
        refine lv_if_ne (tgt := 238) hx hb dL_law_233 (by decide) (fun _ => ?_) (fun h9 => False.elim (by revert h9; decide))
        exact kk _ _ _ _ _ _ _ _ hP hD hS _ (lv_sub hl [9, 10, 11] rfl)
