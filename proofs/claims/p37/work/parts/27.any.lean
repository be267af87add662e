theorem k_got {r : Int32} (h : r = -1 ∨ ∃ k : Nat, k < 2 ^ 31 ∧ r = nI k) : ¬ r < -1 := by
  rcases h with rfl | ⟨k, hk, rfl⟩
  · decide
  · exact nI_nltm1 hk
theorem k_lkd {g : Nat → Nat} (hk : k_ok g) : g 0 * k_lk (g 0) < 2 ^ 31 := by
  have h1 := hk.1
  have h2 := k_lk_le (g 0)
  exact Nat.lt_of_le_of_lt (Nat.mul_le_mul h1 h2) (by decide)
theorem k_tv_got {g : Nat → Nat} : oI (k_tv g) = -1 ∨ ∃ k : Nat, k < 2 ^ 31 ∧ oI (k_tv g) = nI k := by
  cases h : k_tv g with
  | none => exact Or.inl rfl
  | some r =>
    refine Or.inr ⟨r, ?_, rfl⟩
    unfold k_tv at h
    cases h1 : k_go g 6 with
    | some q =>
      rw [h1] at h; cases h
      have h2 := k_go_lt h1
      omega
    | none =>
      rw [h1] at h
      have h2 := k_lo_lt h
      omega
theorem ok_wgt {g : Nat → Nat} {x : Nat} (hk : k_ok g) (hx : x ≤ 99) : k_ok (k_up g 59 x) := by
  have e : ∀ k, k ≠ 59 → k_up g 59 x k = g k := fun k h => k_up_ne h
  obtain ⟨h0, h1, h2, h3, h4, h5, h6⟩ := hk
  refine ⟨by rw [e 0 (by omega)]; exact h0, by rw [e 41 (by omega)]; exact h1, by rw [e 46 (by omega)]; exact h2, by rw [k_up_eq rfl]; exact hx, fun i hi => ?_, fun i hi => ?_, fun i j hi hj h => ?_⟩
  · rw [e 0 (by omega)] at hi; rw [e _ (by omega)]; exact h4 i hi
  · rw [e 46 (by omega)] at hi; rw [e _ (by omega)]; exact h5 i hi
  · rw [e 0 (by omega)] at hi hj; rw [e _ (by omega), e _ (by omega)] at h; exact h6 i j hi hj h
theorem R_wgt {tr qs : Nat → Int32} {g : Nat → Nat} {x : Nat} (hk : k_ok g) (h : k_R tr qs g) : k_R tr qs (k_up g 59 x) :=
  R_same h (k_up_ne (by omega)) (k_up_ne (by omega)) (fun i hi => by have := hk.1; exact k_up_ne (by omega)) (fun i hi => by have := hk.2.2.1; exact k_up_ne (by omega))
theorem k_pv_le2 (g : Nat → Nat) (t : Nat) : k_pv g t ≤ 1 := by unfold k_pv; split <;> omega
theorem k_rv_le (g : Nat → Nat) (t : Nat) : k_rv g t ≤ 1 := by unfold k_rv; split <;> omega
set_option maxHeartbeats 4000000 in
set_option maxRecDepth 100000 in
theorem l_does (l : Launch) (D : va_G) (tc : Nat → ClassId) (zb x0 : Nat) (as : Nat → Nat) (tr : Nat → Int32) (qs : Nat → Int32) (g : Nat → Nat) (trc : Nat → Int32) (qsc : Nat → Int32) (gc : Nat → Nat) (od : Nat) (n : Nat) (tri : Nat → Nat → Int32) (qsi : Nat → Nat → Int32) (gi : Nat → Nat → Nat) (fc : Nat → Int32) (hc : Nat → Int32) (v1 : Int32) (v2 : Int32) (v3 : Int32) (v4 : Int32) (trs : Nat → Nat → Int32) (qss : Nat → Nat → Int32) (gs : Nat → Nat → Nat) (iz : Nat → Bool) (u : Nat → Nat) (ln : Nat) (hinv : INC tr qs g od n tri qsi gi) (v : Int32) : ∃ (tr' : Nat → Int32) (qs' : Nat → Int32) (g' : Nat → Nat) (od' : Nat) (n' : Nat) (tri' : Nat → Nat → Int32) (qsi' : Nat → Nat → Int32) (gi' : Nat → Nat → Nat) (fc' : Nat → Int32) (hc' : Nat → Int32) (v1' : Int32) (v2' : Int32) (v3' : Int32) (v4' : Int32) (r : Int32) (fr lo : Nat), fr ≤ 6 ∧ lo ≤ 139 ∧ IP l yL_does wsL_does fr lo D tc zb (CW tc x0 as tr qs g trc qsc gc od n tri qsi gi fc hc v1 v2 v3 v4 trs qss gs iz u ln) (CW tc x0 as tr' qs' g' trc qsc gc od' n' tri' qsi' gi' fc' hc' v1' v2' v3' v4' trs qss gs iz u ln) [.ref x0, .int v] (some (.int r)) ∧ INC tr' qs' g' od' n' tri' qsi' gi' ∧ ¬ r < -1 := by
  obtain ⟨hk, hR, hod, hn, hgi⟩ := id hinv
  have hb15 := bk_le v 15
  rcases (show bk v 15 ≤ 4 ∨ bk v 15 = 5 ∨ bk v 15 = 6 ∨ bk v 15 = 7 ∨ bk v 15 = 8 ∨ bk v 15 = 9 ∨ 10 ≤ bk v 15 by omega) with hv | hv | hv | hv | hv | hv | hv
  · by_cases hf : g 0 < 40
    · have hpv := k_pv_le2 g (k_dgs (v >>> (nI 4 &&& 31)))
      exact ⟨(k_ptr tr g (k_dgs (v >>> (nI 4 &&& 31)))) , qs , (m_put g (k_dgs (v >>> (nI 4 &&& 31)))) , (k_od od n) , (k_n1 n + 1) , (u_at tri ((od + n) % 14) (k_cp tr (tri ((od + n) % 14)) (g 0))) , (u_at qsi ((od + n) % 14) (k_cp qs (qsi ((od + n) % 14)) (g 46))) , (u_at gi ((od + n) % 14) g) , fc , hc , v1 , v2 , v3 , v4, _, _, _, by decide, by decide, l_does_add l D tc zb x0 as tr qs g trc qsc gc od n tri qsi gi fc hc v1 v2 v3 v4 trs qss gs iz u ln v hk hR hod hn hv hf, ⟨ok_put hk (k_dgs_lt (v >>> (nI 4 &&& 31))), R_put hk hR (k_dgs_lt (v >>> (nI 4 &&& 31))), k_od_lt hod, k_n1_le hn, gi_push hgi hk hR⟩, k_got (Or.inr ⟨k_pv g (k_dgs (v >>> (nI 4 &&& 31))), by omega, rfl⟩)⟩
    · exact ⟨tr, qs, g, od, n, tri, qsi, gi, fc, hc, v1, v2, v3, v4, _, _, _, by decide, by decide, l_does_full l D tc zb x0 as tr qs g trc qsc gc od n tri qsi gi fc hc v1 v2 v3 v4 trs qss gs iz u ln v hk hR hod hn hv hf, hinv, k_got (Or.inr ⟨0, by decide, rfl⟩)⟩
  · have hrv := k_rv_le g (k_dgs (v >>> (nI 4 &&& 31)))
    exact ⟨(k_rtr tr g (k_dgs (v >>> (nI 4 &&& 31)))) , qs , (m_rem g (k_dgs (v >>> (nI 4 &&& 31)))) , (k_od od n) , (k_n1 n + 1) , (u_at tri ((od + n) % 14) (k_cp tr (tri ((od + n) % 14)) (g 0))) , (u_at qsi ((od + n) % 14) (k_cp qs (qsi ((od + n) % 14)) (g 46))) , (u_at gi ((od + n) % 14) g) , fc , hc , v1 , v2 , v3 , v4, _, _, _, by decide, by decide, l_does_remove l D tc zb x0 as tr qs g trc qsc gc od n tri qsi gi fc hc v1 v2 v3 v4 trs qss gs iz u ln v hk hR hod hn hv, ⟨ok_rem hk, R_rem hk hR, k_od_lt hod, k_n1_le hn, gi_push hgi hk hR⟩, k_got (Or.inr ⟨k_rv g (k_dgs (v >>> (nI 4 &&& 31))), by omega, rfl⟩)⟩
  · have hq : k_low (v >>> (nI 4 &&& 31)) 6 < 6 := k_low_lt _ (by decide)
    cases hin : k_in (g 41) (k_low (v >>> (nI 4 &&& 31)) 6) with
    | false =>
      exact ⟨tr , qs , (m_bld g (k_low (v >>> (nI 4 &&& 31)) 6)) , (k_od od n) , (k_n1 n + 1) , (u_at tri ((od + n) % 14) (k_cp tr (tri ((od + n) % 14)) (g 0))) , (u_at qsi ((od + n) % 14) (k_cp qs (qsi ((od + n) % 14)) (g 46))) , (u_at gi ((od + n) % 14) g) , fc , hc , v1 , v2 , v3 , v4, _, _, _, by decide, by decide, l_does_build6 l D tc zb x0 as tr qs g trc qsc gc od n tri qsi gi fc hc v1 v2 v3 v4 trs qss gs iz u ln v hk hR hod hn hv hin, ⟨ok_bld hk hq, R_bld hk hR, k_od_lt hod, k_n1_le hn, gi_push hgi hk hR⟩, k_got (Or.inr ⟨g 0 * k_lk (g 0), k_lkd hk, rfl⟩)⟩
    | true =>
      have hpc := k_pc_le (g 41 &&& (63 ^^^ 2 ^ (k_low (v >>> (nI 4 &&& 31)) 6)))
      exact ⟨tr , qs , (m_drp g (k_low (v >>> (nI 4 &&& 31)) 6)) , (k_od od n) , (k_n1 n + 1) , (u_at tri ((od + n) % 14) (k_cp tr (tri ((od + n) % 14)) (g 0))) , (u_at qsi ((od + n) % 14) (k_cp qs (qsi ((od + n) % 14)) (g 46))) , (u_at gi ((od + n) % 14) g) , fc , hc , v1 , v2 , v3 , v4, _, _, _, by decide, by decide, l_does_drop6 l D tc zb x0 as tr qs g trc qsc gc od n tri qsi gi fc hc v1 v2 v3 v4 trs qss gs iz u ln v hk hR hod hn hv hin, ⟨ok_drp hk hq, R_drp hk hR, k_od_lt hod, k_n1_le hn, gi_push hgi hk hR⟩, k_got (Or.inr ⟨k_pc (g 41 &&& (63 ^^^ 2 ^ (k_low (v >>> (nI 4 &&& 31)) 6))), by omega, rfl⟩)⟩
  · have hq : k_low (v >>> (nI 4 &&& 31)) 6 < 6 := k_low_lt _ (by decide)
    cases hin : k_in (g 41) (k_low (v >>> (nI 4 &&& 31)) 6) with
    | false =>
      exact ⟨tr , qs , (m_bld g (k_low (v >>> (nI 4 &&& 31)) 6)) , (k_od od n) , (k_n1 n + 1) , (u_at tri ((od + n) % 14) (k_cp tr (tri ((od + n) % 14)) (g 0))) , (u_at qsi ((od + n) % 14) (k_cp qs (qsi ((od + n) % 14)) (g 46))) , (u_at gi ((od + n) % 14) g) , fc , hc , v1 , v2 , v3 , v4, _, _, _, by decide, by decide, l_does_build7 l D tc zb x0 as tr qs g trc qsc gc od n tri qsi gi fc hc v1 v2 v3 v4 trs qss gs iz u ln v hk hR hod hn hv hin, ⟨ok_bld hk hq, R_bld hk hR, k_od_lt hod, k_n1_le hn, gi_push hgi hk hR⟩, k_got (Or.inr ⟨g 0 * k_lk (g 0), k_lkd hk, rfl⟩)⟩
    | true =>
      have hpc := k_pc_le (g 41 &&& (63 ^^^ 2 ^ (k_low (v >>> (nI 4 &&& 31)) 6)))
      exact ⟨tr , qs , (m_drp g (k_low (v >>> (nI 4 &&& 31)) 6)) , (k_od od n) , (k_n1 n + 1) , (u_at tri ((od + n) % 14) (k_cp tr (tri ((od + n) % 14)) (g 0))) , (u_at qsi ((od + n) % 14) (k_cp qs (qsi ((od + n) % 14)) (g 46))) , (u_at gi ((od + n) % 14) g) , fc , hc , v1 , v2 , v3 , v4, _, _, _, by decide, by decide, l_does_drop7 l D tc zb x0 as tr qs g trc qsc gc od n tri qsi gi fc hc v1 v2 v3 v4 trs qss gs iz u ln v hk hR hod hn hv hin, ⟨ok_drp hk hq, R_drp hk hR, k_od_lt hod, k_n1_le hn, gi_push hgi hk hR⟩, k_got (Or.inr ⟨k_pc (g 41 &&& (63 ^^^ 2 ^ (k_low (v >>> (nI 4 &&& 31)) 6))), by omega, rfl⟩)⟩
  · have hl12 : k_low (v >>> (nI 4 &&& 31)) 12 < 12 := k_low_lt _ (by decide)
    have h59 := hk.2.2.2.1
    exact ⟨tr , qs , (k_up g 59 (k_low (v >>> (nI 4 &&& 31)) 12)) , (k_od od n) , (k_n1 n + 1) , (u_at tri ((od + n) % 14) (k_cp tr (tri ((od + n) % 14)) (g 0))) , (u_at qsi ((od + n) % 14) (k_cp qs (qsi ((od + n) % 14)) (g 46))) , (u_at gi ((od + n) % 14) g) , fc , hc , v1 , v2 , v3 , v4, _, _, _, by decide, by decide, l_does_weight l D tc zb x0 as tr qs g trc qsc gc od n tri qsi gi fc hc v1 v2 v3 v4 trs qss gs iz u ln v hk hR hod hn hv, ⟨ok_wgt hk (by omega), R_wgt hk hR, k_od_lt hod, k_n1_le hn, gi_push hgi hk hR⟩, k_got (Or.inr ⟨g 59, by omega, rfl⟩)⟩
  · skip
    exact ⟨tr , qs , (m_tdy g) , (k_od od n) , (k_n1 n + 1) , (u_at tri ((od + n) % 14) (k_cp tr (tri ((od + n) % 14)) (g 0))) , (u_at qsi ((od + n) % 14) (k_cp qs (qsi ((od + n) % 14)) (g 46))) , (u_at gi ((od + n) % 14) g) , (k_lf fc g (6 * g 46)) , (k_lh hc g (g 46)) , (nI (g 46)) , (nI (g 0)) , (nI (g 41)) , (nI (k_due g)), _, _, _, by decide, by decide, l_does_tidy l D tc zb x0 as tr qs g trc qsc gc od n tri qsi gi fc hc v1 v2 v3 v4 trs qss gs iz u ln v hk hR hod hn hv, ⟨ok_tdy hk, R_tdy hk hR, k_od_lt hod, k_n1_le hn, gi_push hgi hk hR⟩, k_got k_tv_got⟩
  · have hcn9 := k_cnt_le g (k_qn (v >>> (nI 4 &&& 31)))
    have h40 := hk.1
    exact ⟨tr , (k_aqs qs g (k_qn (v >>> (nI 4 &&& 31)))) , (m_ask g (k_qn (v >>> (nI 4 &&& 31)))) , (k_od od n) , (k_n1 n + 1) , (u_at tri ((od + n) % 14) (k_cp tr (tri ((od + n) % 14)) (g 0))) , (u_at qsi ((od + n) % 14) (k_cp qs (qsi ((od + n) % 14)) (g 46))) , (u_at gi ((od + n) % 14) g) , fc , hc , v1 , v2 , v3 , v4, _, _, _, by decide, by decide, l_does_ask l D tc zb x0 as tr qs g trc qsc gc od n tri qsi gi fc hc v1 v2 v3 v4 trs qss gs iz u ln v hk hR hod hn hv, ⟨ok_ask hk (k_qn_lt _), R_ask hk hR, k_od_lt hod, k_n1_le hn, gi_push hgi hk hR⟩, k_got (Or.inr ⟨k_cnt g (k_qn (v >>> (nI 4 &&& 31))), by omega, rfl⟩)⟩
