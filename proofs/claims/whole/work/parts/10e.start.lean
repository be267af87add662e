theorem k_ok0 : k_ok (fun k => if k = 41 then 1 else if k = 59 then 4 else 0) := by
  refine ⟨by decide, by decide, by decide, by decide, fun i hi => ?_, fun i hi => ?_, fun i j hi => ?_⟩
  · exact absurd hi (by show ¬ i < 0; omega)
  · exact absurd hi (by show ¬ i < 0; omega)
  · exact absurd hi (by show ¬ i < 0; omega)
theorem k_R0 {tr qs : Nat → Int32} : k_R tr qs (fun k => if k = 41 then 1 else if k = 59 then 4 else 0) := ⟨fun i hi => absurd hi (by show ¬ i < 0; omega), fun i hi => absurd hi (by show ¬ i < 0; omega)⟩
theorem k_s0 : (fun k => nI ((fun k => if k = 41 then 1 else if k = 59 then 4 else 0) k)) = upd (upd (fun _ => nI 0) 41 (nI 1)) 59 (nI 4) := by
  funext k
  by_cases h1 : k = 59
  · subst h1; decide
  · by_cases h2 : k = 41
    · subst h2; decide
    · simp only [upd, h1, h2, if_false]
set_option maxHeartbeats 4000000 in
set_option maxRecDepth 100000 in
/-- the law, from its entry -/
theorem whole_start {p : Program} {e : Env} {s : State} {m : MethodId} {below : List Frame} {meth : Method} {c : Code} (l : Launch) (hflags : l.flags = flags0) {b L : Nat} {xs : Nat → Int32} (hL : L ≤ 3072) (C0 : lw_At p s m meth c b L xs) : W p l e room_1 s m #[Value.ref b] below meth c s.heap [] 0 0 (lw_Z below #[Value.ref b] s) (entryFrame m ([Value.ref b] : List Value).toArray 7) := by
  obtain ⟨hx, hb, hrt, hml, hown, hts0, hX, hbl, hlk, hgv⟩ := id C0
  have hfl : l.stackTraces = false := by unfold Launch.stackTraces; rw [hflags]; decide
  have hb : c.code = cL_law := hb
  have hown : s.vm.findClass RL = some m.cls := hown
  have hts : ∀ w ∈ wsL_law, w.before #[Value.ref b] s = true := fun w h => hts0 w (wsL_law_in w h)
  obtain ⟨D, tc, zb, hM, hAO⟩ := lw_amb hts0 hgv
  have hA : ∀ q : Nat, s.heap.size ≤ q → (fun q : Nat => s.heap.size ≤ q) q := fun _ h => h
  have CC : lw_C p s m meth c l D tc zb b L xs := ⟨hx, hb, hml, hown, hts, hM, hX, hbl, hfl, hrt, hlk, hL⟩
  have hS : va_S (fun q : Nat => s.heap.size ≤ q) s.heap s.heap [] := va_S.rf
  have hP : va_P D vwCl [] s.heap := fun k q h => by simp at h
  have hD : va_D (fun q : Nat => s.heap.size ≤ q) [] := ⟨fun i j p q h => by simp at h, fun k q h => by simp at h⟩
  have hl := lv_entry ([.ref b]) (n := 7) (Nat.le_of_ble_eq_true rfl)
  rw [lg_entry_eq]
  generalize (lg_sl ([.ref b]) ++ List.replicate (7 - (lg_sl ([.ref b])).length) Slot.unset).toArray = ls at hl ⊢
  have hl : lv_has ls 7 [(0, .ref b)] := hl
  have hinX6 : ∀ w ∈ u_ws RX6 TX6 7, w ∈ wsL_law := fun w h => (ggL_law_X6_init w (by revert w; decide +kernel)).1
  refine nw_objI (C := RX6) (T := TX6) (N := 7) (ci := 5) (fs := [.null, .null, .null, .null, .null, .null, .null]) ⟨hx, hb, hml, hown, hts⟩ hM hAO hP hD hS hA hinX6 tyX6 tyX6_ok (hts (.classLink RL 8 RX6) (by decide +kernel)) (hts (.instantiable RX6 7) (by decide +kernel)) (hts (.initialized RX6) (by decide +kernel)) rfl (fun j9 hj9 => by rcases (show j9 = 0 ∨ j9 = 1 ∨ j9 = 2 ∨ j9 = 3 ∨ j9 = 4 ∨ j9 = 5 ∨ j9 = 6 by omega) with rfl | rfl | rfl | rfl | rfl | rfl | rfl <;> rfl) (fun q9 sz9 => c6_init l D tc zb q9 sz9) gL_law_X6_init rfl (hts (.methodLink RL 100 yX6_init) (by decide +kernel)) (hts (.initialized RX6) (by decide +kernel)) (hts (.instanceMethod yX6_init) (by decide +kernel)) rfl (by decide +kernel) ⟨Nat.le_of_ble_eq_true rfl, Nat.le_of_ble_eq_true rfl⟩ hl.1 (Nat.le_of_ble_eq_true rfl) dL_law_0 dL_law_3 dL_law_4 ⟨Nat.le_of_ble_eq_true rfl, Nat.le_of_ble_eq_true rfl⟩ (fun x0 as H locs hP hD hS => ?_)
  refine lv_astore_n (lv' := [(1, .ref x0), (0, .ref b)]) hx hb dL_law_7 rfl hl (by decide) rfl (fun ls hl => ?_)
  have hinX7 : ∀ w ∈ u_ws RX7 TX7 9, w ∈ wsL_law := fun w h => (ggL_law_X7_init w (by revert w; decide +kernel)).1
  refine nw_objI (C := RX7) (T := TX7) (N := 9) (ci := 6) (fs := [.int (nI 0), .null, .null, .null, .int (nI 0), .null, .null, .null, .int (nI 0)]) ⟨hx, hb, hml, hown, hts⟩ hM hAO hP hD hS hA hinX7 tyX7 tyX7_ok (hts (.classLink RL 101 RX7) (by decide +kernel)) (hts (.instantiable RX7 9) (by decide +kernel)) (hts (.initialized RX7) (by decide +kernel)) rfl (fun j9 hj9 => by rcases (show j9 = 0 ∨ j9 = 1 ∨ j9 = 2 ∨ j9 = 3 ∨ j9 = 4 ∨ j9 = 5 ∨ j9 = 6 ∨ j9 = 7 ∨ j9 = 8 by omega) with rfl | rfl | rfl | rfl | rfl | rfl | rfl | rfl | rfl <;> rfl) (fun q9 sz9 => c7_init l D tc zb q9 sz9) gL_law_X7_init rfl (hts (.methodLink RL 103 yX7_init) (by decide +kernel)) (hts (.initialized RX7) (by decide +kernel)) (hts (.instanceMethod yX7_init) (by decide +kernel)) rfl (by decide +kernel) ⟨Nat.le_of_ble_eq_true rfl, Nat.le_of_ble_eq_true rfl⟩ hl.1 (Nat.le_of_ble_eq_true rfl) dL_law_8 dL_law_11 dL_law_12 ⟨Nat.le_of_ble_eq_true rfl, Nat.le_of_ble_eq_true rfl⟩ (fun q2 bs H locs hP hD hS => ?_)
  refine lv_astore_n (lv' := [(2, .ref q2), (1, .ref x0), (0, .ref b)]) hx hb dL_law_15 rfl hl (by decide) rfl (fun ls hl => ?_)
  refine lv_iconst (v := nI 1) hx hb dL_law_16 (by decide) ?_
  refine nw_newa (atype := .long) (ty := .long) (a0 := (1, .inr (.inl (fun _ => lN 0)))) (fun _ _ h9 => h9) hx hb (hts (.arrayClass .long) (by decide +kernel)) rfl hM.1 4 rfl hP hD hS hA (fun _ => rfl) (by decide) (by decide) (by decide) (by decide) (by decide) dL_law_17 (fun bo H hP hD hS => ?_)
  refine lv_astore_n (lv' := [(3, .ref bo), (2, .ref q2), (1, .ref x0), (0, .ref b)]) hx hb dL_law_19 rfl hl (by decide) rfl (fun ls hl => ?_)
  refine lv_iconst (v := nI 0) hx hb dL_law_20 (by decide) ?_
  refine lv_istore (lv' := [(4, .int (nI 0)), (3, .ref bo), (2, .ref q2), (1, .ref x0), (0, .ref b)]) hx hb dL_law_21 hl (by decide) rfl (fun ls hl => ?_)
  have hs9 := k_s0
  have hPz : va_P D vwCl (((CW tc x0 as (fun _ => nI 0) (fun _ => nI 0) (fun k => if k = 41 then 1 else if k = 59 then 4 else 0) (fun _ => nI 0) (fun _ => nI 0) (fun k => if k = 41 then 1 else if k = 59 then 4 else 0) 0 0 (fun _ _ => nI 0) (fun _ _ => nI 0) (fun _ => (fun k => if k = 41 then 1 else if k = 59 then 4 else 0)) (fun _ => nI 0) (fun _ => nI 0) (nI 0) (nI 0) (nI 0) (nI 0) (fun _ _ => nI 0) (fun _ _ => nI 0) (fun _ => (fun k => if k = 41 then 1 else if k = 59 then 4 else 0)) (fun _ => false) (fun _ => 0) 0) ++ [w_o tc bo (fun _ => lN 0)]) ++ (w_md tc q2 (bs 0) (bs 1) (bs 2) (bs 3) (bs 4) (bs 5) (nI 0) (fun k => if k = 41 then 1 else if k = 59 then 4 else 0) (fun _ => 0) (fun _ => 0) 0 (fun _ => 0) (fun _ => false) (fun _ => 0) 0)) H := by
    show va_P D vwCl _ H
    unfold w_md
    rw [hs9]
    exact hP.sub [0, 1, 2, 3, 4, 5, 6, 7, 8, 9, 10, 11, 12, 13, 14, 15, 16, 17, 18, 19, 20, 21, 22, 23, 24, 25, 26, 27, 28, 29, 30, 31, 32, 33, 34, 35, 36, 37, 38, 39, 40, 41, 42, 43, 44, 45, 46, 47, 48, 49, 50, 51, 52, 53, 54, 55, 56, 57, 58, 59, 60, 61, 62, 63, 71, 64, 65, 66, 67, 68, 69, 70] rfl
  have hDz : va_D (fun q : Nat => s.heap.size ≤ q) (((CW tc x0 as (fun _ => nI 0) (fun _ => nI 0) (fun k => if k = 41 then 1 else if k = 59 then 4 else 0) (fun _ => nI 0) (fun _ => nI 0) (fun k => if k = 41 then 1 else if k = 59 then 4 else 0) 0 0 (fun _ _ => nI 0) (fun _ _ => nI 0) (fun _ => (fun k => if k = 41 then 1 else if k = 59 then 4 else 0)) (fun _ => nI 0) (fun _ => nI 0) (nI 0) (nI 0) (nI 0) (nI 0) (fun _ _ => nI 0) (fun _ _ => nI 0) (fun _ => (fun k => if k = 41 then 1 else if k = 59 then 4 else 0)) (fun _ => false) (fun _ => 0) 0) ++ [w_o tc bo (fun _ => lN 0)]) ++ (w_md tc q2 (bs 0) (bs 1) (bs 2) (bs 3) (bs 4) (bs 5) (nI 0) (fun k => if k = 41 then 1 else if k = 59 then 4 else 0) (fun _ => 0) (fun _ => 0) 0 (fun _ => 0) (fun _ => false) (fun _ => 0) 0)) := by
    unfold w_md
    rw [hs9]
    exact hD.sub [0, 1, 2, 3, 4, 5, 6, 7, 8, 9, 10, 11, 12, 13, 14, 15, 16, 17, 18, 19, 20, 21, 22, 23, 24, 25, 26, 27, 28, 29, 30, 31, 32, 33, 34, 35, 36, 37, 38, 39, 40, 41, 42, 43, 44, 45, 46, 47, 48, 49, 50, 51, 52, 53, 54, 55, 56, 57, 58, 59, 60, 61, 62, 63, 71, 64, 65, 66, 67, 68, 69, 70] (by decide) rfl
  refine W.widen (k := 100) (n := 3000) (by decide) (by decide) ?_
  exact lw_loop l D tc zb x0 as q2 bs bo b L xs CC (L + 1) 0 100 3000 (fun _ => nI 0) (fun _ => nI 0) (fun k => if k = 41 then 1 else if k = 59 then 4 else 0) (fun _ => nI 0) (fun _ => nI 0) (fun k => if k = 41 then 1 else if k = 59 then 4 else 0) 0 0 (fun _ _ => nI 0) (fun _ _ => nI 0) (fun _ => (fun k => if k = 41 then 1 else if k = 59 then 4 else 0)) (fun _ => nI 0) (fun _ => nI 0) (nI 0) (nI 0) (nI 0) (nI 0) (fun _ _ => nI 0) (fun _ _ => nI 0) (fun _ => (fun k => if k = 41 then 1 else if k = 59 then 4 else 0)) (fun _ => false) (fun _ => 0) 0 (nI 0) (fun _ => 0) (fun _ => 0) (fun _ => 0) (fun _ => lN 0) (by omega) (by decide) (Nat.le_refl _) (Nat.le_refl _) ⟨k_ok0, k_R0, by decide, by decide, fun _ _ => ⟨k_ok0, k_R0⟩, hs_0, fun _ _ => ⟨k_ok0, k_R0⟩, fun _ _ h9 => (by cases h9), fun _ => (by show 0 < 256; decide), by decide⟩ _ _ hPz hDz hS _ hl
