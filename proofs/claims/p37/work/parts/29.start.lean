theorem k_ok0 : k_ok (fun k => if k = 41 then 1 else if k = 59 then 4 else 0) := by
  refine ⟨by decide, by decide, by decide, by decide, fun i hi => ?_, fun i hi => ?_, fun i j hi => ?_⟩
  · exact absurd hi (by show ¬ i < 0; omega)
  · exact absurd hi (by show ¬ i < 0; omega)
  · exact absurd hi (by show ¬ i < 0; omega)
theorem k_R0 {tr qs : Nat → Int32} : k_R tr qs (fun k => if k = 41 then 1 else if k = 59 then 4 else 0) := ⟨fun i hi => absurd hi (by show ¬ i < 0; omega), fun i hi => absurd hi (by show ¬ i < 0; omega)⟩
set_option maxHeartbeats 4000000 in
set_option maxRecDepth 100000 in
/-- the law, from its entry -/
theorem whole_start {p : Program} {e : Env} {s : State} {m : MethodId} {below : List Frame} {meth : Method} {c : Code} (l : Launch) (hflags : l.flags = flags0) {b L : Nat} {xs : Nat → Int32} (hL : L ≤ 260) (C0 : lw_At p s m meth c b L xs) : W p l e room_1 s m #[Value.ref b] below meth c s.heap [] 0 0 (lw_Z below #[Value.ref b] s) (entryFrame m ([Value.ref b] : List Value).toArray 12) := by
  obtain ⟨hx, hb, hrt, hml, hown, hts0, hX, hbl, hlk, hgv⟩ := id C0
  have hb : c.code = cL_law := hb
  have hown : s.vm.findClass RL = some m.cls := hown
  have hts : ∀ w ∈ wsL_law, w.before #[Value.ref b] s = true := fun w h => hts0 w (wsL_law_in w h)
  obtain ⟨D, tc, zb, hM, hAO⟩ := lw_amb hts0 hgv
  have hA : ∀ q : Nat, s.heap.size ≤ q → (fun q : Nat => s.heap.size ≤ q) q := fun _ h => h
  have CC : lw_C p s m meth c l D tc zb b L xs := ⟨hx, hb, hml, hown, hts, hM, hX, hbl, hrt, hlk, hL⟩
  have hS : va_S (fun q : Nat => s.heap.size ≤ q) s.heap s.heap [] := va_S.rf
  have hP : va_P D vwCl [] s.heap := fun k q h => by simp at h
  have hD : va_D (fun q : Nat => s.heap.size ≤ q) [] := ⟨fun i j p q h => by simp at h, fun k q h => by simp at h⟩
  have hl := lv_entry ([.ref b]) (n := 12) (Nat.le_of_ble_eq_true rfl)
  rw [lg_entry_eq]
  generalize (lg_sl ([.ref b]) ++ List.replicate (12 - (lg_sl ([.ref b])).length) Slot.unset).toArray = ls at hl ⊢
  have hl : lv_has ls 12 [(0, .ref b)] := hl
  have hinX6 : ∀ w ∈ u_ws RX6 TX6 7, w ∈ wsL_law := fun w h => (ggL_law_X6_init w (by revert w; decide +kernel)).1
  refine nw_objI (C := RX6) (T := TX6) (N := 7) (ci := 5) (fs := [.null, .null, .null, .null, .null, .null, .null]) ⟨hx, hb, hml, hown, hts⟩ hM hAO hP hD hS hA hinX6 tyX6 tyX6_ok (hts (.classLink RL 15 RX6) (by decide +kernel)) (hts (.instantiable RX6 7) (by decide +kernel)) (hts (.initialized RX6) (by decide +kernel)) rfl (fun j9 hj9 => by rcases (show j9 = 0 ∨ j9 = 1 ∨ j9 = 2 ∨ j9 = 3 ∨ j9 = 4 ∨ j9 = 5 ∨ j9 = 6 by omega) with rfl | rfl | rfl | rfl | rfl | rfl | rfl <;> rfl) (fun q9 sz9 => c6_init l D tc zb q9 sz9) gL_law_X6_init rfl (hts (.methodLink RL 97 yX6_init) (by decide +kernel)) (hts (.initialized RX6) (by decide +kernel)) (hts (.instanceMethod yX6_init) (by decide +kernel)) rfl (by decide +kernel) ⟨Nat.le_of_ble_eq_true rfl, Nat.le_of_ble_eq_true rfl⟩ hl.1 (Nat.le_of_ble_eq_true rfl) dL_law_0 dL_law_3 dL_law_4 ⟨Nat.le_of_ble_eq_true rfl, Nat.le_of_ble_eq_true rfl⟩ (fun x0 as H locs hP hD hS => ?_)
  refine lv_astore_n (lv' := [(1, .ref x0), (0, .ref b)]) hx hb dL_law_7 rfl hl (by decide) rfl (fun ls hl => ?_)
  refine lv_iconst (v := nI 0) hx hb dL_law_8 (by decide) ?_
  refine lv_istore_n (lv' := [(2, .int (nI 0)), (1, .ref x0), (0, .ref b)]) hx hb dL_law_9 rfl hl (by decide) rfl (fun ls hl => ?_)
  have hPz : va_P D vwCl (CW tc x0 as (fun _ => nI 0) (fun _ => nI 0) (fun k => if k = 41 then 1 else if k = 59 then 4 else 0) (fun _ => nI 0) (fun _ => nI 0) (fun k => if k = 41 then 1 else if k = 59 then 4 else 0) 0 0 (fun _ _ => nI 0) (fun _ _ => nI 0) (fun _ => (fun k => if k = 41 then 1 else if k = 59 then 4 else 0)) (fun _ => nI 0) (fun _ => nI 0) (nI 0) (nI 0) (nI 0) (nI 0) (fun _ _ => nI 0) (fun _ _ => nI 0) (fun _ => (fun k => if k = 41 then 1 else if k = 59 then 4 else 0)) (fun _ => false) (fun _ => 0) 0) H := hP.sub [0, 1, 2, 3, 4, 5, 6, 7, 8, 9, 10, 11, 12, 13, 14, 15, 16, 17, 18, 19, 20, 21, 22, 23, 24, 25, 26, 27, 28, 29, 30, 31, 32, 33, 34, 35, 36, 37, 38, 39, 40, 41, 42, 43, 44, 45, 46, 47, 48, 49, 50, 51, 52, 53, 54, 55, 56, 57, 58, 59, 60, 61, 62, 63] rfl
  have hDz : va_D (fun q : Nat => s.heap.size ≤ q) (CW tc x0 as (fun _ => nI 0) (fun _ => nI 0) (fun k => if k = 41 then 1 else if k = 59 then 4 else 0) (fun _ => nI 0) (fun _ => nI 0) (fun k => if k = 41 then 1 else if k = 59 then 4 else 0) 0 0 (fun _ _ => nI 0) (fun _ _ => nI 0) (fun _ => (fun k => if k = 41 then 1 else if k = 59 then 4 else 0)) (fun _ => nI 0) (fun _ => nI 0) (nI 0) (nI 0) (nI 0) (nI 0) (fun _ _ => nI 0) (fun _ _ => nI 0) (fun _ => (fun k => if k = 41 then 1 else if k = 59 then 4 else 0)) (fun _ => false) (fun _ => 0) 0) := hD.sub [0, 1, 2, 3, 4, 5, 6, 7, 8, 9, 10, 11, 12, 13, 14, 15, 16, 17, 18, 19, 20, 21, 22, 23, 24, 25, 26, 27, 28, 29, 30, 31, 32, 33, 34, 35, 36, 37, 38, 39, 40, 41, 42, 43, 44, 45, 46, 47, 48, 49, 50, 51, 52, 53, 54, 55, 56, 57, 58, 59, 60, 61, 62, 63] (by decide) rfl
  refine W.widen (k := 100) (n := 3000) (by decide) (by decide) ?_
  exact lw_loop l D tc zb x0 as b L xs CC 100 3000 (by decide) (by decide) (fun _ => nI 0) (fun _ => nI 0) (fun k => if k = 41 then 1 else if k = 59 then 4 else 0) (fun _ _ => nI 0) (fun _ _ => nI 0) (fun _ => (fun k => if k = 41 then 1 else if k = 59 then 4 else 0)) (fun _ => false) (fun _ => 0) 0 41 0 (fun _ => nI 0) (fun _ => nI 0) (fun k => if k = 41 then 1 else if k = 59 then 4 else 0) 0 0 (fun _ _ => nI 0) (fun _ _ => nI 0) (fun _ => (fun k => if k = 41 then 1 else if k = 59 then 4 else 0)) (fun _ => nI 0) (fun _ => nI 0) (nI 0) (nI 0) (nI 0) (nI 0) (by omega) (by omega) ⟨k_ok0, k_R0, by decide, by decide, fun _ _ => ⟨k_ok0, k_R0⟩⟩ _ _ hPz hDz hS _ hl
