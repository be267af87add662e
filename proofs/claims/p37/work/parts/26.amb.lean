theorem lw_arr {s : State} {args : Array Value} {ty : FieldType} (hra : ∀ cA, s.vm.findClass ("[" ++ ty.toString) = some cA → va_RA s cA ty) (h : (Cond.arrayClass ty).before args s = true) : ∃ cA : ClassId, ArrOfT s cA ty ∧ va_RA s cA ty := by
  obtain ⟨cA, kA, comp, h1, h2, h3⟩ := Cond.arrayClass_spec h
  exact ⟨cA, fun n z => ⟨fun k h => (by cases h), kA, h2, comp, h3⟩, hra cA h1⟩
theorem lw_arrO {s : State} {args : Array Value} {C : String} (h : (Cond.arrayOver (.object C)).before args s = true) : ∃ cA : ClassId, ArrOfT s cA (.object C) ∧ va_RA s cA (.object C) := by
  obtain ⟨comp, cA, kA, hcomp, hidx, hk, hkind, hname⟩ := Cond.arrayOver_spec h
  exact ⟨cA, fun N z => ⟨(fun k h => by cases h), kA, hk, comp, hkind⟩, kA, comp, hk, hkind, hcomp, hname⟩
set_option maxHeartbeats 4000000 in
set_option maxRecDepth 100000 in
theorem lw_xamb {s : State} {b : Nat} (hts : ∀ w ∈ lw_tbl, w.before #[Value.ref b] s = true) : xamb s := by
  refine ⟨List.forall_mem_cons.mpr ⟨va_Nw.of rfl (hts _ (List.mem_append_right _ (List.mem_of_getElem? (i := 45) (by decide +kernel)))), List.forall_mem_cons.mpr ⟨va_Nw.of rfl (hts _ (List.mem_append_right _ (List.mem_of_getElem? (i := 46) (by decide +kernel)))), List.forall_mem_cons.mpr ⟨va_Nw.of rfl (hts _ (List.mem_append_right _ (List.mem_of_getElem? (i := 48) (by decide +kernel)))), List.forall_mem_cons.mpr ⟨va_Nw.of rfl (hts _ (List.mem_append_right _ (List.mem_of_getElem? (i := 49) (by decide +kernel)))), List.forall_mem_cons.mpr ⟨va_Nw.of rfl (hts _ (List.mem_append_right _ (List.mem_of_getElem? (i := 51) (by decide +kernel)))), List.forall_mem_cons.mpr ⟨va_Nw.of rfl (hts _ (List.mem_append_right _ (List.mem_of_getElem? (i := 53) (by decide +kernel)))), List.forall_mem_cons.mpr ⟨va_Nw.of rfl (hts _ (List.mem_append_right _ (List.mem_of_getElem? (i := 55) (by decide +kernel)))), List.forall_mem_cons.mpr ⟨va_Nw.of rfl (hts _ (List.mem_append_right _ (List.mem_of_getElem? (i := 57) (by decide +kernel)))), List.forall_mem_cons.mpr ⟨va_Nw.of rfl (hts _ (List.mem_append_right _ (List.mem_of_getElem? (i := 59) (by decide +kernel)))), List.forall_mem_cons.mpr ⟨va_Nw.of rfl (hts _ (List.mem_append_right _ (List.mem_of_getElem? (i := 61) (by decide +kernel)))), List.forall_mem_cons.mpr ⟨va_Nw.of rfl (hts _ (List.mem_append_right _ (List.mem_of_getElem? (i := 63) (by decide +kernel)))), List.forall_mem_cons.mpr ⟨va_Nw.of rfl (hts _ (List.mem_append_right _ (List.mem_of_getElem? (i := 64) (by decide +kernel)))), List.forall_mem_cons.mpr ⟨va_Nw.of rfl (hts _ (List.mem_append_right _ (List.mem_of_getElem? (i := 99) (by decide +kernel)))), (fun _ h9 => nomatch h9)⟩⟩⟩⟩⟩⟩⟩⟩⟩⟩⟩⟩⟩, List.forall_mem_cons.mpr ⟨va_Nw.of rfl (hts _ (List.mem_append_right _ (List.mem_of_getElem? (i := 26) (by decide +kernel)))), List.forall_mem_cons.mpr ⟨va_Nw.of rfl (hts _ (List.mem_append_right _ (List.mem_of_getElem? (i := 39) (by decide +kernel)))), List.forall_mem_cons.mpr ⟨va_Nw.of rfl (hts _ (List.mem_append_right _ (List.mem_of_getElem? (i := 95) (by decide +kernel)))), List.forall_mem_cons.mpr ⟨va_Nw.of rfl (hts _ (List.mem_append_right _ (List.mem_of_getElem? (i := 109) (by decide +kernel)))), List.forall_mem_cons.mpr ⟨va_Nw.of rfl (hts _ (List.mem_append_right _ (List.mem_of_getElem? (i := 134) (by decide +kernel)))), List.forall_mem_cons.mpr ⟨va_Nw.of rfl (hts _ (List.mem_append_right _ (List.mem_of_getElem? (i := 139) (by decide +kernel)))), (fun _ h9 => nomatch h9)⟩⟩⟩⟩⟩⟩, (fun _ h9 => nomatch h9), (fun _ h9 => nomatch h9), (fun _ h9 => nomatch h9)⟩
set_option maxHeartbeats 4000000 in
set_option maxRecDepth 100000 in
theorem lw_amb {s : State} {b : Nat} (hts : ∀ w ∈ lw_tbl, w.before #[Value.ref b] s = true) (hgv : (Jvm.Cond.and given_1 narrow_1).before #[Value.ref b] s = true) : ∃ (D : va_G) (tc : Nat → ClassId) (zb : Nat), amb D tc zb (fun q => s.heap.size ≤ q) s s.heap ∧ va_AO RX4 s := by
  have hs := flat_of_before _ hgv
  have hA : ∀ a : Nat, a < s.heap.size → ¬ (fun q : Nat => s.heap.size ≤ q) a := fun a h => Nat.not_le.mpr h
  have ht6 : ∀ w ∈ wsX6_init, w.before #[Value.ref b] s = true := fun w h => hts w (wsL_law_in w (ggL_law_X6_init w h).1)
  obtain ⟨c0, iS0, hKn0⟩ := u_known (C := RX0) (T := TX0) (N := 6) (n := 6) ht6 (by decide +kernel) (hts _ (List.mem_append_right _ (List.mem_of_getElem? (i := 108) (by decide +kernel))))
  obtain ⟨c1, iS1, hKn1⟩ := u_known (C := RX1) (T := TX1) (N := 3) (n := 3) ht6 (by decide +kernel) (hts _ (List.mem_append_right _ (List.mem_of_getElem? (i := 88) (by decide +kernel))))
  obtain ⟨c2, iS2, hKn2⟩ := u_known (C := RX3) (T := TX3) (N := 2) (n := 2) ht6 (by decide +kernel) (hts _ (List.mem_append_right _ (List.mem_of_getElem? (i := 133) (by decide +kernel))))
  obtain ⟨c3, iS3, hKn3⟩ := u_known (C := RX4) (T := TX4) (N := 10) (n := 10) ht6 (by decide +kernel) (hts _ (List.mem_append_right _ (List.mem_of_getElem? (i := 38) (by decide +kernel))))
  obtain ⟨c4, iS4, hKn4⟩ := u_known (C := RX5) (T := TX5) (N := 2) (n := 2) ht6 (by decide +kernel) (hts _ (List.mem_append_right _ (List.mem_of_getElem? (i := 25) (by decide +kernel))))
  obtain ⟨c5, iS5, hKn5⟩ := u_known (C := RX6) (T := TX6) (N := 7) (n := 7) ht6 (by decide +kernel) (hts _ (List.mem_append_right _ (List.mem_of_getElem? (i := 17) (by decide +kernel))))
  obtain ⟨dC, dI, hKc⟩ : ∃ (dC : Nat → ClassId) (dI : Nat → Nat → Nat), ∀ (k : Nat) (q : vw_C), vwCl[k]? = some q → u_Kn s q.1 q.2.1 q.2.2 (dC k) (dI k) := by
    refine ⟨fun k => match k with | 0 => c0 | 1 => c1 | 2 => c2 | 3 => c3 | 4 => c4 | _ => c5, fun k => match k with | 0 => iS0 | 1 => iS1 | 2 => iS2 | 3 => iS3 | 4 => iS4 | _ => iS5, ?_⟩
    intro k q hq
    match k, hq with
    | 0, hq => cases hq; exact hKn0
    | 1, hq => cases hq; exact hKn1
    | 2, hq => cases hq; exact hKn2
    | 3, hq => cases hq; exact hKn3
    | 4, hq => cases hq; exact hKn4
    | 5, hq => cases hq; exact hKn5
    | k + 6, hq => simp [vwCl] at hq
  obtain ⟨t_int, hT_int⟩ := lw_arr (ty := .int) (fun cA h => h) (hts _ (List.mem_append_right _ (List.mem_of_getElem? (i := 86) (by decide +kernel))))
  obtain ⟨t_char, hT_char⟩ := lw_arr (ty := .char) (fun cA h => h) (hts _ (List.mem_append_right _ (List.mem_of_getElem? (i := 36) (by decide +kernel))))
  have hAO : (Cond.arrayOver (.object "TripleWays$State")).before #[Value.ref b] s = true := (hts _ (List.mem_append_right _ (List.mem_of_getElem? (i := 94) (by decide +kernel))))
  obtain ⟨t_obj, hT_obj⟩ := lw_arrO hAO
  have hK : va_K (dC, dI) vwCl (TY (fun k => match k with | 0 => t_int | 1 => t_char | _ => t_obj)) s := by
    refine ⟨hKc, fun k q hq => ?_⟩
    match k, hq with
    | 0, hq => cases hq; exact hT_int
    | 1, hq => cases hq; exact hT_char
    | 2, hq => cases hq; exact hT_int
    | 3, hq => cases hq; exact hT_int
    | 4, hq => cases hq; exact hT_int
    | 5, hq => cases hq; exact hT_obj
    | k + 6, hq => simp [TY] at hq
  obtain ⟨zb, hz1, hz2⟩ := va_Tof (args := #[Value.ref b]) (s := s) (tm := .static "TripleWays$Numbers" "BY" "[I") (ty := .int) (N := 18) (f := fun j => .int (nI (byf j))) (A := fun q => s.heap.size ≤ q) (by decide) (hs _ (by decide +kernel)) (va_eqt (hs (.eq (.length (.static "TripleWays$Numbers" "BY" "[I")) (.int 18)) (by decide +kernel))) (fun j hj => by
    rcases (show j = 0 ∨ j = 1 ∨ j = 2 ∨ j = 3 ∨ j = 4 ∨ j = 5 ∨ j = 6 ∨ j = 7 ∨ j = 8 ∨ j = 9 ∨ j = 10 ∨ j = 11 ∨ j = 12 ∨ j = 13 ∨ j = 14 ∨ j = 15 ∨ j = 16 ∨ j = 17 by omega) with rfl | rfl | rfl | rfl | rfl | rfl | rfl | rfl | rfl | rfl | rfl | rfl | rfl | rfl | rfl | rfl | rfl | rfl
    · exact va_eqt (hs (.eq (.elem (.static "TripleWays$Numbers" "BY" "[I") (.int 0)) (.int 0)) (by decide +kernel))
    · exact va_eqt (hs (.eq (.elem (.static "TripleWays$Numbers" "BY" "[I") (.int 1)) (.int 1)) (by decide +kernel))
    · exact va_eqt (hs (.eq (.elem (.static "TripleWays$Numbers" "BY" "[I") (.int 2)) (.int 2)) (by decide +kernel))
    · exact va_eqt (hs (.eq (.elem (.static "TripleWays$Numbers" "BY" "[I") (.int 3)) (.int 0)) (by decide +kernel))
    · exact va_eqt (hs (.eq (.elem (.static "TripleWays$Numbers" "BY" "[I") (.int 4)) (.int 2)) (by decide +kernel))
    · exact va_eqt (hs (.eq (.elem (.static "TripleWays$Numbers" "BY" "[I") (.int 5)) (.int 1)) (by decide +kernel))
    · exact va_eqt (hs (.eq (.elem (.static "TripleWays$Numbers" "BY" "[I") (.int 6)) (.int 1)) (by decide +kernel))
    · exact va_eqt (hs (.eq (.elem (.static "TripleWays$Numbers" "BY" "[I") (.int 7)) (.int 0)) (by decide +kernel))
    · exact va_eqt (hs (.eq (.elem (.static "TripleWays$Numbers" "BY" "[I") (.int 8)) (.int 2)) (by decide +kernel))
    · exact va_eqt (hs (.eq (.elem (.static "TripleWays$Numbers" "BY" "[I") (.int 9)) (.int 1)) (by decide +kernel))
    · exact va_eqt (hs (.eq (.elem (.static "TripleWays$Numbers" "BY" "[I") (.int 10)) (.int 2)) (by decide +kernel))
    · exact va_eqt (hs (.eq (.elem (.static "TripleWays$Numbers" "BY" "[I") (.int 11)) (.int 0)) (by decide +kernel))
    · exact va_eqt (hs (.eq (.elem (.static "TripleWays$Numbers" "BY" "[I") (.int 12)) (.int 2)) (by decide +kernel))
    · exact va_eqt (hs (.eq (.elem (.static "TripleWays$Numbers" "BY" "[I") (.int 13)) (.int 0)) (by decide +kernel))
    · exact va_eqt (hs (.eq (.elem (.static "TripleWays$Numbers" "BY" "[I") (.int 14)) (.int 1)) (by decide +kernel))
    · exact va_eqt (hs (.eq (.elem (.static "TripleWays$Numbers" "BY" "[I") (.int 15)) (.int 2)) (by decide +kernel))
    · exact va_eqt (hs (.eq (.elem (.static "TripleWays$Numbers" "BY" "[I") (.int 16)) (.int 1)) (by decide +kernel))
    · exact va_eqt (hs (.eq (.elem (.static "TripleWays$Numbers" "BY" "[I") (.int 17)) (.int 0)) (by decide +kernel))) hA
  refine ⟨(dC, dI), _, zb, ⟨hK, va_Zref (hts _ (List.mem_append_right _ (List.mem_of_getElem? (i := 320) (by decide +kernel)))) (hts _ (List.mem_append_right _ (List.mem_of_getElem? (i := 14) (by decide +kernel)))) hz1 hA, hz2, vx_Zqof (hts _ (List.mem_append_right _ (List.mem_of_getElem? (i := 203) (by decide +kernel)))) (hts _ (List.mem_append_right _ (List.mem_of_getElem? (i := 7) (by decide +kernel)))) (hs _ (by decide +kernel)) hA, vx_Zqof (hts _ (List.mem_append_right _ (List.mem_of_getElem? (i := 205) (by decide +kernel)))) (hts _ (List.mem_append_right _ (List.mem_of_getElem? (i := 7) (by decide +kernel)))) (hs _ (by decide +kernel)) hA, lw_xamb hts⟩, va_AO.of hAO⟩
