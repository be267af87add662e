set_option maxHeartbeats 4000000 in
set_option maxRecDepth 100000 in
theorem lw_loop {p : Program} {e : Env} {s : State} {m : MethodId} {below : List Frame} {meth : Method} {c : Code} (l : Launch) (D : va_G) (tc : Nat → ClassId) (zb x0 : Nat) (as : Nat → Nat) (b : Nat) (bs : Nat → Nat) (bo sb L : Nat) (xs : Nat → Int32) (C0 : lw_C p s m meth c l D tc zb sb L xs) : ∀ (n9 i cells slots : Nat) (tr : Nat → Int32) (qs : Nat → Int32) (g : Nat → Nat) (trc : Nat → Int32) (qsc : Nat → Int32) (gc : Nat → Nat) (od : Nat) (n : Nat) (tri : Nat → Nat → Int32) (qsi : Nat → Nat → Int32) (gi : Nat → Nat → Nat) (fc : Nat → Int32) (hc : Nat → Int32) (v1 : Int32) (v2 : Int32) (v3 : Int32) (v4 : Int32) (trs : Nat → Nat → Int32) (qss : Nat → Nat → Int32) (gs : Nat → Nat → Nat) (iz : Nat → Bool) (u : Nat → Nat) (ln : Nat) (th : Int32) (ga : Nat → Nat) (sv : Nat → Nat) (sl : Nat → Nat) (fo : Nat → Int64), L - i < n9 → i ≤ 4000 → cells ≤ 100 + i → slots ≤ 3000 + 6 * i → INV tr qs g od n tri qsi gi trs qss gs iz u ln sv sl → ∀ (H : Heap) (locs : List Loc), va_P D vwCl (((CW tc x0 as tr qs g trc qsc gc od n tri qsi gi fc hc v1 v2 v3 v4 trs qss gs iz u ln) ++ [w_o tc bo fo]) ++ (w_md tc b (bs 0) (bs 1) (bs 2) (bs 3) (bs 4) (bs 5) th g ga sv n sl iz u ln)) H → va_D (fun q => s.heap.size ≤ q) (((CW tc x0 as tr qs g trc qsc gc od n tri qsi gi fc hc v1 v2 v3 v4 trs qss gs iz u ln) ++ [w_o tc bo fo]) ++ (w_md tc b (bs 0) (bs 1) (bs 2) (bs 3) (bs 4) (bs 5) th g ga sv n sl iz u ln)) → va_S (fun q => s.heap.size ≤ q) s.heap H locs → ∀ ls : Array Slot, lv_has ls 7 [(4, .int (nI i)), (3, .ref bo), (2, .ref b), (1, .ref x0), (0, .ref sb)] → W p l e room_1 s m #[Value.ref sb] below meth c H locs cells slots (lw_Z below #[Value.ref sb] s) (F0 m 23 ls []) := by
  obtain ⟨hx, hb, hml, hown, hts, hM, hX, hbl, hfl, hrt, hlk, hL⟩ := id C0
  have hbA : ¬ (fun q : Nat => s.heap.size ≤ q) sb := Nat.not_le.mpr hbl
  have hL31 : L < 2 ^ 31 := Nat.lt_of_le_of_lt hL (by decide)
  intro n9
  induction n9 with
  | zero => intro i cells slots tr qs g trc qsc gc od n tri qsi gi fc hc v1 v2 v3 v4 trs qss gs iz u ln th ga sv sl fo hmu; exact absurd hmu (Nat.not_lt_zero _)
  | succ n9 ih =>
    intro i cells slots tr qs g trc qsc gc od n tri qsi gi fc hc v1 v2 v3 v4 trs qss gs iz u ln th ga sv sl fo hmu hi0 hce hsl hinv H locs hP hD hS ls hl
    refine lv_iload hx hb dL_law_23 (lv_at hl 0 rfl) ?_
    refine lv_aload_n hx hb dL_law_25 rfl (lv_at hl 4 rfl) ?_
    refine va_slen hx hb hX hbl hbA hS dL_law_26 ?_
    refine W.eq (g2 := F0 m 27 ls [.int (nI L), .int (nI i)]) rfl ?_
    refine lv_bipush (v := nI 6) hx hb dL_law_27 (by decide) ?_
    refine ln_isubZ hx hb dL_law_29 ?_
    refine ln_icmp_gtZ (x := ((i : Nat) : Int)) (y := ((L : Nat) : Int) - ((6 : Nat) : Int)) (tgt := 1986) hx hb dL_law_30 (by decide) (zI_nat _).symm rfl (by omega) (by omega) (by omega) (by omega) (fun h1 => ?_) (fun h1 => ?_)
    · refine lv_iconst (v := nI 1) hx hb dL_law_1986 (by decide) ?_
      refine va_forget (fun q hq => hS.2.2 q hq) ?_
      refine W.widen (k := 601024) (n := 7293033) (by omega) (by omega) ?_
      exact lw_ret hx hb hrt hlk dL_law_1987
    · have hi6 : i + 6 ≤ L := by omega
      refine lv_aload_n hx hb dL_law_33 rfl (lv_at hl 4 rfl) ?_
      refine lv_iload hx hb dL_law_34 (lv_at hl 0 rfl) ?_
      refine lx_sld hx hb hX hbl hbA hS (by omega) hL31 dL_law_36 ?_
      refine lv_bipush (v := nI 63) hx hb dL_law_37 (by decide) ?_
      refine lv_iand hx hb dL_law_39 ?_
      obtain ⟨z, hz, hze⟩ := k_and63 (xs i)
      refine ln_eq (x' := nI z) hze ?_
      have kk : lw_K p l e s m below meth c D tc x0 as b bs bo sb i (cells + 1) (slots + 6) := by
        intro tr qs g trc qsc gc od n tri qsi gi fc hc v1 v2 v3 v4 trs qss gs iz u ln th ga sv sl fo hinv H locs hP hD hS ls hl
        refine lv_iinc (v := nI (i + 6)) (lv' := [(4, .int (nI (i + 6))), (3, .ref bo), (2, .ref b), (1, .ref x0), (0, .ref sb)]) hx hb dL_law_1980 hl (k := 0) rfl (nI_add i 6) (by decide) rfl (fun ls hl => ?_)
        refine lv_goto (tgt := 23) hx hb dL_law_1983 (by decide) ?_
        exact ih (i + 6) (cells + 1) (slots + 6) tr qs g trc qsc gc od n tri qsi gi fc hc v1 v2 v3 v4 trs qss gs iz u ln th ga sv sl fo (by omega) (by omega) (by omega) (by omega) hinv _ _ hP hD hS _ hl
      rcases (show z = 0 ∨ z = 1 ∨ z = 2 ∨ z = 3 ∨ z = 4 ∨ z = 5 ∨ z = 6 ∨ z = 7 ∨ z = 8 ∨ z = 9 ∨ z = 10 ∨ z = 11 ∨ z = 12 ∨ z = 13 ∨ z = 14 ∨ z = 15 ∨ z = 16 ∨ z = 17 ∨ z = 18 ∨ z = 19 ∨ z = 20 ∨ z = 21 ∨ z = 22 ∨ z = 23 ∨ z = 24 ∨ z = 25 ∨ z = 26 ∨ z = 27 ∨ z = 28 ∨ z = 29 ∨ z = 30 ∨ z = 31 ∨ z = 32 ∨ z = 33 ∨ 33 < z by omega) with rfl | rfl | rfl | rfl | rfl | rfl | rfl | rfl | rfl | rfl | rfl | rfl | rfl | rfl | rfl | rfl | rfl | rfl | rfl | rfl | rfl | rfl | rfl | rfl | rfl | rfl | rfl | rfl | rfl | rfl | rfl | rfl | rfl | rfl | hz9
      · refine lv_tableIn (off := 152) (tgt := 192) hx hb dL_law_40 (by decide) (by decide) (by decide) (by decide) ?_
        exact a_append l D tc zb x0 as b bs bo sb L xs i cells slots C0 kk hi6 (by omega) (by omega) tr qs g trc qsc gc od n tri qsi gi fc hc v1 v2 v3 v4 trs qss gs iz u ln th ga sv sl fo hinv H locs hP hD hS ls hl
      · refine lv_tableIn (off := 208) (tgt := 248) hx hb dL_law_40 (by decide) (by decide) (by decide) (by decide) ?_
        exact a_clearText l D tc zb x0 as b bs bo sb L xs i cells slots C0 kk hi6 (by omega) (by omega) tr qs g trc qsc gc od n tri qsi gi fc hc v1 v2 v3 v4 trs qss gs iz u ln th ga sv sl fo hinv H locs hP hD hS ls hl
      · refine lv_tableIn (off := 221) (tgt := 261) hx hb dL_law_40 (by decide) (by decide) (by decide) (by decide) ?_
        exact a_errorPosition l D tc zb x0 as b bs bo sb L xs i cells slots C0 kk hi6 (by omega) (by omega) tr qs g trc qsc gc od n tri qsi gi fc hc v1 v2 v3 v4 trs qss gs iz u ln th ga sv sl fo hinv H locs hP hD hS ls hl
      · refine lv_tableIn (off := 262) (tgt := 302) hx hb dL_law_40 (by decide) (by decide) (by decide) (by decide) ?_
        exact a_question l D tc zb x0 as b bs bo sb L xs i cells slots C0 kk hi6 (by omega) (by omega) tr qs g trc qsc gc od n tri qsi gi fc hc v1 v2 v3 v4 trs qss gs iz u ln th ga sv sl fo hinv H locs hP hD hS ls hl
      · refine lv_tableIn (off := 306) (tgt := 346) hx hb dL_law_40 (by decide) (by decide) (by decide) (by decide) ?_
        exact a_about l D tc zb x0 as b bs bo sb L xs i cells slots C0 kk hi6 (by omega) (by omega) tr qs g trc qsc gc od n tri qsi gi fc hc v1 v2 v3 v4 trs qss gs iz u ln th ga sv sl fo hinv H locs hP hD hS ls hl
      · refine lv_tableIn (off := 362) (tgt := 402) hx hb dL_law_40 (by decide) (by decide) (by decide) (by decide) ?_
        exact a_triple l D tc zb x0 as b bs bo sb L xs i cells slots C0 kk hi6 (by omega) (by omega) tr qs g trc qsc gc od n tri qsi gi fc hc v1 v2 v3 v4 trs qss gs iz u ln th ga sv sl fo hinv H locs hP hD hS ls hl
      · refine lv_tableIn (off := 430) (tgt := 470) hx hb dL_law_40 (by decide) (by decide) (by decide) (by decide) ?_
        exact a_remembered l D tc zb x0 as b bs bo sb L xs i cells slots C0 kk hi6 (by omega) (by omega) tr qs g trc qsc gc od n tri qsi gi fc hc v1 v2 v3 v4 trs qss gs iz u ln th ga sv sl fo hinv H locs hP hD hS ls hl
      · refine lv_tableIn (off := 486) (tgt := 526) hx hb dL_law_40 (by decide) (by decide) (by decide) (by decide) ?_
        exact a_weight l D tc zb x0 as b bs bo sb L xs i cells slots C0 kk hi6 (by omega) (by omega) tr qs g trc qsc gc od n tri qsi gi fc hc v1 v2 v3 v4 trs qss gs iz u ln th ga sv sl fo hinv H locs hP hD hS ls hl
      · refine lv_tableIn (off := 499) (tgt := 539) hx hb dL_law_40 (by decide) (by decide) (by decide) (by decide) ?_
        exact a_count l D tc zb x0 as b bs bo sb L xs i cells slots C0 kk hi6 (by omega) (by omega) tr qs g trc qsc gc od n tri qsi gi fc hc v1 v2 v3 v4 trs qss gs iz u ln th ga sv sl fo hinv H locs hP hD hS ls hl
      · refine lv_tableIn (off := 555) (tgt := 595) hx hb dL_law_40 (by decide) (by decide) (by decide) (by decide) ?_
        exact a_cost l D tc zb x0 as b bs bo sb L xs i cells slots C0 kk hi6 (by omega) (by omega) tr qs g trc qsc gc od n tri qsi gi fc hc v1 v2 v3 v4 trs qss gs iz u ln th ga sv sl fo hinv H locs hP hD hS ls hl
      · refine lv_tableIn (off := 623) (tgt := 663) hx hb dL_law_40 (by decide) (by decide) (by decide) (by decide) ?_
        exact a_by l D tc zb x0 as b bs bo sb L xs i cells slots C0 kk hi6 (by omega) (by omega) tr qs g trc qsc gc od n tri qsi gi fc hc v1 v2 v3 v4 trs qss gs iz u ln th ga sv sl fo hinv H locs hP hD hS ls hl
      · refine lv_tableIn (off := 679) (tgt := 719) hx hb dL_law_40 (by decide) (by decide) (by decide) (by decide) ?_
        exact a_reach l D tc zb x0 as b bs bo sb L xs i cells slots C0 kk hi6 (by omega) (by omega) tr qs g trc qsc gc od n tri qsi gi fc hc v1 v2 v3 v4 trs qss gs iz u ln th ga sv sl fo hinv H locs hP hD hS ls hl
      · refine lv_tableIn (off := 747) (tgt := 787) hx hb dL_law_40 (by decide) (by decide) (by decide) (by decide) ?_
        exact a_answer l D tc zb x0 as b bs bo sb L xs i cells slots C0 kk hi6 (by omega) (by omega) tr qs g trc qsc gc od n tri qsi gi fc hc v1 v2 v3 v4 trs qss gs iz u ln th ga sv sl fo hinv H locs hP hD hS ls hl
      · refine lv_tableIn (off := 815) (tgt := 855) hx hb dL_law_40 (by decide) (by decide) (by decide) (by decide) ?_
        exact a_pairs l D tc zb x0 as b bs bo sb L xs i cells slots C0 kk hi6 (by omega) (by omega) tr qs g trc qsc gc od n tri qsi gi fc hc v1 v2 v3 v4 trs qss gs iz u ln th ga sv sl fo hinv H locs hP hD hS ls hl
      · refine lv_tableIn (off := 907) (tgt := 947) hx hb dL_law_40 (by decide) (by decide) (by decide) (by decide) ?_
        exact a_joinCost l D tc zb x0 as b bs bo sb L xs i cells slots C0 kk hi6 (by omega) (by omega) tr qs g trc qsc gc od n tri qsi gi fc hc v1 v2 v3 v4 trs qss gs iz u ln th ga sv sl fo hinv H locs hP hD hS ls hl
      · refine lv_tableIn (off := 1027) (tgt := 1067) hx hb dL_law_40 (by decide) (by decide) (by decide) (by decide) ?_
        exact a_add l D tc zb x0 as b bs bo sb L xs i cells slots C0 kk hi6 (by omega) (by omega) tr qs g trc qsc gc od n tri qsi gi fc hc v1 v2 v3 v4 trs qss gs iz u ln th ga sv sl fo hinv H locs hP hD hS ls hl
      · refine lv_tableIn (off := 1083) (tgt := 1123) hx hb dL_law_40 (by decide) (by decide) (by decide) (by decide) ?_
        exact a_addAll l D tc zb x0 as b bs bo sb L xs i cells slots C0 kk hi6 (by omega) (by omega) tr qs g trc qsc gc od n tri qsi gi fc hc v1 v2 v3 v4 trs qss gs iz u ln th ga sv sl fo hinv H locs hP hD hS ls hl
      · refine lv_tableIn (off := 1127) (tgt := 1167) hx hb dL_law_40 (by decide) (by decide) (by decide) (by decide) ?_
        exact a_remove l D tc zb x0 as b bs bo sb L xs i cells slots C0 kk hi6 (by omega) (by omega) tr qs g trc qsc gc od n tri qsi gi fc hc v1 v2 v3 v4 trs qss gs iz u ln th ga sv sl fo hinv H locs hP hD hS ls hl
      · refine lv_tableIn (off := 1183) (tgt := 1223) hx hb dL_law_40 (by decide) (by decide) (by decide) (by decide) ?_
        exact a_ask l D tc zb x0 as b bs bo sb L xs i cells slots C0 kk hi6 (by omega) (by omega) tr qs g trc qsc gc od n tri qsi gi fc hc v1 v2 v3 v4 trs qss gs iz u ln th ga sv sl fo hinv H locs hP hD hS ls hl
      · refine lv_tableIn (off := 1239) (tgt := 1279) hx hb dL_law_40 (by decide) (by decide) (by decide) (by decide) ?_
        exact a_build l D tc zb x0 as b bs bo sb L xs i cells slots C0 kk hi6 (by omega) (by omega) tr qs g trc qsc gc od n tri qsi gi fc hc v1 v2 v3 v4 trs qss gs iz u ln th ga sv sl fo hinv H locs hP hD hS ls hl
      · refine lv_tableIn (off := 1295) (tgt := 1335) hx hb dL_law_40 (by decide) (by decide) (by decide) (by decide) ?_
        exact a_drop l D tc zb x0 as b bs bo sb L xs i cells slots C0 kk hi6 (by omega) (by omega) tr qs g trc qsc gc od n tri qsi gi fc hc v1 v2 v3 v4 trs qss gs iz u ln th ga sv sl fo hinv H locs hP hD hS ls hl
      · refine lv_tableIn (off := 1351) (tgt := 1391) hx hb dL_law_40 (by decide) (by decide) (by decide) (by decide) ?_
        exact a_tidy l D tc zb x0 as b bs bo sb L xs i cells slots C0 kk hi6 (by omega) (by omega) tr qs g trc qsc gc od n tri qsi gi fc hc v1 v2 v3 v4 trs qss gs iz u ln th ga sv sl fo hinv H locs hP hD hS ls hl
      · refine lv_tableIn (off := 1364) (tgt := 1404) hx hb dL_law_40 (by decide) (by decide) (by decide) (by decide) ?_
        exact a_setWeight l D tc zb x0 as b bs bo sb L xs i cells slots C0 kk hi6 (by omega) (by omega) tr qs g trc qsc gc od n tri qsi gi fc hc v1 v2 v3 v4 trs qss gs iz u ln th ga sv sl fo hinv H locs hP hD hS ls hl
      · refine lv_tableIn (off := 1420) (tgt := 1460) hx hb dL_law_40 (by decide) (by decide) (by decide) (by decide) ?_
        exact a_undo l D tc zb x0 as b bs bo sb L xs i cells slots C0 kk hi6 (by omega) (by omega) tr qs g trc qsc gc od n tri qsi gi fc hc v1 v2 v3 v4 trs qss gs iz u ln th ga sv sl fo hinv H locs hP hD hS ls hl
      · refine lv_tableIn (off := 1464) (tgt := 1504) hx hb dL_law_40 (by decide) (by decide) (by decide) (by decide) ?_
        exact a_value l D tc zb x0 as b bs bo sb L xs i cells slots C0 kk hi6 (by omega) (by omega) tr qs g trc qsc gc od n tri qsi gi fc hc v1 v2 v3 v4 trs qss gs iz u ln th ga sv sl fo hinv H locs hP hD hS ls hl
      · refine lv_tableIn (off := 1520) (tgt := 1560) hx hb dL_law_40 (by decide) (by decide) (by decide) (by decide) ?_
        exact a_advised l D tc zb x0 as b bs bo sb L xs i cells slots C0 kk hi6 (by omega) (by omega) tr qs g trc qsc gc od n tri qsi gi fc hc v1 v2 v3 v4 trs qss gs iz u ln th ga sv sl fo hinv H locs hP hD hS ls hl
      · refine lv_tableIn (off := 1533) (tgt := 1573) hx hb dL_law_40 (by decide) (by decide) (by decide) (by decide) ?_
        exact a_spare l D tc zb x0 as b bs bo sb L xs i cells slots C0 kk hi6 (by omega) (by omega) tr qs g trc qsc gc od n tri qsi gi fc hc v1 v2 v3 v4 trs qss gs iz u ln th ga sv sl fo hinv H locs hP hD hS ls hl
      · refine lv_tableIn (off := 1546) (tgt := 1586) hx hb dL_law_40 (by decide) (by decide) (by decide) (by decide) ?_
        exact a_needed l D tc zb x0 as b bs bo sb L xs i cells slots C0 kk hi6 (by omega) (by omega) tr qs g trc qsc gc od n tri qsi gi fc hc v1 v2 v3 v4 trs qss gs iz u ln th ga sv sl fo hinv H locs hP hD hS ls hl
      · refine lv_tableIn (off := 1559) (tgt := 1599) hx hb dL_law_40 (by decide) (by decide) (by decide) (by decide) ?_
        exact a_ifKept l D tc zb x0 as b bs bo sb L xs i cells slots C0 kk hi6 (by omega) (by omega) tr qs g trc qsc gc od n tri qsi gi fc hc v1 v2 v3 v4 trs qss gs iz u ln th ga sv sl fo hinv H locs hP hD hS ls hl
      · refine lv_tableIn (off := 1615) (tgt := 1655) hx hb dL_law_40 (by decide) (by decide) (by decide) (by decide) ?_
        exact a_bestSet l D tc zb x0 as b bs bo sb L xs i cells slots C0 kk hi6 (by omega) (by omega) tr qs g trc qsc gc od n tri qsi gi fc hc v1 v2 v3 v4 trs qss gs iz u ln th ga sv sl fo hinv H locs hP hD hS ls hl
      · refine lv_tableIn (off := 1628) (tgt := 1668) hx hb dL_law_40 (by decide) (by decide) (by decide) (by decide) ?_
        exact a_runScript l D tc zb x0 as b bs bo sb L xs i cells slots C0 kk hi6 (by omega) (by omega) tr qs g trc qsc gc od n tri qsi gi fc hc v1 v2 v3 v4 trs qss gs iz u ln th ga sv sl fo hinv H locs hP hD hS ls hl
      · refine lv_tableIn (off := 1728) (tgt := 1768) hx hb dL_law_40 (by decide) (by decide) (by decide) (by decide) ?_
        exact a_simulate l D tc zb x0 as b bs bo sb L xs i cells slots C0 kk hi6 (by omega) (by omega) tr qs g trc qsc gc od n tri qsi gi fc hc v1 v2 v3 v4 trs qss gs iz u ln th ga sv sl fo hinv H locs hP hD hS ls hl
      · refine lv_tableIn (off := 1828) (tgt := 1868) hx hb dL_law_40 (by decide) (by decide) (by decide) (by decide) ?_
        exact a_save l D tc zb x0 as b bs bo sb L xs i cells slots C0 kk hi6 (by omega) (by omega) tr qs g trc qsc gc od n tri qsi gi fc hc v1 v2 v3 v4 trs qss gs iz u ln th ga sv sl fo hinv H locs hP hD hS ls hl
      · refine lv_tableIn (off := 1884) (tgt := 1924) hx hb dL_law_40 (by decide) (by decide) (by decide) (by decide) ?_
        exact a_restore l D tc zb x0 as b bs bo sb L xs i cells slots C0 kk hi6 (by omega) (by omega) tr qs g trc qsc gc od n tri qsi gi fc hc v1 v2 v3 v4 trs qss gs iz u ln th ga sv sl fo hinv H locs hP hD hS ls hl
      · refine lv_tableOut (tgt := 1980) hx hb dL_law_40 (Or.inr (by rw [nI_toInt (by omega)]; omega)) (by decide) ?_
        exact W.widen (Nat.le_succ _) (Nat.le_add_right _ _) (kk tr qs g trc qsc gc od n tri qsi gi fc hc v1 v2 v3 v4 trs qss gs iz u ln th ga sv sl fo hinv H locs hP hD hS ls hl)
