def u_at {α : Type} (f : Nat → α) (j : Nat) (x : α) : Nat → α := fun k => if k = j then x else f k
theorem u_at_eq {α : Type} {f : Nat → α} {j : Nat} {x : α} {k : Nat} (h : k = j) : u_at f j x k = x := if_pos h
theorem u_at_ne {α : Type} {f : Nat → α} {j : Nat} {x : α} {k : Nat} (h : ¬ k = j) : u_at f j x k = f k := if_neg h
/-- the remembered states of both sides: behind a push, behind a pop -/
def k_hsv (od n : Nat) (gi : Nat → Nat → Nat) (sv : Nat → Nat) : Prop := ∀ i, i < n → k_lik (gi ((od + i) % 14)) (fun k => sv (60 * i + k))
theorem hs_push {od n : Nat} {gi : Nat → Nat → Nat} {sv g : Nat → Nat} (hod : od < 14) (hn : n ≤ 14) (h : k_hsv od n gi sv) : k_hsv (k_od od n) (k_n1 n + 1) (u_at gi ((od + n) % 14) g) (k_rem sv n g) := by
  intro i hi k hk
  show k_rem sv n g (60 * i + k) = _
  unfold k_rem k_sv1 k_n1 k_win
  unfold k_n1 at hi
  by_cases q : n = 14
  · rw [if_pos q] at hi
    rw [show k_od od n = (od + 1) % 14 from if_pos q, if_pos q, if_pos q]
    by_cases e : i = 13
    · rw [if_pos (by omega), u_at_eq (by omega)]
      exact congrArg g (by omega)
    · rw [if_neg (by omega), if_pos (by omega), u_at_ne (by omega), show ((od + 1) % 14 + i) % 14 = (od + (i + 1)) % 14 by omega]
      have h1 := h (i + 1) (by omega) k hk
      rw [← h1]
      show sv _ = sv _
      congr 1; omega
  · rw [if_neg q] at hi
    rw [show k_od od n = od from if_neg q, if_neg q, if_neg q]
    by_cases e : i = n
    · rw [if_pos (by omega), u_at_eq (by rw [e])]
      exact congrArg g (by omega)
    · rw [if_neg (by omega), u_at_ne (by omega)]
      exact h i (by omega) k hk
theorem hs_pop {od n : Nat} {gi : Nat → Nat → Nat} {sv : Nat → Nat} (h : k_hsv od n gi sv) : k_hsv od (n - 1) gi sv := fun i hi => h i (by omega)
theorem hs_0 {od : Nat} {gi : Nat → Nat → Nat} {sv : Nat → Nat} : k_hsv od 0 gi sv := fun i hi => absurd hi (Nat.not_lt_zero i)
theorem lik_pop {od n : Nat} {gi : Nat → Nat → Nat} {sv g : Nat → Nat} (hn : 1 ≤ n) (h : k_hsv od n gi sv) : k_lik (gi ((od + (n - 1)) % 14)) (k_win sv g 0 (60 * (n - 1)) 60) := by
  intro k hk
  have h1 := h (n - 1) (by omega) k hk
  rw [← h1]
  unfold k_win
  rw [if_pos (by omega)]
  show sv _ = sv _
  congr 1
/-- the save slots of both sides -/
def k_ssv (gs : Nat → Nat → Nat) (iz : Nat → Bool) (sl : Nat → Nat) : Prop := ∀ s, s < 2 → iz s = true → k_lik (gs s) (fun k => sl (60 * s + k))
theorem ss_save {gs : Nat → Nat → Nat} {iz iz' : Nat → Bool} {sl g : Nat → Nat} {j : Nat} (hj : j < 2) (hz : ∀ s, ¬ s = j → iz' s = iz s) (h : k_ssv gs iz sl) : k_ssv (u_at gs j g) iz' (k_win g sl (60 * j) 0 60) := by
  intro s hs hi k hk
  show k_win g sl (60 * j) 0 60 (60 * s + k) = _
  unfold k_win
  by_cases e : s = j
  · rw [if_pos (by omega), u_at_eq e]; congr 1; omega
  · rw [if_neg (by omega), u_at_ne e]
    exact h s hs (by rw [← hz s e]; exact hi) k hk
theorem lik_rest {gs : Nat → Nat → Nat} {iz : Nat → Bool} {sl g : Nat → Nat} {j : Nat} (hj : j < 2) (hi : iz j = true) (h : k_ssv gs iz sl) : k_lik (gs j) (k_win sl g 0 (60 * j) 60) := by
  intro k hk
  have h1 := h j hj hi k hk
  rw [← h1]
  unfold k_win
  rw [if_pos (by omega)]
  show sl _ = sl _
  congr 1
/-- the class's whole world: its object, its text, the state, the copy, the history's ring, advice, the save slots -/
def CW (tc : Nat → ClassId) (x0 : Nat) (as : Nat → Nat) (tr : Nat → Int32) (qs : Nat → Int32) (g : Nat → Nat) (trc : Nat → Int32) (qsc : Nat → Int32) (gc : Nat → Nat) (od : Nat) (n : Nat) (tri : Nat → Nat → Int32) (qsi : Nat → Nat → Int32) (gi : Nat → Nat → Nat) (fc : Nat → Int32) (hc : Nat → Int32) (v1 : Int32) (v2 : Int32) (v3 : Int32) (v4 : Int32) (trs : Nat → Nat → Int32) (qss : Nat → Nat → Int32) (gs : Nat → Nat → Nat) (iz : Nat → Bool) (u : Nat → Nat) (ln : Nat) : va_W := [(x0, .inr (5, [.ref (as 0), .ref (as 2), .ref (as 5), .ref (as 8), .ref (as 52), .ref (as 55), .ref (as 59)])), ((as 0), .inr (4, [.ref (as 1), .int (nI ln)])), ((as 1), .inl (tc 1, 100, .inl (fun k => nI (u k)))), ((as 2), .inr (3, [.ref (as 3), .int (nI (g 0)), .int (nI (g 41)), .int (nI (g 42)), .int (nI (g 43)), .int (nI (g 44)), .int (nI (g 45)), .ref (as 4), .int (nI (g 46)), .int (nI (g 59))])), ((as 3), .inl (tc 0, 40, .inl tr)), ((as 4), .inl (tc 0, 12, .inl qs)), ((as 5), .inr (3, [.ref (as 6), .int (nI (gc 0)), .int (nI (gc 41)), .int (nI (gc 42)), .int (nI (gc 43)), .int (nI (gc 44)), .int (nI (gc 45)), .ref (as 7), .int (nI (gc 46)), .int (nI (gc 59))])), ((as 6), .inl (tc 0, 40, .inl trc)), ((as 7), .inl (tc 0, 12, .inl qsc)), ((as 8), .inr (1, [.ref (as 9), .int (nI od), .int (nI n)])), ((as 9), .inl (tc 5, 14, .inr (.inr (.inr (.inr (fun k9 => some (as (9 + (1 + 3 * k9))))))))), ((as 10), .inr (3, [.ref (as 11), .int (nI ((gi 0) 0)), .int (nI ((gi 0) 41)), .int (nI ((gi 0) 42)), .int (nI ((gi 0) 43)), .int (nI ((gi 0) 44)), .int (nI ((gi 0) 45)), .ref (as 12), .int (nI ((gi 0) 46)), .int (nI ((gi 0) 59))])), ((as 11), .inl (tc 0, 40, .inl (tri 0))), ((as 12), .inl (tc 0, 12, .inl (qsi 0))), ((as 13), .inr (3, [.ref (as 14), .int (nI ((gi 1) 0)), .int (nI ((gi 1) 41)), .int (nI ((gi 1) 42)), .int (nI ((gi 1) 43)), .int (nI ((gi 1) 44)), .int (nI ((gi 1) 45)), .ref (as 15), .int (nI ((gi 1) 46)), .int (nI ((gi 1) 59))])), ((as 14), .inl (tc 0, 40, .inl (tri 1))), ((as 15), .inl (tc 0, 12, .inl (qsi 1))), ((as 16), .inr (3, [.ref (as 17), .int (nI ((gi 2) 0)), .int (nI ((gi 2) 41)), .int (nI ((gi 2) 42)), .int (nI ((gi 2) 43)), .int (nI ((gi 2) 44)), .int (nI ((gi 2) 45)), .ref (as 18), .int (nI ((gi 2) 46)), .int (nI ((gi 2) 59))])), ((as 17), .inl (tc 0, 40, .inl (tri 2))), ((as 18), .inl (tc 0, 12, .inl (qsi 2))), ((as 19), .inr (3, [.ref (as 20), .int (nI ((gi 3) 0)), .int (nI ((gi 3) 41)), .int (nI ((gi 3) 42)), .int (nI ((gi 3) 43)), .int (nI ((gi 3) 44)), .int (nI ((gi 3) 45)), .ref (as 21), .int (nI ((gi 3) 46)), .int (nI ((gi 3) 59))])), ((as 20), .inl (tc 0, 40, .inl (tri 3))), ((as 21), .inl (tc 0, 12, .inl (qsi 3))), ((as 22), .inr (3, [.ref (as 23), .int (nI ((gi 4) 0)), .int (nI ((gi 4) 41)), .int (nI ((gi 4) 42)), .int (nI ((gi 4) 43)), .int (nI ((gi 4) 44)), .int (nI ((gi 4) 45)), .ref (as 24), .int (nI ((gi 4) 46)), .int (nI ((gi 4) 59))])), ((as 23), .inl (tc 0, 40, .inl (tri 4))), ((as 24), .inl (tc 0, 12, .inl (qsi 4))), ((as 25), .inr (3, [.ref (as 26), .int (nI ((gi 5) 0)), .int (nI ((gi 5) 41)), .int (nI ((gi 5) 42)), .int (nI ((gi 5) 43)), .int (nI ((gi 5) 44)), .int (nI ((gi 5) 45)), .ref (as 27), .int (nI ((gi 5) 46)), .int (nI ((gi 5) 59))])), ((as 26), .inl (tc 0, 40, .inl (tri 5))), ((as 27), .inl (tc 0, 12, .inl (qsi 5))), ((as 28), .inr (3, [.ref (as 29), .int (nI ((gi 6) 0)), .int (nI ((gi 6) 41)), .int (nI ((gi 6) 42)), .int (nI ((gi 6) 43)), .int (nI ((gi 6) 44)), .int (nI ((gi 6) 45)), .ref (as 30), .int (nI ((gi 6) 46)), .int (nI ((gi 6) 59))])), ((as 29), .inl (tc 0, 40, .inl (tri 6))), ((as 30), .inl (tc 0, 12, .inl (qsi 6))), ((as 31), .inr (3, [.ref (as 32), .int (nI ((gi 7) 0)), .int (nI ((gi 7) 41)), .int (nI ((gi 7) 42)), .int (nI ((gi 7) 43)), .int (nI ((gi 7) 44)), .int (nI ((gi 7) 45)), .ref (as 33), .int (nI ((gi 7) 46)), .int (nI ((gi 7) 59))])), ((as 32), .inl (tc 0, 40, .inl (tri 7))), ((as 33), .inl (tc 0, 12, .inl (qsi 7))), ((as 34), .inr (3, [.ref (as 35), .int (nI ((gi 8) 0)), .int (nI ((gi 8) 41)), .int (nI ((gi 8) 42)), .int (nI ((gi 8) 43)), .int (nI ((gi 8) 44)), .int (nI ((gi 8) 45)), .ref (as 36), .int (nI ((gi 8) 46)), .int (nI ((gi 8) 59))])), ((as 35), .inl (tc 0, 40, .inl (tri 8))), ((as 36), .inl (tc 0, 12, .inl (qsi 8))), ((as 37), .inr (3, [.ref (as 38), .int (nI ((gi 9) 0)), .int (nI ((gi 9) 41)), .int (nI ((gi 9) 42)), .int (nI ((gi 9) 43)), .int (nI ((gi 9) 44)), .int (nI ((gi 9) 45)), .ref (as 39), .int (nI ((gi 9) 46)), .int (nI ((gi 9) 59))])), ((as 38), .inl (tc 0, 40, .inl (tri 9))), ((as 39), .inl (tc 0, 12, .inl (qsi 9))), ((as 40), .inr (3, [.ref (as 41), .int (nI ((gi 10) 0)), .int (nI ((gi 10) 41)), .int (nI ((gi 10) 42)), .int (nI ((gi 10) 43)), .int (nI ((gi 10) 44)), .int (nI ((gi 10) 45)), .ref (as 42), .int (nI ((gi 10) 46)), .int (nI ((gi 10) 59))])), ((as 41), .inl (tc 0, 40, .inl (tri 10))), ((as 42), .inl (tc 0, 12, .inl (qsi 10))), ((as 43), .inr (3, [.ref (as 44), .int (nI ((gi 11) 0)), .int (nI ((gi 11) 41)), .int (nI ((gi 11) 42)), .int (nI ((gi 11) 43)), .int (nI ((gi 11) 44)), .int (nI ((gi 11) 45)), .ref (as 45), .int (nI ((gi 11) 46)), .int (nI ((gi 11) 59))])), ((as 44), .inl (tc 0, 40, .inl (tri 11))), ((as 45), .inl (tc 0, 12, .inl (qsi 11))), ((as 46), .inr (3, [.ref (as 47), .int (nI ((gi 12) 0)), .int (nI ((gi 12) 41)), .int (nI ((gi 12) 42)), .int (nI ((gi 12) 43)), .int (nI ((gi 12) 44)), .int (nI ((gi 12) 45)), .ref (as 48), .int (nI ((gi 12) 46)), .int (nI ((gi 12) 59))])), ((as 47), .inl (tc 0, 40, .inl (tri 12))), ((as 48), .inl (tc 0, 12, .inl (qsi 12))), ((as 49), .inr (3, [.ref (as 50), .int (nI ((gi 13) 0)), .int (nI ((gi 13) 41)), .int (nI ((gi 13) 42)), .int (nI ((gi 13) 43)), .int (nI ((gi 13) 44)), .int (nI ((gi 13) 45)), .ref (as 51), .int (nI ((gi 13) 46)), .int (nI ((gi 13) 59))])), ((as 50), .inl (tc 0, 40, .inl (tri 13))), ((as 51), .inl (tc 0, 12, .inl (qsi 13))), ((as 52), .inr (0, [.ref (as 53), .ref (as 54), .int v1, .int v2, .int v3, .int v4])), ((as 53), .inl (tc 0, 72, .inl fc)), ((as 54), .inl (tc 0, 12, .inl hc)), ((as 55), .inr (2, [.ref (as 56), .int (bI (iz 0))])), ((as 56), .inr (3, [.ref (as 57), .int (nI ((gs 0) 0)), .int (nI ((gs 0) 41)), .int (nI ((gs 0) 42)), .int (nI ((gs 0) 43)), .int (nI ((gs 0) 44)), .int (nI ((gs 0) 45)), .ref (as 58), .int (nI ((gs 0) 46)), .int (nI ((gs 0) 59))])), ((as 57), .inl (tc 0, 40, .inl (trs 0))), ((as 58), .inl (tc 0, 12, .inl (qss 0))), ((as 59), .inr (2, [.ref (as 60), .int (bI (iz 1))])), ((as 60), .inr (3, [.ref (as 61), .int (nI ((gs 1) 0)), .int (nI ((gs 1) 41)), .int (nI ((gs 1) 42)), .int (nI ((gs 1) 43)), .int (nI ((gs 1) 44)), .int (nI ((gs 1) 45)), .ref (as 62), .int (nI ((gs 1) 46)), .int (nI ((gs 1) 59))])), ((as 61), .inl (tc 0, 40, .inl (trs 1))), ((as 62), .inl (tc 0, 12, .inl (qss 1)))]
/-- the fields of the class's object -/
abbrev ofX (as : Nat → Nat) : Nat → Value := fun k9 => [Value.ref (as 0), .ref (as 2), .ref (as 5), .ref (as 8), .ref (as 52), .ref (as 55), .ref (as 59)].getD k9 .null
/-- what class and reference share -/
def INV (tr : Nat → Int32) (qs : Nat → Int32) (g : Nat → Nat) (od : Nat) (n : Nat) (tri : Nat → Nat → Int32) (qsi : Nat → Nat → Int32) (gi : Nat → Nat → Nat) (trs : Nat → Nat → Int32) (qss : Nat → Nat → Int32) (gs : Nat → Nat → Nat) (iz : Nat → Bool) (u : Nat → Nat) (ln : Nat) (sv : Nat → Nat) (sl : Nat → Nat) : Prop := k_ok g ∧ k_R tr qs g ∧ od < 14 ∧ n ≤ 14 ∧ (∀ k, k < 14 → k_ok (gi k) ∧ k_R (tri k) (qsi k) (gi k)) ∧ k_hsv od n gi sv ∧ (∀ s, s < 2 → k_ok (gs s) ∧ k_R (trs s) (qss s) (gs s)) ∧ k_ssv gs iz sl ∧ (∀ k, u k < 256) ∧ ln ≤ 100
/-- one call of the law that may throw: wrapper and reference agree -/
def ST (l : Launch) (D : va_G) (tc : Nat → ClassId) (zb x0 : Nat) (as : Nat → Nat) (b : Nat) (bs : Nat → Nat) (bo : Nat) (yL : MethodName) (wsL : List Cond) (avL : List Value) (yM : MethodName) (wsM : List Cond) (avM : List Value) (tr : Nat → Int32) (qs : Nat → Int32) (g : Nat → Nat) (trc : Nat → Int32) (qsc : Nat → Int32) (gc : Nat → Nat) (od : Nat) (n : Nat) (tri : Nat → Nat → Int32) (qsi : Nat → Nat → Int32) (gi : Nat → Nat → Nat) (fc : Nat → Int32) (hc : Nat → Int32) (v1 : Int32) (v2 : Int32) (v3 : Int32) (v4 : Int32) (trs : Nat → Nat → Int32) (qss : Nat → Nat → Int32) (gs : Nat → Nat → Nat) (iz : Nat → Bool) (u : Nat → Nat) (ln : Nat) (th : Int32) (ga : Nat → Nat) (sv : Nat → Nat) (sl : Nat → Nat) (fo : Nat → Int64) : Prop :=
  ∃ (tr' : Nat → Int32) (qs' : Nat → Int32) (g' : Nat → Nat) (trc' : Nat → Int32) (qsc' : Nat → Int32) (gc' : Nat → Nat) (od' : Nat) (n' : Nat) (tri' : Nat → Nat → Int32) (qsi' : Nat → Nat → Int32) (gi' : Nat → Nat → Nat) (fc' : Nat → Int32) (hc' : Nat → Int32) (v1' : Int32) (v2' : Int32) (v3' : Int32) (v4' : Int32) (trs' : Nat → Nat → Int32) (qss' : Nat → Nat → Int32) (gs' : Nat → Nat → Nat) (iz' : Nat → Bool) (u' : Nat → Nat) (ln' : Nat) (th' : Int32) (ga' : Nat → Nat) (sv' : Nat → Nat) (sl' : Nat → Nat) (fo' : Nat → Int64) (k : Nat) (bb : Int32) (fr lo : Nat), k < 3 ∧ fr ≤ 12 ∧ lo ≤ 560 ∧ IPn l yL wsL 12 560 1 6 D tc zb ((CW tc x0 as tr qs g trc qsc gc od n tri qsi gi fc hc v1 v2 v3 v4 trs qss gs iz u ln) ++ [w_o tc bo fo]) ((CW tc x0 as tr' qs' g' trc' qsc' gc' od' n' tri' qsi' gi' fc' hc' v1' v2' v3' v4' trs' qss' gs' iz' u' ln') ++ [w_o tc bo fo']) avL (some (.int (nI k))) ∧ IP l yM wsM fr lo D tc zb (w_md tc b (bs 0) (bs 1) (bs 2) (bs 3) (bs 4) (bs 5) th g ga sv n sl iz u ln) (w_md tc b (bs 0) (bs 1) (bs 2) (bs 3) (bs 4) (bs 5) th' g' ga' sv' n' sl' iz' u' ln') avM (some (.int bb)) ∧ th' = nI k ∧ (k = 0 → fo' 0 = bb.toInt64) ∧ (INV tr' qs' g' od' n' tri' qsi' gi' trs' qss' gs' iz' u' ln' sv' sl')
/-- one call of the law that does not throw -/
def ST0 (l : Launch) (D : va_G) (tc : Nat → ClassId) (zb x0 : Nat) (as : Nat → Nat) (b : Nat) (bs : Nat → Nat) (bo : Nat) (yX : MethodName) (wsX : List Cond) (avX : List Value) (yM : MethodName) (wsM : List Cond) (avM : List Value) (tr : Nat → Int32) (qs : Nat → Int32) (g : Nat → Nat) (trc : Nat → Int32) (qsc : Nat → Int32) (gc : Nat → Nat) (od : Nat) (n : Nat) (tri : Nat → Nat → Int32) (qsi : Nat → Nat → Int32) (gi : Nat → Nat → Nat) (fc : Nat → Int32) (hc : Nat → Int32) (v1 : Int32) (v2 : Int32) (v3 : Int32) (v4 : Int32) (trs : Nat → Nat → Int32) (qss : Nat → Nat → Int32) (gs : Nat → Nat → Nat) (iz : Nat → Bool) (u : Nat → Nat) (ln : Nat) (th : Int32) (ga : Nat → Nat) (sv : Nat → Nat) (sl : Nat → Nat) (fo : Nat → Int64) : Prop :=
  ∃ (tr' : Nat → Int32) (qs' : Nat → Int32) (g' : Nat → Nat) (trc' : Nat → Int32) (qsc' : Nat → Int32) (gc' : Nat → Nat) (od' : Nat) (n' : Nat) (tri' : Nat → Nat → Int32) (qsi' : Nat → Nat → Int32) (gi' : Nat → Nat → Nat) (fc' : Nat → Int32) (hc' : Nat → Int32) (v1' : Int32) (v2' : Int32) (v3' : Int32) (v4' : Int32) (trs' : Nat → Nat → Int32) (qss' : Nat → Nat → Int32) (gs' : Nat → Nat → Nat) (iz' : Nat → Bool) (u' : Nat → Nat) (ln' : Nat) (th' : Int32) (ga' : Nat → Nat) (sv' : Nat → Nat) (sl' : Nat → Nat) (fo' : Nat → Int64) (r : Int32) (fx lx fr lo : Nat), fx ≤ 12 ∧ lx ≤ 560 ∧ fr ≤ 12 ∧ lo ≤ 560 ∧ IP l yX wsX fx lx D tc zb (CW tc x0 as tr qs g trc qsc gc od n tri qsi gi fc hc v1 v2 v3 v4 trs qss gs iz u ln) (CW tc x0 as tr' qs' g' trc' qsc' gc' od' n' tri' qsi' gi' fc' hc' v1' v2' v3' v4' trs' qss' gs' iz' u' ln') avX (some (.int r)) ∧ IP l yM wsM fr lo D tc zb (w_md tc b (bs 0) (bs 1) (bs 2) (bs 3) (bs 4) (bs 5) th g ga sv n sl iz u ln) (w_md tc b (bs 0) (bs 1) (bs 2) (bs 3) (bs 4) (bs 5) th' g' ga' sv' n' sl' iz' u' ln') avM (some (.int r)) ∧ fo' = fo ∧ (INV tr' qs' g' od' n' tri' qsi' gi' trs' qss' gs' iz' u' ln' sv' sl')
theorem k_nat {p : Int32} {lo hi : Nat} (h : nI lo ≤ p ∧ p ≤ nI hi) (hl : lo < 2 ^ 31 := by decide) (hh : hi < 2 ^ 31 := by decide) : ∃ x : Nat, p = nI x ∧ lo ≤ x ∧ x ≤ hi := by
  obtain ⟨h1, h2⟩ := h
  rw [Int32.le_iff_toInt_le, nI_toInt hl] at h1
  rw [Int32.le_iff_toInt_le, nI_toInt hh] at h2
  refine ⟨p.toInt.toNat, Int32.toInt_inj.mp ?_, by omega, by omega⟩
  rw [nI_toInt (by omega)]
  omega
theorem k_pl {p : Int32} (h : ¬ p < 0) : ∃ x : Nat, p = nI x ∧ x < 2 ^ 31 := by
  have h1 : (0 : Int32) ≤ p := Int32.not_lt.mp h
  rw [Int32.le_iff_toInt_le] at h1
  have h0 : (0 : Int32).toInt = 0 := by decide
  have h2 := p.toInt_lt
  refine ⟨p.toInt.toNat, Int32.toInt_inj.mp ?_, by omega⟩
  rw [nI_toInt (by omega)]
  omega
theorem k_lnat {x : Int64} {hi : Nat} (h : lN 0 ≤ x ∧ x ≤ lN hi) (hh : hi < 2 ^ 63) : ∃ y : Nat, x = lN y ∧ y ≤ hi := by
  obtain ⟨h1, h2⟩ := h
  rw [Int64.le_iff_toInt_le, lN63 (by decide)] at h1
  rw [Int64.le_iff_toInt_le, lN63 hh] at h2
  refine ⟨x.toInt.toNat, Int64.toInt_inj.mp ?_, by omega⟩
  rw [lN63 (by omega)]
  omega
/-- two states alike in their places lie alike -/
theorem w_st_lik {tc : Nat → ClassId} {a a1 a2 : Nat} {tr qs : Nat → Int32} {g g' : Nat → Nat} (h : k_lik g g') : w_st tc a a1 a2 tr qs g' = w_st tc a a1 a2 tr qs g := by
  unfold w_st
  rw [h 0 (by decide), h 41 (by decide), h 42 (by decide), h 43 (by decide), h 44 (by decide), h 45 (by decide), h 46 (by decide), h 59 (by decide)]
theorem CW_lik {tc : Nat → ClassId} {x0 : Nat} {as : Nat → Nat} {tr : Nat → Int32} {qs : Nat → Int32} {g : Nat → Nat} {trc : Nat → Int32} {qsc : Nat → Int32} {gc : Nat → Nat} {od : Nat} {n : Nat} {tri : Nat → Nat → Int32} {qsi : Nat → Nat → Int32} {gi : Nat → Nat → Nat} {fc : Nat → Int32} {hc : Nat → Int32} {v1 : Int32} {v2 : Int32} {v3 : Int32} {v4 : Int32} {trs : Nat → Nat → Int32} {qss : Nat → Nat → Int32} {gs : Nat → Nat → Nat} {iz : Nat → Bool} {u : Nat → Nat} {ln : Nat} {g' : Nat → Nat} (h : k_lik g g') : (CW tc x0 as tr qs g' trc qsc gc od n tri qsi gi fc hc v1 v2 v3 v4 trs qss gs iz u ln) = (CW tc x0 as tr qs g trc qsc gc od n tri qsi gi fc hc v1 v2 v3 v4 trs qss gs iz u ln) := by
  unfold CW
  rw [h 0 (by decide), h 41 (by decide), h 42 (by decide), h 43 (by decide), h 44 (by decide), h 45 (by decide), h 46 (by decide), h 59 (by decide)]
theorem u_at_all {α : Type} {f : Nat → α} {Q : Nat → α → Prop} {m j : Nat} {x : α} (h : ∀ k, k < m → Q k (f k)) (hx : Q j x) : ∀ k, k < m → Q k (u_at f j x k) := fun k hk => by
  by_cases e : k = j
  · rw [u_at_eq e, e]; exact hx
  · rw [u_at_ne e]; exact h k hk
theorem gi_push {tri qsi : Nat → Nat → Int32} {gi : Nat → Nat → Nat} {tr qs : Nat → Int32} {g : Nat → Nat} {j : Nat} (h : ∀ k, k < 14 → k_ok (gi k) ∧ k_R (tri k) (qsi k) (gi k)) (hk : k_ok g) (hR : k_R tr qs g) : ∀ k, k < 14 → k_ok (u_at gi j g k) ∧ k_R (u_at tri j (k_cp tr (tri j) (g 0)) k) (u_at qsi j (k_cp qs (qsi j) (g 46)) k) (u_at gi j g k) := fun k hk9 => by
  by_cases e : k = j
  · rw [u_at_eq e, u_at_eq e, u_at_eq e]; exact ⟨hk, R_cp hR⟩
  · rw [u_at_ne e, u_at_ne e, u_at_ne e]; exact h k hk9
theorem gs_save {trs qss : Nat → Nat → Int32} {gs : Nat → Nat → Nat} {tr qs : Nat → Int32} {g : Nat → Nat} {j : Nat} (h : ∀ k, k < 2 → k_ok (gs k) ∧ k_R (trs k) (qss k) (gs k)) (hk : k_ok g) (hR : k_R tr qs g) : ∀ k, k < 2 → k_ok (u_at gs j g k) ∧ k_R (u_at trs j (k_cp tr (trs j) (g 0)) k) (u_at qss j (k_cp qs (qss j) (g 46)) k) (u_at gs j g k) := fun k hk9 => by
  by_cases e : k = j
  · rw [u_at_eq e, u_at_eq e, u_at_eq e]; exact ⟨hk, R_cp hR⟩
  · rw [u_at_ne e, u_at_ne e, u_at_ne e]; exact h k hk9
