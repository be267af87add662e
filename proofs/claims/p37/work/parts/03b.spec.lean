/-! SPEC: the words in which both sides are told, over natural numbers. A state is a function g : Nat → Nat of 60 places, laid as the reference's row is: 0 how many, 1.. the triples, 41 the kept orders, 42 43 44 the costs, 45 asked, 46 how many are remembered, 47.. these, 59 the weight. -/
theorem byf_lt (j : Nat) : byf j < 3 := by
  by_cases h : j < 18
  · exact (show ∀ k, k < 18 → byf k < 3 by decide +kernel) j h
  · unfold byf
    have hl : byl[j]? = none := List.getElem?_eq_none (Nat.le_of_not_lt h)
    rw [List.getD_eq_getElem?_getD, hl]
    decide
/-- a question's digit, 10 where it is free -/
def k_dg (x c : Nat) : Nat := if c = 0 then x / 121 else if c = 1 then x / 11 % 11 else x % 11
def k_pt (t c : Nat) : Nat := if c = 0 then t / 100 else if c = 1 then t / 10 % 10 else t % 10
def k_un (c : Nat) : Nat := if c = 0 then 121 else if c = 1 then 11 else 1
theorem k_dg_le {x c : Nat} (h : x < 1331) : k_dg x c ≤ 10 := by unfold k_dg; split <;> (try split) <;> omega
theorem k_pt_le {t c : Nat} (h : t < 1000) : k_pt t c ≤ 9 := by unfold k_pt; split <;> (try split) <;> omega
theorem k_un_le (c : Nat) : k_un c ≤ 121 := by unfold k_un; split <;> (try split) <;> omega
/-- what a triple is in an order -/
def k_rk (t q : Nat) : Nat := 10 * (10 * (10 * 0 + k_pt t (byf (3 * q + 0))) + k_pt t (byf (3 * q + 1))) + k_pt t (byf (3 * q + 2))
def k_rch (x q : Nat) : Nat := if k_dg x (byf (3 * q + 0)) = 10 then 0 else if k_dg x (byf (3 * q + 1)) = 10 then 1 else if k_dg x (byf (3 * q + 2)) = 10 then 2 else 3
theorem k_rch_le (x q : Nat) : k_rch x q ≤ 3 := by unfold k_rch; split <;> (try split) <;> (try split) <;> omega
def k_f (x c : Nat) : Nat := if k_dg x c = 10 then 0 else 1
def k_bnd (x : Nat) : Nat := k_f x 0 + k_f x 1 + k_f x 2
theorem k_f_le (x c : Nat) : k_f x c ≤ 1 := by unfold k_f; split <;> omega
theorem k_bnd_le (x : Nat) : k_bnd x ≤ 3 := by have h0 := k_f_le x 0; have h1 := k_f_le x 1; have h2 := k_f_le x 2; unfold k_bnd; omega
/-- what is added to free the component at a place of an order -/
def k_fr (x q i : Nat) : Nat := k_un (byf (3 * q + i)) * (10 - k_dg x (byf (3 * q + i)))
/-- the question with what stands behind the reach r free -/
def k_red (x q r : Nat) : Nat := if r = 0 then x + k_fr x q 0 + k_fr x q 1 + k_fr x q 2 else if r = 1 then x + k_fr x q 1 + k_fr x q 2 else if r = 2 then x + k_fr x q 2 else x
def k_isA (x t : Nat) : Bool := decide ((k_dg x 0 = 10 ∨ k_dg x 0 = k_pt t 0) ∧ (k_dg x 1 = 10 ∨ k_dg x 1 = k_pt t 1) ∧ (k_dg x 2 = 10 ∨ k_dg x 2 = k_pt t 2))
/-- how many of the first n answer -/
def k_cn (g : Nat → Nat) (x : Nat) : Nat → Nat
  | 0 => 0
  | n + 1 => k_cn g x n + if k_isA x (g (1 + n)) = true then 1 else 0
theorem k_cn_le (g : Nat → Nat) (x : Nat) : ∀ n, k_cn g x n ≤ n
  | 0 => Nat.le_refl 0
  | n + 1 => by have h := k_cn_le g x n; rw [k_cn]; split <;> omega
def k_cnt (g : Nat → Nat) (x : Nat) : Nat := k_cn g x (g 0)
theorem k_cnt_le (g : Nat → Nat) (x : Nat) : k_cnt g x ≤ g 0 := k_cn_le g x _
/-- the least k with 2^k above n, for n up to 40 -/
def k_lk (n : Nat) : Nat := if n < 1 then 0 else if n < 2 then 1 else if n < 4 then 2 else if n < 8 then 3 else if n < 16 then 4 else if n < 32 then 5 else 6
theorem k_lk_le (n : Nat) : k_lk n ≤ 6 := by unfold k_lk; (repeat' split) <;> omega
theorem k_lk_c (n k : Nat) (hn : n ≤ 40) (hk : k ≤ 6) (h1 : k = 0 ∨ 2 ^ (k - 1) ≤ n) (h2 : n < 2 ^ k) : k_lk n = k := by
  unfold k_lk
  rcases (show k = 0 ∨ k = 1 ∨ k = 2 ∨ k = 3 ∨ k = 4 ∨ k = 5 ∨ k = 6 by omega) with rfl | rfl | rfl | rfl | rfl | rfl | rfl <;> ((repeat' split) <;> omega)
/-- what a question costs by an order, as if it was kept -/
def k_cb (g : Nat → Nat) (x q : Nat) : Nat := if k_rch x q = 0 then g 0 else k_lk (g 0) + k_cnt g (k_red x q (k_rch x q))
theorem k_cb_le (g : Nat → Nat) (x q : Nat) : k_cb g x q ≤ g 0 + 6 := by
  unfold k_cb
  have h1 := k_cnt_le g (k_red x q (k_rch x q))
  have h2 := k_lk_le (g 0)
  split <;> omega
/-- whether a set of orders has the order q -/
def k_in (set q : Nat) : Bool := decide (set / 2 ^ q % 2 = 1)
theorem k_min {x y : Nat} (hx : x < 2 ^ 31) (hy : y < 2 ^ 31) : (if nI y < nI x then nI y else nI x) = nI (min x y) := by
  by_cases h : y < x
  · rw [if_pos ((nI_ltI hy hx).mpr h), Nat.min_eq_right (Nat.le_of_lt h)]
  · rw [if_neg (fun q => h ((nI_ltI hy hx).mp q)), Nat.min_eq_left (Nat.le_of_not_lt h)]
theorem k_pow64 {q : Nat} (h : q < 6) : 2 ^ q < 64 := Nat.lt_of_le_of_lt (Nat.pow_le_pow_right (by decide) (show q ≤ 5 by omega)) (by decide)
theorem k_pow6 {q : Nat} (h : q < 6) : 2 ^ q ≤ 32 := Nat.le_trans (Nat.pow_le_pow_right (by decide) (show q ≤ 5 by omega)) (by decide)
/-- the class's state: an object, the row of its triples, the row of its questions. What is told of g in them: -/
abbrev w_st (tc : Nat → ClassId) (a a1 a2 : Nat) (tr qs : Nat → Int32) (g : Nat → Nat) : va_W := [(a, .inr (3, [.ref a1, .int (nI (g 0)), .int (nI (g 41)), .int (nI (g 42)), .int (nI (g 43)), .int (nI (g 44)), .int (nI (g 45)), .ref a2, .int (nI (g 46)), .int (nI (g 59))])), (a1, .inl (tc 0, 40, .inl tr)), (a2, .inl (tc 0, 12, .inl qs))]
/-- a state that can be: what is counted keeps its bounds, no two triples are alike -/
def k_ok (g : Nat → Nat) : Prop := g 0 ≤ 40 ∧ g 41 < 64 ∧ g 46 ≤ 12 ∧ g 59 ≤ 99 ∧ (∀ i, i < g 0 → g (1 + i) < 1000) ∧ (∀ i, i < g 46 → g (47 + i) < 1331) ∧ (∀ i j, i < g 0 → j < g 0 → g (1 + i) = g (1 + j) → i = j)
def k_R (tr qs : Nat → Int32) (g : Nat → Nat) : Prop := (∀ i, i < g 0 → tr i = nI (g (1 + i))) ∧ (∀ i, i < g 46 → qs i = nI (g (47 + i)))
theorem k_red_lt {x q r : Nat} (hx : x < 1331) (hq : q < 6) : k_red x q r < 1331 := by
  rcases (show q = 0 ∨ q = 1 ∨ q = 2 ∨ q = 3 ∨ q = 4 ∨ q = 5 by omega) with rfl | rfl | rfl | rfl | rfl | rfl <;> simp [k_red, k_fr, byf, byl, k_un, k_dg] <;> (repeat' split) <;> omega
/-- the question with the component c bound to d too; none if it is bound to another digit -/
def k_bt (x c d : Nat) : Option Nat := if k_dg x c = d then some x else if k_dg x c = 10 then some (x - k_un c * (10 - d)) else none
theorem k_un10 {x c d : Nat} (hc : c < 3) (h : k_dg x c = 10) : k_un c * (10 - d) ≤ x := by
  rcases (show c = 0 ∨ c = 1 ∨ c = 2 by omega) with rfl | rfl | rfl <;> simp [k_un, k_dg] at h ⊢ <;> omega
theorem k_bt_lt {x c d y : Nat} (hx : x < 1331) (h : k_bt x c d = some y) : y < 1331 := by
  unfold k_bt at h
  split at h
  · cases h; exact hx
  · split at h
    · cases h; omega
    · cases h
/-- the place of a triple among the first n, none -/
def k_ix0 (g : Nat → Nat) (t : Nat) : Nat → Option Nat
  | 0 => none
  | n + 1 => match k_ix0 g t n with
    | some i => some i
    | none => if g (1 + n) = t then some n else none
def k_ix (g : Nat → Nat) (t : Nat) : Option Nat := k_ix0 g t (g 0)
theorem k_ix0_lt {g : Nat → Nat} {t : Nat} : ∀ {n r : Nat}, k_ix0 g t n = some r → r < n ∧ g (1 + r) = t
  | 0, r, h => by cases h
  | n + 1, r, h => by
    rw [k_ix0] at h
    cases h1 : k_ix0 g t n with
    | some i => rw [h1] at h; cases h; have h2 := k_ix0_lt h1; exact ⟨by omega, h2.2⟩
    | none =>
      rw [h1] at h
      by_cases h2 : g (1 + n) = t
      · rw [if_pos h2] at h; cases h; exact ⟨by omega, h2⟩
      · rw [if_neg h2] at h; cases h
theorem k_ix_lt {g : Nat → Nat} {t r : Nat} (h : k_ix g t = some r) : r < g 0 := (k_ix0_lt h).1
theorem k_ix0_mono {g : Nat → Nat} {t r i : Nat} (h : k_ix0 g t i = some r) : ∀ {n : Nat}, i ≤ n → k_ix0 g t n = some r
  | 0, hn => by have e : i = 0 := (by omega); subst e; exact h
  | n + 1, hn => by
    rcases Nat.lt_or_ge n i with q | q
    · have e : i = n + 1 := by omega
      subst e; exact h
    · rw [k_ix0, k_ix0_mono h q]
theorem k_ix_hit {g : Nat → Nat} {t i : Nat} (h : k_ix0 g t i = none) (h2 : g (1 + i) = t) (hi : i < g 0) : k_ix g t = some i := by
  refine k_ix0_mono (i := i + 1) ?_ hi
  rw [k_ix0, h]
  exact if_pos h2
/-- the least cost by the first orders of a set, or the full walk's -/
def k_mn (g : Nat → Nat) (x set : Nat) : Nat → Nat
  | 0 => g 0
  | q + 1 => if k_in set q = true then min (k_mn g x set q) (k_cb g x q) else k_mn g x set q
theorem k_mn_le (g : Nat → Nat) (x set : Nat) : ∀ n, k_mn g x set n ≤ g 0
  | 0 => Nat.le_refl _
  | n + 1 => by have h := k_mn_le g x set n; rw [k_mn]; split <;> omega
/-- the order that it is by, none by a full walk -/
def k_or (g : Nat → Nat) (x set : Nat) : Nat → Option Nat
  | 0 => none
  | q + 1 => if k_in set q = true ∧ k_cb g x q < k_mn g x set q then some q else k_or g x set q
/-- whether by q the answers come sorted by the component c next -/
def k_sb (x q c : Nat) : Bool := decide (k_rch x q < 3 ∧ k_rch x q = k_bnd x ∧ byf (3 * q + k_rch x q) = c)
def k_ms (g : Nat → Nat) (x c : Nat) : Nat → Option Nat
  | 0 => none
  | q + 1 => if k_in (g 41) q = true ∧ k_sb x q c = true then (match k_ms g x c q with
      | none => some (k_cb g x q)
      | some v => some (min v (k_cb g x q))) else k_ms g x c q
theorem k_ms_le {g : Nat → Nat} {x c : Nat} : ∀ {n v : Nat}, k_ms g x c n = some v → v ≤ g 0 + 6
  | 0, v, h => by cases h
  | n + 1, v, h => by
    rw [k_ms] at h
    have hc := k_cb_le g x n
    split at h
    · cases h1 : k_ms g x c n with
      | none => rw [h1] at h; cases h; exact hc
      | some w => rw [h1] at h; cases h; have h2 := k_ms_le h1; omega
    · exact k_ms_le h
/-- what a triple's place is sorted by: in an order, or as triples came -/
def k_ra (g : Nat → Nat) (qo : Option Nat) (i : Nat) : Nat := match qo with
  | none => i
  | some q => k_rk (g (1 + i)) q
theorem k_rk_lt {t q : Nat} (h : t < 1000) : k_rk t q < 1000 := by
  have h0 := k_pt_le (t := t) (c := byf (3 * q + 0)) h
  have h1 := k_pt_le (t := t) (c := byf (3 * q + 1)) h
  have h2 := k_pt_le (t := t) (c := byf (3 * q + 2)) h
  unfold k_rk; omega
theorem k_ra_lt {g : Nat → Nat} (hk : k_ok g) {qo : Option Nat} {i : Nat} (hi : i < g 0) : k_ra g qo i < 1000 := by
  cases qo with
  | none => have := hk.1; show i < 1000; omega
  | some q => exact k_rk_lt (hk.2.2.2.2.1 i hi)
/-- how many answers among the first n stand before the place j -/
def k_bf (g : Nat → Nat) (x : Nat) (qo : Option Nat) (j : Nat) : Nat → Nat
  | 0 => 0
  | i + 1 => k_bf g x qo j i + if k_isA x (g (1 + i)) = true ∧ k_ra g qo i < k_ra g qo j then 1 else 0
theorem k_bf_le (g : Nat → Nat) (x : Nat) (qo : Option Nat) (j : Nat) : ∀ n, k_bf g x qo j n ≤ n
  | 0 => Nat.le_refl 0
  | n + 1 => by have h := k_bf_le g x qo j n; rw [k_bf]; split <;> omega
theorem k_bf_lt (g : Nat → Nat) (x : Nat) (qo : Option Nat) (j : Nat) : ∀ n, j < n → k_bf g x qo j n < n
  | 0, h => absurd h (Nat.not_lt_zero _)
  | n + 1, h => by
    rw [k_bf]
    rcases Nat.lt_or_ge j n with q | q
    · have h1 := k_bf_lt g x qo j n q; split <;> omega
    · have e : j = n := by omega
      subst e
      rw [if_neg (fun h9 => Nat.lt_irrefl _ h9.2)]
      have := k_bf_le g x qo j j; omega
/-- the answer at a place, among the first n -/
def k_aa (g : Nat → Nat) (x : Nat) (qo : Option Nat) (pl : Nat) : Nat → Option Nat
  | 0 => none
  | n + 1 => match k_aa g x qo pl n with
    | some t => some t
    | none => if k_isA x (g (1 + n)) = true ∧ k_bf g x qo n (g 0) = pl then some (g (1 + n)) else none
theorem k_aa_mono {g : Nat → Nat} {x : Nat} {qo : Option Nat} {pl r i : Nat} (h : k_aa g x qo pl i = some r) : ∀ {n : Nat}, i ≤ n → k_aa g x qo pl n = some r
  | 0, hn => by have e : i = 0 := (by omega); subst e; exact h
  | n + 1, hn => by
    rcases Nat.lt_or_ge n i with q | q
    · have e : i = n + 1 := by omega
      subst e; exact h
    · rw [k_aa, k_aa_mono h q]
theorem k_aa_hit {g : Nat → Nat} {x : Nat} {qo : Option Nat} {pl i : Nat} (h : k_aa g x qo pl i = none) (h1 : k_isA x (g (1 + i)) = true) (h2 : k_bf g x qo i (g 0) = pl) (hi : i < g 0) : k_aa g x qo pl (g 0) = some (g (1 + i)) := by
  refine k_aa_mono (i := i + 1) ?_ hi
  rw [k_aa, h]
  exact if_pos ⟨h1, h2⟩
theorem k_aa_miss {g : Nat → Nat} {x : Nat} {qo : Option Nat} {pl i : Nat} (h : k_aa g x qo pl i = none) (h1 : ¬ (k_isA x (g (1 + i)) = true ∧ k_bf g x qo i (g 0) = pl)) : k_aa g x qo pl (i + 1) = none := by
  rw [k_aa, h]
  exact if_neg h1
theorem k_aa_big (g : Nat → Nat) (x : Nat) (qo : Option Nat) (pl : Nat) (h : g 0 ≤ pl) : ∀ n, n ≤ g 0 → k_aa g x qo pl n = none
  | 0, _ => rfl
  | n + 1, hn => k_aa_miss (k_aa_big g x qo pl h n (by omega)) (fun h9 => by have h8 := k_bf_lt g x qo n (g 0) (by omega); omega)
theorem k_lk_up {k n : Nat} (hk : k ≤ 6) (h : 2 ^ k ≤ n) (hn : n ≤ 40) : k + 1 ≤ 6 ∧ (k + 1 = 0 ∨ 2 ^ (k + 1 - 1) ≤ n) := by
  refine ⟨?_, Or.inr (by rw [Nat.add_sub_cancel]; omega)⟩
  rcases Nat.lt_or_ge k 6 with q | q
  · exact q
  · have e : k = 6 := by omega
    subst e
    omega
/-- the reference's own object: its fields, of which o tells what isn't the row s -/
abbrev w_ms (tc : Nat → ClassId) (b b1 : Nat) (o : Nat → Value) (g : Nat → Nat) : va_W := [(b, .inr (6, [o 0, .ref b1, o 2, o 3, o 4, o 5, o 6, o 7, o 8])), (b1, .inl (tc 0, 60, .inl (fun k => nI (g k))))]
def k_isU (x t : Nat) : Nat → Bool
  | 0 => true
  | c + 1 => k_isU x t c && (decide (k_dg x c = 10) || decide (k_dg x c = k_pt t c))
theorem k_isU3 (x t : Nat) : k_isU x t 3 = k_isA x t := by
  simp [k_isU, k_isA, Bool.decide_and, Bool.decide_or, Bool.and_assoc]
def k_pc (set : Nat) : Nat := set / 2 ^ 0 % 2 + set / 2 ^ 1 % 2 + set / 2 ^ 2 % 2 + set / 2 ^ 3 % 2 + set / 2 ^ 4 % 2 + set / 2 ^ 5 % 2
theorem k_pc_le (set : Nat) : k_pc set ≤ 6 := by unfold k_pc; omega
/-- whether one of the first k components of the order q is c -/
def k_isn (q c : Nat) : Nat → Bool
  | 0 => false
  | k + 1 => k_isn q c k || decide (byf (3 * q + k) = c)
/-- the digits of what is reached, by the components -/
def k_rd (x q r : Nat) : Nat → Nat
  | 0 => 0
  | c + 1 => 11 * k_rd x q r c + (if k_isn q c r = true then k_dg x c else 10)
theorem k_rd_lt {x q r : Nat} (hx : x < 1331) : ∀ c, c ≤ 3 → k_rd x q r c < 11 ^ c
  | 0, _ => Nat.zero_lt_one
  | c + 1, h => by
    have h1 := k_rd_lt (q := q) (r := r) hx c (by omega)
    have h2 := k_dg_le (x := x) (c := c) hx
    rw [k_rd, Nat.pow_succ]
    split <;> omega
theorem k_rd_red {x q r : Nat} (hx : x < 1331) (hq : q < 6) (hr : r ≤ 3) : k_rd x q r 3 = k_red x q r := by
  rcases (show q = 0 ∨ q = 1 ∨ q = 2 ∨ q = 3 ∨ q = 4 ∨ q = 5 by omega) with rfl | rfl | rfl | rfl | rfl | rfl <;> rcases (show r = 0 ∨ r = 1 ∨ r = 2 ∨ r = 3 by omega) with rfl | rfl | rfl | rfl <;> simp [k_rd, k_isn, k_red, k_fr, byf, byl, k_un, k_dg] <;> omega
theorem k_or_lt {g : Nat → Nat} {x set : Nat} : ∀ {n r : Nat}, k_or g x set n = some r → r < n ∧ k_cb g x r = k_mn g x set n
  | 0, r, h => by cases h
  | n + 1, r, h => by
    rw [k_or] at h
    split at h
    · rename_i h1
      cases h
      refine ⟨by omega, ?_⟩
      rw [k_mn, if_pos h1.1, Nat.min_eq_right (by omega)]
    · rename_i h1
      have h2 := k_or_lt h
      refine ⟨by omega, ?_⟩
      rw [k_mn, h2.2]
      split
      · rename_i h3
        rw [Nat.min_eq_left]
        exact Nat.le_of_not_lt fun q => h1 ⟨h3, q⟩
      · rfl
theorem k_or_none {g : Nat → Nat} {x set : Nat} : ∀ {n : Nat}, k_or g x set n = none → k_mn g x set n = g 0
  | 0, _ => rfl
  | n + 1, h => by
    rw [k_or] at h
    split at h
    · cases h
    · rename_i h1
      rw [k_mn]
      have h2 := k_or_none h
      split
      · rename_i h3
        rw [Nat.min_eq_left, h2]
        exact Nat.le_of_not_lt fun q => h1 ⟨h3, q⟩
      · exact h2
theorem k_ix_none {g : Nat → Nat} (hk : k_ok g) {t i : Nat} (hi : i < g 0) (h : g (1 + i) = t) : ∀ n, n ≤ i → k_ix0 g t n = none
  | 0, _ => rfl
  | n + 1, hn => by
    rw [k_ix0, k_ix_none hk hi h n (by omega)]
    refine if_neg fun q => ?_
    have := hk.2.2.2.2.2.2 n i (by omega) hi (by rw [q, h])
    omega
theorem k_ix_yes {g : Nat → Nat} (hk : k_ok g) {t i : Nat} (hi : i < g 0) (h : g (1 + i) = t) : k_ix0 g t (i + 1) = some i := by
  rw [k_ix0, k_ix_none hk hi h i (Nat.le_refl i)]
  exact if_pos h
theorem k_ix_no {g : Nat → Nat} {t i : Nat} (h : ¬ g (1 + i) = t) : k_ix0 g t (i + 1) = k_ix0 g t i := by
  rw [k_ix0]
  cases k_ix0 g t i with
  | some j => rfl
  | none => exact if_neg h
theorem k_bf_cn {g : Nat → Nat} {x j : Nat} : ∀ n, k_bf g x none j n = k_cn g x (min j n)
  | 0 => by rw [Nat.min_zero]; rfl
  | n + 1 => by
    rw [k_bf, k_bf_cn n]
    show k_cn g x (min j n) + (if k_isA x (g (1 + n)) = true ∧ n < j then 1 else 0) = _
    rcases Nat.lt_or_ge n j with q | q
    · rw [Nat.min_eq_right (Nat.le_of_lt q), Nat.min_eq_right (show n + 1 ≤ j from q), k_cn]
      simp [q]
    · rw [Nat.min_eq_left q, Nat.min_eq_left (show j ≤ n + 1 by omega), if_neg (fun h => by omega)]
      rfl
theorem k_bf_none {g : Nat → Nat} {x j : Nat} (h : j < g 0) : k_bf g x none j (g 0) = k_cn g x j := by
  rw [k_bf_cn, Nat.min_eq_left (Nat.le_of_lt h)]
theorem k_nlt64 {x y : Int64} (h : ¬ y < x) : x ≤ y := by
  rw [Int64.lt_iff_toInt_lt] at h
  rw [Int64.le_iff_toInt_le]
  omega
theorem k_le64 {x y : Int64} (h : x ≤ y) : ¬ y < x := by
  rw [Int64.le_iff_toInt_le] at h
  rw [Int64.lt_iff_toInt_lt]
  omega
def bcU (x y : Int32) : Int32 := (x.toUInt32 >>> (y.toUInt32 &&& Int32.toUInt32 31)).toInt32
def bc1 (i : Int32) : Int32 := i - (bcU i (nI 1) &&& 1431655765)
def bc2 (i : Int32) : Int32 := (i &&& 858993459) + (bcU i (nI 2) &&& 858993459)
def bc3 (i : Int32) : Int32 := (i + bcU i (nI 4)) &&& 252645135
def bc4 (i : Int32) : Int32 := i + bcU i (nI 8)
def bc5 (i : Int32) : Int32 := i + bcU i (nI 16)
theorem bc_ok : ∀ k, k < 64 → (bc5 (bc4 (bc3 (bc2 (bc1 (nI k))))) &&& nI 63) = nI (k_pc k) := by decide +kernel
