/-! SPEC: advice. -/
def k_sm (g : Nat → Nat) (set : Nat) : Nat → Nat
  | 0 => 0
  | n + 1 => k_sm g set n + k_mn g (g (47 + n)) set 6
def k_sum (g : Nat → Nat) (set : Nat) : Nat := k_sm g set (g 46)
theorem k_sm_le {g : Nat → Nat} (h : g 0 ≤ 40) {set : Nat} : ∀ n, k_sm g set n ≤ 40 * n
  | 0 => Nat.le_refl _
  | n + 1 => by have h1 := k_sm_le h (set := set) n; have h2 := k_mn_le g (g (47 + n)) set 6; rw [k_sm]; omega
theorem k_sum_le {g : Nat → Nat} (hk : k_ok g) {set : Nat} : k_sum g set ≤ 480 := by
  have h1 := k_sm_le hk.1 (set := set) (g 46)
  have h2 := hk.2.2.1
  unfold k_sum; omega
def k_due (g : Nat → Nat) : Nat := g 59 * (k_lk (g 0) + 1)
theorem k_due_le {g : Nat → Nat} (hk : k_ok g) : k_due g ≤ 693 := by
  have h1 := hk.2.2.2.1
  have h2 := k_lk_le (g 0)
  unfold k_due
  exact Nat.le_trans (Nat.mul_le_mul h1 (show k_lk (g 0) + 1 ≤ 7 by omega)) (by decide)
/-- the gain, or the loss, of an order -/
def k_val (g : Nat → Nat) (q : Nat) : Int := ((k_sum g (g 41 &&& (63 ^^^ 2 ^ q)) : Nat) : Int) - ((k_sum g (g 41 ||| 2 ^ q) : Nat) : Int) - ((k_due g : Nat) : Int)
theorem k_val_bd {g : Nat → Nat} (hk : k_ok g) (q : Nat) : -2000 < k_val g q ∧ k_val g q < 2000 := by
  have h1 := k_sum_le hk (set := g 41 &&& (63 ^^^ 2 ^ q))
  have h2 := k_sum_le hk (set := g 41 ||| 2 ^ q)
  have h3 := k_due_le hk
  unfold k_val; omega
/-- the greatest gain above 0 among the first orders, and whose -/
def k_gt (g : Nat → Nat) : Nat → Int
  | 0 => 0
  | q + 1 => if k_in (g 41) q = false ∧ k_gt g q < k_val g q then k_val g q else k_gt g q
def k_go (g : Nat → Nat) : Nat → Option Nat
  | 0 => none
  | q + 1 => if k_in (g 41) q = false ∧ k_gt g q < k_val g q then some q else k_go g q
/-- the least loss below 0 among the first orders, and whose -/
def k_ls (g : Nat → Nat) : Nat → Int
  | 0 => 0
  | q + 1 => if k_in (g 41) q = true ∧ k_val g q < k_ls g q then k_val g q else k_ls g q
def k_lo (g : Nat → Nat) : Nat → Option Nat
  | 0 => none
  | q + 1 => if k_in (g 41) q = true ∧ k_val g q < k_ls g q then some q else k_lo g q
theorem k_go_lt {g : Nat → Nat} : ∀ {n r : Nat}, k_go g n = some r → r < n
  | 0, r, h => by cases h
  | n + 1, r, h => by
    rw [k_go] at h
    split at h
    · cases h; omega
    · have := k_go_lt h; omega
theorem k_lo_lt {g : Nat → Nat} : ∀ {n r : Nat}, k_lo g n = some r → r < n
  | 0, r, h => by cases h
  | n + 1, r, h => by
    rw [k_lo] at h
    split at h
    · cases h; omega
    · have := k_lo_lt h; omega
def m_tdy (g : Nat → Nat) : Nat → Nat := match k_go g 6 with
  | some q => m_bld g q
  | none => match k_lo g 6 with
    | some q => m_drp g q
    | none => g
/-- what tidy answers -/
def k_tv (g : Nat → Nat) : Option Nat := match k_go g 6 with
  | some q => some (10 + q)
  | none => k_lo g 6
theorem ok_tdy {g : Nat → Nat} (hk : k_ok g) : k_ok (m_tdy g) := by
  unfold m_tdy
  cases h : k_go g 6 with
  | some q => exact ok_bld hk (k_go_lt h)
  | none =>
    cases h2 : k_lo g 6 with
    | some q => exact ok_drp hk (k_lo_lt h2)
    | none => exact hk
theorem R_tdy {tr qs : Nat → Int32} {g : Nat → Nat} (hk : k_ok g) (h : k_R tr qs g) : k_R tr qs (m_tdy g) := by
  unfold m_tdy
  cases h1 : k_go g 6 with
  | some q => exact R_bld hk h
  | none =>
    cases h2 : k_lo g 6 with
    | some q => exact R_drp hk h
    | none => exact h
/-- whether a question has an order of the set among the first n that reaches all it binds -/
def k_hs (set x : Nat) : Nat → Bool
  | 0 => false
  | q + 1 => k_hs set x q || (k_in set q && decide (k_rch x q = k_bnd x))
def k_en0 (g : Nat → Nat) (set : Nat) : Nat → Bool
  | 0 => true
  | n + 1 => k_en0 g set n && k_hs set (g (47 + n)) 6
def k_en (g : Nat → Nat) (set : Nat) : Bool := k_en0 g set (g 46)
/-- the smallest set among the first n that is enough -/
def k_nd (g : Nat → Nat) : Nat → Option Nat
  | 0 => none
  | set + 1 => match k_nd g set with
    | none => if k_en g set = true then some set else none
    | some r => if k_en g set = true ∧ k_pc set < k_pc r then some set else some r
/-- what a set of orders would cost, with their upkeep -/
def k_ct (g : Nat → Nat) (set : Nat) : Nat := k_sum g set + k_pc set * k_due g
theorem k_ct_le {g : Nat → Nat} (hk : k_ok g) (set : Nat) : k_ct g set ≤ 4638 := by
  have h1 := k_sum_le hk (set := set)
  have h2 := Nat.mul_le_mul (k_pc_le set) (k_due_le hk)
  unfold k_ct; omega
def k_bm (g : Nat → Nat) : Nat → Nat
  | 0 => k_sum g 0
  | n + 1 => if k_ct g (n + 1) < k_bm g n then k_ct g (n + 1) else k_bm g n
def k_bs (g : Nat → Nat) : Nat → Nat
  | 0 => 0
  | n + 1 => if k_ct g (n + 1) < k_bm g n then n + 1 else k_bs g n
theorem k_bm_le {g : Nat → Nat} (hk : k_ok g) : ∀ n, k_bm g n ≤ 480
  | 0 => k_sum_le hk
  | n + 1 => by have h := k_bm_le hk n; rw [k_bm]; split <;> omega
theorem k_bs_le {g : Nat → Nat} : ∀ n, k_bs g n ≤ n
  | 0 => Nat.le_refl 0
  | n + 1 => by have h := k_bs_le (g := g) n; rw [k_bs]; split <;> omega
theorem k_nd_lt {g : Nat → Nat} : ∀ {n r : Nat}, k_nd g n = some r → r < n
  | 0, r, h => by cases h
  | n + 1, r, h => by
    rw [k_nd] at h
    cases h1 : k_nd g n with
    | none =>
      rw [h1] at h
      by_cases q : k_en g n = true
      · have h2 := (if_pos q).symm.trans h
        cases h2; omega
      · have h2 := (if_neg q).symm.trans h
        cases h2
    | some w =>
      rw [h1] at h
      have hw := k_nd_lt h1
      by_cases q : k_en g n = true ∧ k_pc n < k_pc w
      · have h2 := (if_pos q).symm.trans h
        cases h2; omega
      · have h2 := (if_neg q).symm.trans h
        cases h2; omega
