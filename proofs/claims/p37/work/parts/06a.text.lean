/-- the class's text -/
abbrev w_tx (tc : Nat → ClassId) (t0 t1 : Nat) (u : Nat → Nat) (ln : Nat) : va_W := [(t0, .inr (4, [.ref t1, .int (nI ln)])), (t1, .inl (tc 1, 100, .inl (fun k => nI (u k))))]
def k_d1 (c : Nat) : Option Nat := if 48 ≤ c ∧ c ≤ 57 then some (c - 48) else none
def k_c1 (c : Nat) : Option Nat := if c = 42 then some 10 else k_d1 c
theorem k_d1_lt {c r : Nat} (h : k_d1 c = some r) : 48 ≤ c ∧ c ≤ 57 ∧ r ≤ 9 := by
  unfold k_d1 at h; split at h
  · cases h; omega
  · cases h
theorem k_d1_no {c : Nat} (h : k_d1 c = none) : ¬ (48 ≤ c ∧ c ≤ 57) := by
  unfold k_d1 at h; split at h
  · cases h
  · assumption
theorem k_c1_lt {c r : Nat} (h : k_c1 c = some r) : (48 ≤ c ∧ c ≤ 57 ∨ c = 42) ∧ r ≤ 10 := by
  unfold k_c1 at h; split at h
  · cases h; omega
  · have := k_d1_lt h; omega
theorem k_c1_no {c : Nat} (h : k_c1 c = none) : ¬ (48 ≤ c ∧ c ≤ 57 ∨ c = 42) := by
  unfold k_c1 at h; split at h
  · cases h
  · have := k_d1_no h; omega
theorem k_fq_3 {u : Nat → Nat} {n : Nat} (h : k_fq0 u n = none) : n ≤ 3 := by
  by_cases q : n ≤ 3
  · exact q
  · have := (k_fq0_all h 3 (by omega)).1; omega













