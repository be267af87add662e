/-! SPEC: rows copied, the text, what is remembered. -/
/-- h with n places from d on taken from f, from s0 on -/
def k_win (f h : Nat → Nat) (d s0 n : Nat) : Nat → Nat := fun k => if d ≤ k ∧ k < d + n then f (s0 + (k - d)) else h k
theorem k_win_0 (f h : Nat → Nat) (d s0 : Nat) : k_win f h d s0 0 = h := by funext k; exact if_neg (fun h => by omega)
theorem k_win_1 {f h gf : Nat → Nat} {d s0 i x : Nat} (e : gf = k_win f h d s0 i) (hx : x = f (s0 + i)) : k_up gf (d + i) x = k_win f h d s0 (i + 1) := by
  subst e hx
  funext k
  simp only [k_up, k_win]
  by_cases q : k = d + i
  · rw [if_pos q, if_pos (by omega)]
    congr 1
    omega
  · rw [if_neg q]
    by_cases q2 : d ≤ k ∧ k < d + i
    · rw [if_pos q2, if_pos (by omega)]
    · rw [if_neg q2, if_neg (by omega)]
theorem k_win_in {f h : Nat → Nat} {d s0 n k : Nat} (h1 : d ≤ k) (h2 : k < d + n) : k_win f h d s0 n k = f (s0 + (k - d)) := if_pos ⟨h1, h2⟩
theorem k_win_out {f h : Nat → Nat} {d s0 n k : Nat} (h1 : k < d ∨ d + n ≤ k) : k_win f h d s0 n k = h k := if_neg (fun q => by omega)
/-- states alike in their 60 places -/
def k_lik (g g' : Nat → Nat) : Prop := ∀ k, k < 60 → g' k = g k
theorem ok_lik {g g' : Nat → Nat} (h : k_lik g g') (hk : k_ok g) : k_ok g' := by
  obtain ⟨h0, h1, h2, h3, h4, h5, h6⟩ := hk
  unfold k_ok
  rw [h 0 (by omega), h 41 (by omega), h 46 (by omega), h 59 (by omega)]
  refine ⟨h0, h1, h2, h3, fun i hi => by rw [h _ (by omega)]; exact h4 i hi, fun i hi => by rw [h _ (by omega)]; exact h5 i hi, fun i j hi hj e => h6 i j hi hj ?_⟩
  rw [h _ (by omega), h _ (by omega)] at e
  exact e
theorem R_lik {tr qs : Nat → Int32} {g g' : Nat → Nat} (h : k_lik g g') (hk : k_ok g) (hR : k_R tr qs g) : k_R tr qs g' := by
  have h0 := hk.1
  have h2 := hk.2.2.1
  exact R_same hR (h 0 (by omega)) (h 46 (by omega)) (fun i hi => h _ (by omega)) (fun i hi => h _ (by omega))
/-- a state behind another is remembered -/
def k_sv1 (sv : Nat → Nat) (n : Nat) : Nat → Nat := if n = 14 then k_win sv sv 0 60 780 else sv
def k_n1 (n : Nat) : Nat := if n = 14 then 13 else n
def k_rem (sv : Nat → Nat) (n : Nat) (g : Nat → Nat) : Nat → Nat := k_win g (k_sv1 sv n) (60 * k_n1 n) 0 60
/-- the text -/
def byI (c : Nat) : Int32 := (nI c).toInt8.toInt32
theorem k_by_in : ∀ c, c < 256 → decide ((48 : Int64) ≤ (byI c).toInt64 ∧ (byI c).toInt64 ≤ (57 : Int64)) = decide (48 ≤ c ∧ c ≤ 57) := by decide +kernel
theorem k_by_42 : ∀ c, c < 256 → (byI c = nI 42 ↔ c = 42) := by decide +kernel
theorem k_by_44 : ∀ c, c < 256 → (byI c = nI 44 ↔ c = 44) := by decide +kernel
theorem k_by_sm : ∀ c, c < 128 → byI c = nI c := by decide +kernel
def k_fq0 (u : Nat → Nat) : Nat → Option Nat
  | 0 => none
  | k + 1 => match k_fq0 u k with
    | some j => some j
    | none => if k < 3 ∧ (48 ≤ u k ∧ u k ≤ 57 ∨ u k = 42) then none else some k
/-- the error position of the text as a question -/
def k_fq (u : Nat → Nat) (ln : Nat) : Option Nat := match k_fq0 u ln with
  | some j => some j
  | none => if ln = 3 then none else some ln
def k_ft0 (u : Nat → Nat) : Nat → Option Nat
  | 0 => none
  | k + 1 => match k_ft0 u k with
    | some j => some j
    | none => if (k % 4 = 3 ∧ u k = 44) ∨ (k % 4 ≠ 3 ∧ 48 ≤ u k ∧ u k ≤ 57) then none else some k
/-- the error position of the text as triples -/
def k_ft (u : Nat → Nat) (ln : Nat) : Option Nat := match k_ft0 u ln with
  | some j => some j
  | none => if ln % 4 = 3 then none else some ln
theorem k_fq0_mono {u : Nat → Nat} {r i : Nat} (h : k_fq0 u i = some r) : ∀ {n : Nat}, i ≤ n → k_fq0 u n = some r
  | 0, hn => by have e : i = 0 := (by omega); subst e; exact h
  | n + 1, hn => by
    rcases Nat.lt_or_ge n i with q | q
    · have e : i = n + 1 := by omega
      subst e; exact h
    · rw [k_fq0, k_fq0_mono h q]
theorem k_ft0_mono {u : Nat → Nat} {r i : Nat} (h : k_ft0 u i = some r) : ∀ {n : Nat}, i ≤ n → k_ft0 u n = some r
  | 0, hn => by have e : i = 0 := (by omega); subst e; exact h
  | n + 1, hn => by
    rcases Nat.lt_or_ge n i with q | q
    · have e : i = n + 1 := by omega
      subst e; exact h
    · rw [k_ft0, k_ft0_mono h q]
theorem k_fq_hit {u : Nat → Nat} {k ln : Nat} (h : k_fq0 u k = none) (hk : k < ln) (hb : ¬ (k < 3 ∧ (48 ≤ u k ∧ u k ≤ 57 ∨ u k = 42))) : k_fq u ln = some k := by
  have h1 : k_fq0 u (k + 1) = some k := by rw [k_fq0, h]; exact if_neg hb
  unfold k_fq
  rw [k_fq0_mono h1 hk]
theorem k_ft_hit {u : Nat → Nat} {k ln : Nat} (h : k_ft0 u k = none) (hk : k < ln) (hb : ¬ ((k % 4 = 3 ∧ u k = 44) ∨ (k % 4 ≠ 3 ∧ 48 ≤ u k ∧ u k ≤ 57))) : k_ft u ln = some k := by
  have h1 : k_ft0 u (k + 1) = some k := by rw [k_ft0, h]; exact if_neg hb
  unfold k_ft
  rw [k_ft0_mono h1 hk]
theorem k_fq_go {u : Nat → Nat} {k : Nat} (h : k_fq0 u k = none) (hb : k < 3 ∧ (48 ≤ u k ∧ u k ≤ 57 ∨ u k = 42)) : k_fq0 u (k + 1) = none := by rw [k_fq0, h]; exact if_pos hb
theorem k_ft_go {u : Nat → Nat} {k : Nat} (h : k_ft0 u k = none) (hb : (k % 4 = 3 ∧ u k = 44) ∨ (k % 4 ≠ 3 ∧ 48 ≤ u k ∧ u k ≤ 57)) : k_ft0 u (k + 1) = none := by rw [k_ft0, h]; exact if_pos hb
theorem k_fq_end {u : Nat → Nat} {ln : Nat} (h : k_fq0 u ln = none) : k_fq u ln = if ln = 3 then none else some ln := by unfold k_fq; rw [h]
theorem k_ft_end {u : Nat → Nat} {ln : Nat} (h : k_ft0 u ln = none) : k_ft u ln = if ln % 4 = 3 then none else some ln := by unfold k_ft; rw [h]
theorem k_fq0_all {u : Nat → Nat} : ∀ {n : Nat}, k_fq0 u n = none → ∀ k, k < n → k < 3 ∧ (48 ≤ u k ∧ u k ≤ 57 ∨ u k = 42)
  | 0, _, k, hk => absurd hk (Nat.not_lt_zero k)
  | n + 1, h, k, hk => by
    rw [k_fq0] at h
    cases h1 : k_fq0 u n with
    | some j => rw [h1] at h; cases h
    | none =>
      rw [h1] at h
      by_cases hb : n < 3 ∧ (48 ≤ u n ∧ u n ≤ 57 ∨ u n = 42)
      · rcases Nat.lt_or_ge k n with q | q
        · exact k_fq0_all h1 k q
        · have e : k = n := by omega
          subst e; exact hb
      · have h2 := (if_neg hb).symm.trans h
        cases h2
theorem k_ft0_all {u : Nat → Nat} : ∀ {n : Nat}, k_ft0 u n = none → ∀ k, k < n → (k % 4 = 3 ∧ u k = 44) ∨ (k % 4 ≠ 3 ∧ 48 ≤ u k ∧ u k ≤ 57)
  | 0, _, k, hk => absurd hk (Nat.not_lt_zero k)
  | n + 1, h, k, hk => by
    rw [k_ft0] at h
    cases h1 : k_ft0 u n with
    | some j => rw [h1] at h; cases h
    | none =>
      rw [h1] at h
      by_cases hb : (n % 4 = 3 ∧ u n = 44) ∨ (n % 4 ≠ 3 ∧ 48 ≤ u n ∧ u n ≤ 57)
      · rcases Nat.lt_or_ge k n with q | q
        · exact k_ft0_all h1 k q
        · have e : k = n := by omega
          subst e; exact hb
      · have h2 := (if_neg hb).symm.trans h
        cases h2
theorem k_fq_none {u : Nat → Nat} {ln : Nat} (h : k_fq u ln = none) : ln = 3 ∧ ∀ k, k < 3 → (48 ≤ u k ∧ u k ≤ 57 ∨ u k = 42) := by
  unfold k_fq at h
  cases h1 : k_fq0 u ln with
  | some j => rw [h1] at h; cases h
  | none =>
    rw [h1] at h
    by_cases q : ln = 3
    · subst q; exact ⟨rfl, fun k hk => (k_fq0_all h1 k hk).2⟩
    · have h2 := (if_neg q).symm.trans h
      cases h2
theorem k_ft_none {u : Nat → Nat} {ln : Nat} (h : k_ft u ln = none) : ln % 4 = 3 ∧ ∀ k, k < ln → (k % 4 = 3 ∧ u k = 44) ∨ (k % 4 ≠ 3 ∧ 48 ≤ u k ∧ u k ≤ 57) := by
  unfold k_ft at h
  cases h1 : k_ft0 u ln with
  | some j => rw [h1] at h; cases h
  | none =>
    rw [h1] at h
    by_cases q : ln % 4 = 3
    · exact ⟨q, k_ft0_all h1⟩
    · have h2 := (if_neg q).symm.trans h
      cases h2
def k_ch (c : Nat) : Nat := if c = 42 then 10 else c - 48
/-- the question of the text -/
def k_tq (u : Nat → Nat) : Nat := 121 * k_ch (u 0) + 11 * k_ch (u 1) + k_ch (u 2)
/-- the i-th triple of the text -/
def k_tt (u : Nat → Nat) (i : Nat) : Nat := 100 * (u (4 * i) - 48) + 10 * (u (4 * i + 1) - 48) + (u (4 * i + 2) - 48)
def m_all (g u : Nat → Nat) : Nat → Nat → Nat
  | 0 => g
  | n + 1 => m_put (m_all g u n) (k_tt u n)
def k_all (g u : Nat → Nat) : Nat → Nat
  | 0 => 0
  | n + 1 => k_all g u n + k_pv (m_all g u n) (k_tt u n)
theorem k_tt_lt {u : Nat → Nat} {ln i : Nat} (h : k_ft u ln = none) (hi : 4 * i < ln) : k_tt u i < 1000 := by
  obtain ⟨h1, h2⟩ := k_ft_none h
  have a := h2 (4 * i) (by omega)
  have b := h2 (4 * i + 1) (by omega)
  have c := h2 (4 * i + 2) (by omega)
  unfold k_tt
  omega
theorem ok_all {g u : Nat → Nat} {ln : Nat} (hk : k_ok g) (h : k_ft u ln = none) : ∀ n, 4 * n ≤ ln + 1 → k_ok (m_all g u n)
  | 0, _ => hk
  | n + 1, hn => ok_put (ok_all hk h n (by omega)) (k_tt_lt h (by omega))
/-- the whole reference: its object, the state, the state put aside, the states remembered, the slots, which are filled, the text -/
abbrev w_md (tc : Nat → ClassId) (b b1 b2 b3 b4 b5 b6 : Nat) (th : Int32) (g ga sv : Nat → Nat) (n : Nat) (sl : Nat → Nat) (iz : Nat → Bool) (u : Nat → Nat) (ln : Nat) : va_W := [(b, .inr (6, [.int th, .ref b1, .ref b2, .ref b3, .int (nI n), .ref b4, .ref b5, .ref b6, .int (nI ln)])), (b1, .inl (tc 0, 60, .inl (fun k => nI (g k)))), (b2, .inl (tc 0, 60, .inl (fun k => nI (ga k)))), (b3, .inl (tc 0, 840, .inl (fun k => nI (sv k)))), (b4, .inl (tc 0, 120, .inl (fun k => nI (sl k)))), (b5, .inl (tc 3, 2, .inl (fun k => bI (iz k)))), (b6, .inl (tc 2, 100, .inl (fun k => byI (u k))))]
