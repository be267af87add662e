/-- what the public methods answer -/
def k_abt (g : Nat → Nat) (v : Nat) : Nat := if v = 0 then g 0 else if v = 7 then k_lk (g 0) else g (41 + v - 1)
def k_rmb (g : Nat → Nat) (i : Nat) : Option Nat := if i < g 46 then some (g (47 + g 46 - 1 - i)) else none
/-- the second question that the k-th triple asks in a join -/
def k_bo (g : Nat → Nat) (f s a b k : Nat) : Option Nat := if k_isA f (g (1 + k)) = true then k_bt s b (k_pt (g (1 + k)) a) else none
def k_oc (g : Nat → Nat) : Option Nat → Nat
  | some y => k_cnt g y
  | none => 0
def k_om (g : Nat → Nat) : Option Nat → Nat
  | some y => k_mn g y (g 41) 6
  | none => 0
def k_prs (g : Nat → Nat) (f s a b : Nat) : Nat → Nat
  | 0 => 0
  | k + 1 => k_prs g f s a b k + k_oc g (k_bo g f s a b k)
def k_jcs (g : Nat → Nat) (f s a b : Nat) : Nat → Nat
  | 0 => k_mn g f (g 41) 6
  | k + 1 => k_jcs g f s a b k + k_om g (k_bo g f s a b k)
def k_jm (g : Nat → Nat) (f s a b : Nat) : Option Nat := match k_ms g f a 6 with
  | none => none
  | some x => match k_ms g s b 6 with
    | none => none
    | some y => some (x + y)
/-- the fault of an addition -/
def k_af (g : Nat → Nat) (t : Nat) : Nat := if g 0 = 40 ∧ k_ix g t = none then 2 else 0
theorem k_af_le (g : Nat → Nat) (t : Nat) : k_af g t ≤ 2 := by unfold k_af; split <;> omega
theorem k_af_0 {g : Nat → Nat} {t : Nat} (hk : k_ok g) (h : k_af g t = 0) : g 0 < 40 ∨ k_ix g t ≠ none := by
  by_cases q : g 0 = 40 ∧ k_ix g t = none
  · unfold k_af at h; rw [if_pos q] at h; cases h
  · have h1 := hk.1
    by_cases q2 : k_ix g t = none
    · exact Or.inl (by have : ¬ g 0 = 40 := fun e => q ⟨e, q2⟩; omega)
    · exact Or.inr q2
theorem k_af_1 {g : Nat → Nat} {t : Nat} (h : ¬ k_af g t = 0) : g 0 = 40 ∧ k_ix g t = none := by
  by_cases q : g 0 = 40 ∧ k_ix g t = none
  · exact q
  · exact absurd (if_neg q) h
theorem k_af_put {g : Nat → Nat} {t : Nat} (h : ¬ k_af g t = 0) : m_put g t = g ∧ k_pv g t = 0 := by
  have hn : k_new g t = false := k_new_full (by have := (k_af_1 h).1; omega)
  exact ⟨if_neg (by rw [hn]; decide), if_neg (by rw [hn]; decide)⟩
theorem k_af_of {g : Nat → Nat} {t : Nat} (h : g 0 < 40 ∨ k_ix g t ≠ none) : k_af g t = 0 := if_neg (fun q => h.elim (fun a => by omega) (fun a => a q.2))
theorem ok_wt {g : Nat → Nat} {v : Nat} (hk : k_ok g) (h : v ≤ 99) : k_ok (k_up g 59 v) := by
  obtain ⟨h0, h1, h2, h3, h4, h5, h6⟩ := hk
  have e : ∀ k, ¬ k = 59 → k_up g 59 v k = g k := fun k hk => k_up_ne hk
  refine ⟨?_, ?_, ?_, ?_, ?_, ?_, ?_⟩
  · rw [e 0 (by omega)]; exact h0
  · rw [e 41 (by omega)]; exact h1
  · rw [e 46 (by omega)]; exact h2
  · rw [k_up_eq rfl]; exact h
  · intro i hi; rw [e 0 (by omega)] at hi; rw [e _ (by omega)]; exact h4 i hi
  · intro i hi; rw [e 46 (by omega)] at hi; rw [e _ (by omega)]; exact h5 i hi
  · intro i j hi hj q; rw [e 0 (by omega)] at hi hj; rw [e _ (by omega), e _ (by omega)] at q; exact h6 i j hi hj q
theorem k_nn {v : Int32} (h : v < 0) (h2 : 0 ≤ v) : False := by
  rw [Int32.lt_iff_toInt_lt] at h; rw [Int32.le_iff_toInt_le] at h2; omega
