/-! JOINS: a sum over digits is one over triples. -/
theorem k_isA_iff {x t : Nat} : k_isA x t = true ↔ ∀ c, c < 3 → (k_dg x c = 10 ∨ k_dg x c = k_pt t c) := by
  unfold k_isA
  rw [decide_eq_true_eq]
  refine ⟨fun h c hc => ?_, fun h => ⟨h 0 (by decide), h 1 (by decide), h 2 (by decide)⟩⟩
  rcases (show c = 0 ∨ c = 1 ∨ c = 2 by omega) with rfl | rfl | rfl
  · exact h.1
  · exact h.2.1
  · exact h.2.2
theorem k_dg_bt {f a d : Nat} (hf : f < 1331) (ha : a < 3) (hd : d ≤ 9) (h : k_dg f a = 10) : ∀ c, c < 3 → k_dg (f - k_un a * (10 - d)) c = if c = a then d else k_dg f c := by
  intro c hc
  rcases (show a = 0 ∨ a = 1 ∨ a = 2 by omega) with rfl | rfl | rfl <;> rcases (show c = 0 ∨ c = 1 ∨ c = 2 by omega) with rfl | rfl | rfl <;> simp [k_dg, k_un] at h ⊢ <;> omega
theorem k_bt_some {f a d t y : Nat} (hf : f < 1331) (ha : a < 3) (hd : d ≤ 9) (h : k_bt f a d = some y) : k_isA y t = true ↔ k_isA f t = true ∧ k_pt t a = d := by
  rw [k_isA_iff, k_isA_iff]
  unfold k_bt at h
  by_cases h1 : k_dg f a = d
  · rw [if_pos h1] at h
    cases h
    refine ⟨fun q => ⟨q, ?_⟩, fun q => q.1⟩
    have := q a ha
    omega
  · rw [if_neg h1] at h
    by_cases h2 : k_dg f a = 10
    · rw [if_pos h2] at h
      cases h
      have hk := k_dg_bt hf ha hd h2
      refine ⟨fun q => ⟨fun c hc => ?_, ?_⟩, fun q c hc => ?_⟩
      · have := q c hc
        rw [hk c hc] at this
        by_cases e : c = a
        · subst e; exact Or.inl h2
        · rw [if_neg e] at this; exact this
      · have := q a ha
        rw [hk a ha, if_pos rfl] at this
        omega
      · rw [hk c hc]
        by_cases e : c = a
        · subst e; rw [if_pos rfl]; exact Or.inr q.2.symm
        · rw [if_neg e]; exact q.1 c hc
    · rw [if_neg h2] at h; cases h
theorem k_bt_none {f a d t : Nat} (ha : a < 3) (h : k_bt f a d = none) (q : k_isA f t = true) : ¬ k_pt t a = d := by
  unfold k_bt at h
  by_cases h1 : k_dg f a = d
  · rw [if_pos h1] at h; cases h
  · rw [if_neg h1] at h
    by_cases h2 : k_dg f a = 10
    · rw [if_pos h2] at h; cases h
    · have := k_isA_iff.mp q a ha; omega
/-- how many of the first n triples answer f with the digit d at a -/
def k_oc0 (g : Nat → Nat) (f a d : Nat) : Nat → Nat
  | 0 => 0
  | n + 1 => k_oc0 g f a d n + if k_isA f (g (1 + n)) = true ∧ k_pt (g (1 + n)) a = d then 1 else 0
theorem k_oc0_cn {g : Nat → Nat} {f a d : Nat} (hf : f < 1331) (ha : a < 3) (hd : d ≤ 9) : k_oc g (k_bt f a d) = k_oc0 g f a d (g 0) := by
  cases h : k_bt f a d with
  | some y =>
    show k_cn g y (g 0) = _
    generalize g 0 = n
    induction n with
    | zero => rfl
    | succ n ih =>
      rw [k_cn, k_oc0, ih]
      have e := k_bt_some (t := g (1 + n)) hf ha hd h
      by_cases q : k_isA y (g (1 + n)) = true
      · rw [if_pos q, if_pos (e.mp q)]
      · rw [if_neg q, if_neg (fun z => q (e.mpr z))]
  | none =>
    show 0 = _
    generalize g 0 = n
    induction n with
    | zero => rfl
    | succ n ih =>
      rw [k_oc0, ← ih, if_neg (fun z => k_bt_none ha h z.1 z.2)]
/-- a sum over the digits below m -/
def k_sd (F X : Nat → Nat) : Nat → Nat
  | 0 => 0
  | m + 1 => k_sd F X m + F m * X m
theorem k_sd_0 (X : Nat → Nat) : ∀ m, k_sd (fun _ => 0) X m = 0
  | 0 => rfl
  | m + 1 => by rw [k_sd, k_sd_0 X m]; simp
theorem k_sd_1 (F X : Nat → Nat) (P : Prop) [Decidable P] (p : Nat) : ∀ m, k_sd (fun d => F d + if P ∧ p = d then 1 else 0) X m = k_sd F X m + if P ∧ p < m then X p else 0
  | 0 => by simp [k_sd]
  | m + 1 => by
    rw [k_sd, k_sd, k_sd_1 F X P p m]
    by_cases hP : P
    · by_cases h1 : p = m
      · subst h1; rw [if_neg (fun z => by omega), if_pos ⟨hP, rfl⟩, if_pos ⟨hP, by omega⟩, Nat.add_mul]; omega
      · by_cases h2 : p < m
        · rw [if_pos ⟨hP, h2⟩, if_neg (fun z => h1 z.2), if_pos ⟨hP, by omega⟩]; simp only [Nat.add_zero]; omega
        · rw [if_neg (fun z => h2 z.2), if_neg (fun z => h1 z.2), if_neg (fun z => by omega)]; simp only [Nat.add_zero]
    · rw [if_neg (fun z => hP z.1), if_neg (fun z => hP z.1), if_neg (fun z => hP z.1)]; simp only [Nat.add_zero]
theorem k_sd_cong {F F' X : Nat → Nat} : ∀ m, (∀ d, d < m → F d = F' d) → k_sd F X m = k_sd F' X m
  | 0, _ => rfl
  | m + 1, h => by rw [k_sd, k_sd, k_sd_cong m (fun d hd => h d (by omega)), h m (by omega)]
/-- a sum over the first n triples that answer f, by their digit at a -/
def k_st (g : Nat → Nat) (f a : Nat) (X : Nat → Nat) : Nat → Nat
  | 0 => 0
  | n + 1 => k_st g f a X n + if k_isA f (g (1 + n)) = true then X (k_pt (g (1 + n)) a) else 0
theorem k_sd_st {g : Nat → Nat} {f a : Nat} (X : Nat → Nat) : ∀ n, (∀ i, i < n → k_pt (g (1 + i)) a < 10) → k_sd (fun d => k_oc0 g f a d n) X 10 = k_st g f a X n
  | 0, _ => k_sd_0 X 10
  | n + 1, h => by
    rw [k_st, ← k_sd_st X n (fun i hi => h i (by omega))]
    have e := k_sd_1 (fun d => k_oc0 g f a d n) X (k_isA f (g (1 + n)) = true) (k_pt (g (1 + n)) a) 10
    have h9 := h n (by omega)
    show k_sd (fun d => k_oc0 g f a d n + if k_isA f (g (1 + n)) = true ∧ k_pt (g (1 + n)) a = d then 1 else 0) X 10 = _
    rw [e]
    by_cases q : k_isA f (g (1 + n)) = true
    · rw [if_pos ⟨q, h9⟩, if_pos q]
    · rw [if_neg (fun z => q z.1), if_neg q]
theorem k_sd_oc {g : Nat → Nat} {f a : Nat} (X : Nat → Nat) (hf : f < 1331) (ha : a < 3) (ht : ∀ i, i < g 0 → k_pt (g (1 + i)) a < 10) : k_sd (fun d => k_oc g (k_bt f a d)) X 10 = k_st g f a X (g 0) := by
  rw [← k_sd_st X (g 0) ht]
  exact k_sd_cong 10 (fun d hd => k_oc0_cn hf ha (by omega))
theorem k_prs_st (g : Nat → Nat) (f s a b : Nat) : ∀ n, k_prs g f s a b n = k_st g f a (fun d => k_oc g (k_bt s b d)) n
  | 0 => rfl
  | n + 1 => by
    rw [k_prs, k_st, k_prs_st g f s a b n, k_bo]
    by_cases q : k_isA f (g (1 + n)) = true
    · rw [if_pos q, if_pos q]
    · rw [if_neg q, if_neg q]; rfl
theorem k_jcs_st (g : Nat → Nat) (f s a b : Nat) : ∀ n, k_jcs g f s a b n = k_mn g f (g 41) 6 + k_st g f a (fun d => k_om g (k_bt s b d)) n
  | 0 => rfl
  | n + 1 => by
    rw [k_jcs, k_st, k_jcs_st g f s a b n, k_bo, Nat.add_assoc]
    by_cases q : k_isA f (g (1 + n)) = true
    · rw [if_pos q, if_pos q]
    · rw [if_neg q, if_neg q]; rfl
theorem k_prs_sd {g : Nat → Nat} {f s a b : Nat} (hk : k_ok g) (hf : f < 1331) (ha : a < 3) : k_sd (fun d => k_oc g (k_bt f a d)) (fun d => k_oc g (k_bt s b d)) 10 = k_prs g f s a b (g 0) := by
  rw [k_prs_st, k_sd_oc _ hf ha (fun i hi => Nat.lt_succ_of_le (k_pt_le (hk.2.2.2.2.1 i hi)))]
theorem k_jcs_sd {g : Nat → Nat} {f s a b : Nat} (hk : k_ok g) (hf : f < 1331) (ha : a < 3) : k_mn g f (g 41) 6 + k_sd (fun d => k_oc g (k_bt f a d)) (fun d => k_om g (k_bt s b d)) 10 = k_jcs g f s a b (g 0) := by
  rw [k_jcs_st, k_sd_oc _ hf ha (fun i hi => Nat.lt_succ_of_le (k_pt_le (hk.2.2.2.2.1 i hi)))]
