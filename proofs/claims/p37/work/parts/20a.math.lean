/-! MATH of p37: masks; the answers' places; gains and losses; sets that are enough. -/
def bk (x : Int32) (m : Nat) : Nat := (x &&& nI m).toBitVec.toNat
theorem nI_bv (z : Int32) : z = nI z.toBitVec.toNat := by
  apply Int32.toBitVec_inj.mp
  show _ = BitVec.ofNat 32 _
  apply BitVec.eq_of_toNat_eq
  rw [BitVec.toNat_ofNat, Nat.mod_eq_of_lt z.toBitVec.isLt]
theorem bk_eq (x : Int32) (m : Nat) : x &&& nI m = nI (bk x m) := nI_bv _
theorem bk_le (x : Int32) (m : Nat) : bk x m ≤ m := by
  show (x.toBitVec &&& BitVec.ofNat 32 m).toNat ≤ m
  rw [BitVec.toNat_and]
  refine Nat.le_trans Nat.and_le_right ?_
  rw [BitVec.toNat_ofNat]
  exact Nat.mod_le _ _
def k_low (v : Int32) (n : Nat) : Nat := bk v 2147483647 % n
theorem k_low_lt (v : Int32) {n : Nat} (h : 0 < n) : k_low v n < n := Nat.mod_lt _ h
def k_dgs (v : Int32) : Nat := 100 * (bk v 3) + 10 * (bk (v >>> (nI 2 &&& 31)) 3) + (bk (v >>> (nI 4 &&& 31)) 3)
theorem k_dgs_lt (v : Int32) : k_dgs v < 1000 := by
  have h1 := bk_le v 3
  have h2 := bk_le (v >>> (nI 2 &&& 31)) 3
  have h3 := bk_le (v >>> (nI 4 &&& 31)) 3
  unfold k_dgs; omega
def k_qa (v : Int32) : Nat := if bk (v >>> (nI 6 &&& 31)) 1 = 0 then 10 else bk v 3
def k_qb (v : Int32) : Nat := if bk (v >>> (nI 7 &&& 31)) 1 = 0 then 10 else bk (v >>> (nI 2 &&& 31)) 3
def k_qc (v : Int32) : Nat := if bk (v >>> (nI 8 &&& 31)) 1 = 0 then 10 else bk (v >>> (nI 4 &&& 31)) 3
def k_qn (v : Int32) : Nat := 121 * k_qa v + 11 * k_qb v + k_qc v
theorem k_qn_lt (v : Int32) : k_qn v < 1331 := by
  have h1 : k_qa v ≤ 10 := by have := bk_le v 3; unfold k_qa; split <;> omega
  have h2 : k_qb v ≤ 10 := by have := bk_le (v >>> (nI 2 &&& 31)) 3; unfold k_qb; split <;> omega
  have h3 : k_qc v ≤ 10 := by have := bk_le (v >>> (nI 4 &&& 31)) 3; unfold k_qc; split <;> omega
  unfold k_qn; omega
theorem k_in_t {s q : Nat} (h : s / 2 ^ q % 2 = 1) : k_in s q = true := decide_eq_true h
theorem k_in_f {s q : Nat} (h : ¬ s / 2 ^ q % 2 = 1) : k_in s q = false := decide_eq_false h
theorem k_in_o {s q : Nat} (h : k_in s q = true) : s / 2 ^ q % 2 = 1 := of_decide_eq_true h
theorem k_in_n {s q : Nat} (h : k_in s q = false) : ¬ s / 2 ^ q % 2 = 1 := of_decide_eq_false h
/-! the answers' places -/
theorem dg3 {a b c a' b' c' : Nat} (ha : a ≤ 9) (hb : b ≤ 9) (hc : c ≤ 9) (ha' : a' ≤ 9) (hb' : b' ≤ 9) (hc' : c' ≤ 9) (h : 10 * (10 * (10 * 0 + a) + b) + c = 10 * (10 * (10 * 0 + a') + b') + c') : a = a' ∧ b = b' ∧ c = c' := by
  have h1 : (10 * (10 * (10 * 0 + a) + b) + c) % 10 = c := by omega
  have h2 : (10 * (10 * (10 * 0 + a') + b') + c') % 10 = c' := by omega
  have e1 : c = c' := by rw [← h1, ← h2, h]
  subst e1
  have h3 : 10 * a + b = 10 * a' + b' := by omega
  have h4 : (10 * a + b) % 10 = b := by omega
  have h5 : (10 * a' + b') % 10 = b' := by omega
  have e2 : b = b' := by rw [← h4, ← h5, h3]
  subst e2
  exact ⟨by omega, rfl, rfl⟩
theorem k_rk_inj {t t' q : Nat} (ht : t < 1000) (ht' : t' < 1000) (hq : q < 6) (h : k_rk t q = k_rk t' q) : t = t' := by
  have f : ∀ u, u < 1000 → u = 100 * k_pt u 0 + 10 * k_pt u 1 + k_pt u 2 := by
    intro u hu
    show u = 100 * (u / 100) + 10 * (u / 10 % 10) + u % 10
    omega
  have f1 := f t ht
  have f2 := f t' ht'
  have a0 := k_pt_le (c := 0) ht
  have a1 := k_pt_le (c := 1) ht
  have a2 := k_pt_le (c := 2) ht
  have b0 := k_pt_le (c := 0) ht'
  have b1 := k_pt_le (c := 1) ht'
  have b2 := k_pt_le (c := 2) ht'
  rcases (show q = 0 ∨ q = 1 ∨ q = 2 ∨ q = 3 ∨ q = 4 ∨ q = 5 by omega) with rfl | rfl | rfl | rfl | rfl | rfl
  · have h2 : 10 * (10 * (10 * 0 + k_pt t 0) + k_pt t 1) + k_pt t 2 = 10 * (10 * (10 * 0 + k_pt t' 0) + k_pt t' 1) + k_pt t' 2 := h
    have h3 := dg3 a0 a1 a2 b0 b1 b2 h2
    rw [f1, f2, h3.1, h3.2.1, h3.2.2]
  · have h2 : 10 * (10 * (10 * 0 + k_pt t 0) + k_pt t 2) + k_pt t 1 = 10 * (10 * (10 * 0 + k_pt t' 0) + k_pt t' 2) + k_pt t' 1 := h
    have h3 := dg3 a0 a2 a1 b0 b2 b1 h2
    rw [f1, f2, h3.1, h3.2.1, h3.2.2]
  · have h2 : 10 * (10 * (10 * 0 + k_pt t 1) + k_pt t 0) + k_pt t 2 = 10 * (10 * (10 * 0 + k_pt t' 1) + k_pt t' 0) + k_pt t' 2 := h
    have h3 := dg3 a1 a0 a2 b1 b0 b2 h2
    rw [f1, f2, h3.1, h3.2.1, h3.2.2]
  · have h2 : 10 * (10 * (10 * 0 + k_pt t 1) + k_pt t 2) + k_pt t 0 = 10 * (10 * (10 * 0 + k_pt t' 1) + k_pt t' 2) + k_pt t' 0 := h
    have h3 := dg3 a1 a2 a0 b1 b2 b0 h2
    rw [f1, f2, h3.1, h3.2.1, h3.2.2]
  · have h2 : 10 * (10 * (10 * 0 + k_pt t 2) + k_pt t 0) + k_pt t 1 = 10 * (10 * (10 * 0 + k_pt t' 2) + k_pt t' 0) + k_pt t' 1 := h
    have h3 := dg3 a2 a0 a1 b2 b0 b1 h2
    rw [f1, f2, h3.1, h3.2.1, h3.2.2]
  · have h2 : 10 * (10 * (10 * 0 + k_pt t 2) + k_pt t 1) + k_pt t 0 = 10 * (10 * (10 * 0 + k_pt t' 2) + k_pt t' 1) + k_pt t' 0 := h
    have h3 := dg3 a2 a1 a0 b2 b1 b0 h2
    rw [f1, f2, h3.1, h3.2.1, h3.2.2]
theorem k_ra_inj {g : Nat → Nat} (hk : k_ok g) {qo : Option Nat} (hq : ∀ q, qo = some q → q < 6) {i j : Nat} (hi : i < g 0) (hj : j < g 0) (h : k_ra g qo i = k_ra g qo j) : i = j := by
  cases qo with
  | none => exact h
  | some q => exact hk.2.2.2.2.2.2 i j hi hj (k_rk_inj (hk.2.2.2.2.1 i hi) (hk.2.2.2.2.1 j hj) (hq q rfl) h)
/-- how many answers among the first n are sorted below R -/
def k_nr (g : Nat → Nat) (x : Nat) (qo : Option Nat) (R : Nat) : Nat → Nat
  | 0 => 0
  | i + 1 => k_nr g x qo R i + if k_isA x (g (1 + i)) = true ∧ k_ra g qo i < R then 1 else 0
theorem k_bf_nr {g : Nat → Nat} {x : Nat} {qo : Option Nat} {j : Nat} : ∀ n, k_bf g x qo j n = k_nr g x qo (k_ra g qo j) n
  | 0 => rfl
  | n + 1 => by rw [k_bf, k_nr, k_bf_nr n]
theorem k_nr_0 {g : Nat → Nat} {x : Nat} {qo : Option Nat} : ∀ n, k_nr g x qo 0 n = 0
  | 0 => rfl
  | n + 1 => by rw [k_nr, k_nr_0 n, if_neg (fun h => Nat.not_lt_zero _ h.2)]
theorem k_nr_le {g : Nat → Nat} {x : Nat} {qo : Option Nat} {R S : Nat} (h : R ≤ S) : ∀ n, k_nr g x qo R n ≤ k_nr g x qo S n
  | 0 => Nat.le_refl _
  | n + 1 => by
    have h1 := k_nr_le (g := g) (x := x) (qo := qo) h n
    rw [k_nr, k_nr]
    by_cases q : k_isA x (g (1 + n)) = true ∧ k_ra g qo n < R
    · rw [if_pos q, if_pos ⟨q.1, Nat.lt_of_lt_of_le q.2 h⟩]; omega
    · rw [if_neg q]; exact Nat.le_trans h1 (Nat.le_add_right _ _)
theorem k_nr_lt {g : Nat → Nat} {x : Nat} {qo : Option Nat} {j R : Nat} (ha : k_isA x (g (1 + j)) = true) (hr : k_ra g qo j < R) : ∀ n, j < n → k_nr g x qo (k_ra g qo j) n < k_nr g x qo R n
  | 0, h => absurd h (Nat.not_lt_zero _)
  | n + 1, h => by
    rw [k_nr, k_nr]
    rcases Nat.lt_or_ge j n with q | q
    · have h1 := k_nr_lt (g := g) (x := x) (qo := qo) ha hr n q
      by_cases z : k_isA x (g (1 + n)) = true ∧ k_ra g qo n < k_ra g qo j
      · rw [if_pos z, if_pos ⟨z.1, Nat.lt_trans z.2 hr⟩]; omega
      · rw [if_neg z]; exact Nat.lt_of_lt_of_le h1 (Nat.le_add_right _ _)
    · have e : j = n := by omega
      subst e
      rw [if_neg (fun z => Nat.lt_irrefl _ z.2), if_pos ⟨ha, hr⟩]
      exact Nat.lt_succ_of_le (k_nr_le (Nat.le_of_lt hr) j)
theorem k_nr_one {g : Nat → Nat} (hk : k_ok g) {x : Nat} {qo : Option Nat} (hq : ∀ q, qo = some q → q < 6) {R : Nat} : ∀ n, n ≤ g 0 → k_nr g x qo (R + 1) n = k_nr g x qo R n ∨ (k_nr g x qo (R + 1) n = k_nr g x qo R n + 1 ∧ ∃ j, j < n ∧ k_isA x (g (1 + j)) = true ∧ k_ra g qo j = R)
  | 0, _ => Or.inl rfl
  | n + 1, hn => by
    have ih := k_nr_one hk (x := x) hq (R := R) n (by omega)
    rw [k_nr, k_nr]
    by_cases z : k_isA x (g (1 + n)) = true ∧ k_ra g qo n = R
    · have z2 := z.2
      rw [if_pos ⟨z.1, by omega⟩, if_neg (fun w => by have w2 := w.2; omega)]
      rcases ih with h | ⟨h, j, h1, h2, h3⟩
      · exact Or.inr ⟨by omega, n, by omega, z.1, z.2⟩
      · exfalso
        have h4 := k_ra_inj hk hq (i := j) (j := n) (by omega) (by omega) (by rw [h3, z2])
        omega
    · by_cases w : k_isA x (g (1 + n)) = true ∧ k_ra g qo n < R
      · have w2 := w.2
        rw [if_pos ⟨w.1, by omega⟩, if_pos w]
        rcases ih with h | ⟨h, j, h1, h2, h3⟩
        · exact Or.inl (by omega)
        · exact Or.inr ⟨by omega, j, by omega, h2, h3⟩
      · rw [if_neg (fun v => by
          have v2 := v.2
          have v3 : ¬ k_ra g qo n = R := fun e => z ⟨v.1, e⟩
          exact w ⟨v.1, by omega⟩), if_neg w]
        rcases ih with h | ⟨h, j, h1, h2, h3⟩
        · exact Or.inl (by omega)
        · exact Or.inr ⟨by omega, j, by omega, h2, h3⟩
theorem k_nr_top {g : Nat → Nat} {x : Nat} {qo : Option Nat} {R : Nat} : ∀ n, (∀ i, i < n → k_ra g qo i < R) → k_nr g x qo R n = k_cn g x n
  | 0, _ => rfl
  | n + 1, h => by
    rw [k_nr, k_cn, k_nr_top n (fun i hi => h i (by omega))]
    by_cases a : k_isA x (g (1 + n)) = true
    · rw [if_pos ⟨a, h n (by omega)⟩, if_pos a]
    · rw [if_neg (fun z => a z.1), if_neg a]
theorem k_nr_find {g : Nat → Nat} (hk : k_ok g) {x i : Nat} {qo : Option Nat} (hq : ∀ q, qo = some q → q < 6) : ∀ R, i < k_nr g x qo R (g 0) → ∃ j, j < g 0 ∧ k_isA x (g (1 + j)) = true ∧ k_nr g x qo (k_ra g qo j) (g 0) = i
  | 0, h => by rw [k_nr_0] at h; exact absurd h (Nat.not_lt_zero _)
  | R + 1, h => by
    by_cases z : i < k_nr g x qo R (g 0)
    · exact k_nr_find hk hq R z
    · rcases k_nr_one hk (x := x) hq (R := R) (g 0) (Nat.le_refl _) with e | ⟨e, j, h1, h2, h3⟩
      · rw [e] at h; exact absurd h z
      · exact ⟨j, h1, h2, by rw [h3]; omega⟩
theorem k_aa_some {g : Nat → Nat} {x : Nat} {qo : Option Nat} {pl t : Nat} : ∀ {n : Nat}, k_aa g x qo pl n = some t → ∃ j, j < n ∧ t = g (1 + j) ∧ k_isA x (g (1 + j)) = true ∧ k_nr g x qo (k_ra g qo j) (g 0) = pl
  | 0, h => by cases h
  | n + 1, h => by
    rw [k_aa] at h
    cases h1 : k_aa g x qo pl n with
    | some r =>
      rw [h1] at h; cases h
      obtain ⟨j, a, b⟩ := k_aa_some h1
      exact ⟨j, by omega, b⟩
    | none =>
      rw [h1] at h
      by_cases z : k_isA x (g (1 + n)) = true ∧ k_bf g x qo n (g 0) = pl
      · rw [if_pos z] at h; cases h
        exact ⟨n, by omega, rfl, z.1, by rw [← k_bf_nr]; exact z.2⟩
      · rw [if_neg z] at h; cases h
theorem k_aa_ex {g : Nat → Nat} {x : Nat} {qo : Option Nat} {pl j : Nat} (ha : k_isA x (g (1 + j)) = true) (hp : k_nr g x qo (k_ra g qo j) (g 0) = pl) : ∀ n, j < n → ¬ k_aa g x qo pl n = none
  | 0, h => absurd h (Nat.not_lt_zero _)
  | n + 1, h => by
    intro hn
    rw [k_aa] at hn
    cases h1 : k_aa g x qo pl n with
    | some t => rw [h1] at hn; cases hn
    | none =>
      rw [h1] at hn
      rcases Nat.lt_or_ge j n with q | q
      · exact k_aa_ex ha hp n q h1
      · have e : j = n := by omega
        subst e
        rw [if_pos ⟨ha, by rw [k_bf_nr]; exact hp⟩] at hn
        cases hn
theorem k_aa_at {g : Nat → Nat} (hk : k_ok g) {x : Nat} {qo : Option Nat} (hq : ∀ q, qo = some q → q < 6) {pl j : Nat} (hj : j < g 0) (ha : k_isA x (g (1 + j)) = true) (hp : k_nr g x qo (k_ra g qo j) (g 0) = pl) : k_aa g x qo pl (g 0) = some (g (1 + j)) := by
  cases h : k_aa g x qo pl (g 0) with
  | some t =>
    obtain ⟨i, h1, h2, h3, h4⟩ := k_aa_some h
    have e : i = j := by
      rcases Nat.lt_trichotomy (k_ra g qo i) (k_ra g qo j) with q | q | q
      · have h5 := k_nr_lt (g := g) (x := x) (qo := qo) h3 q (g 0) h1
        omega
      · exact k_ra_inj hk hq h1 hj q
      · have h5 := k_nr_lt (g := g) (x := x) (qo := qo) ha q (g 0) hj
        omega
    rw [h2, e]
  | none => exact absurd h (k_aa_ex ha hp _ hj)
theorem k_isA_all (t : Nat) : k_isA 1330 t = true := by
  unfold k_isA
  exact decide_eq_true ⟨Or.inl (by decide), Or.inl (by decide), Or.inl (by decide)⟩
def k_pj (g : Nat → Nat) (qo : Option Nat) : Option Nat → Nat
  | none => 0
  | some j => k_nr g 1330 qo (k_ra g qo j) (g 0)
def k_pi (g : Nat → Nat) (qo : Option Nat) : Option Nat → Nat
  | none => 0
  | some t => k_pj g qo (k_ix g t)
/-- the place among all triples of the i-th answer -/
def k_pl (g : Nat → Nat) (x : Nat) (qo : Option Nat) (i : Nat) : Nat := k_pi g qo (k_aa g x qo i (g 0))
theorem k_ix_at {g : Nat → Nat} (hk : k_ok g) {j : Nat} (hj : j < g 0) : k_ix g (g (1 + j)) = some j := k_ix0_mono (k_ix_yes hk hj rfl) hj
theorem k_pl_at {g : Nat → Nat} (hk : k_ok g) {x : Nat} {qo : Option Nat} (hq : ∀ q, qo = some q → q < 6) {i j : Nat} (hj : j < g 0) (ha : k_isA x (g (1 + j)) = true) (hp : k_nr g x qo (k_ra g qo j) (g 0) = i) : k_pl g x qo i = k_nr g 1330 qo (k_ra g qo j) (g 0) := by
  unfold k_pl
  rw [k_aa_at hk hq hj ha hp]
  show k_pj g qo (k_ix g (g (1 + j))) = _
  rw [k_ix_at hk hj]
  rfl
theorem k_nr_cnt {g : Nat → Nat} (hk : k_ok g) (x : Nat) (qo : Option Nat) : k_nr g x qo 1000 (g 0) = k_cnt g x := k_nr_top (g 0) (fun _ hi => k_ra_lt hk hi)
theorem k_ans {g : Nat → Nat} (hk : k_ok g) {x : Nat} {qo : Option Nat} (hq : ∀ q, qo = some q → q < 6) {i : Nat} (hi : i < k_cnt g x) : ∃ t, k_aa g x qo i (g 0) = some t ∧ t < 1000 ∧ k_pl g x qo i < g 0 ∧ k_aa g 1330 qo (k_pl g x qo i) (g 0) = some t := by
  obtain ⟨j, h1, h2, h3⟩ := k_nr_find hk (x := x) (i := i) hq 1000 (by rw [k_nr_cnt hk]; exact hi)
  have e := k_pl_at hk hq h1 h2 h3
  refine ⟨g (1 + j), k_aa_at hk hq h1 h2 h3, hk.2.2.2.2.1 j h1, ?_, ?_⟩
  · rw [e]
    have h4 := k_nr_lt (g := g) (x := 1330) (qo := qo) (k_isA_all _) (k_ra_lt hk (qo := qo) h1) (g 0) h1
    have h5 := k_nr_cnt hk 1330 qo
    have h6 := k_cnt_le g 1330
    omega
  · rw [e]; exact k_aa_at hk hq h1 (k_isA_all _) rfl
theorem k_pl_mono {g : Nat → Nat} (hk : k_ok g) {x : Nat} {qo : Option Nat} (hq : ∀ q, qo = some q → q < 6) {i i' : Nat} (h : i ≤ i') (hi : i' < k_cnt g x) : k_pl g x qo i ≤ k_pl g x qo i' := by
  obtain ⟨j, h1, h2, h3⟩ := k_nr_find hk (x := x) (i := i) hq 1000 (by rw [k_nr_cnt hk]; omega)
  obtain ⟨j', a1, a2, a3⟩ := k_nr_find hk (x := x) (i := i') hq 1000 (by rw [k_nr_cnt hk]; omega)
  rw [k_pl_at hk hq h1 h2 h3, k_pl_at hk hq a1 a2 a3]
  refine k_nr_le (Nat.le_of_not_lt fun q => ?_) _
  have h5 := k_nr_lt (g := g) (x := x) (qo := qo) a2 q (g 0) a1
  omega
theorem k_aa_end {g : Nat → Nat} (hk : k_ok g) {x : Nat} {qo : Option Nat} : k_aa g x qo (k_cnt g x) (g 0) = none := by
  cases h : k_aa g x qo (k_cnt g x) (g 0) with
  | none => rfl
  | some t =>
    exfalso
    obtain ⟨j, h1, h2, h3, h4⟩ := k_aa_some h
    have h5 := k_nr_lt (g := g) (x := x) (qo := qo) h3 (k_ra_lt hk (qo := qo) h1) (g 0) h1
    have h6 := k_nr_cnt hk x qo
    omega
/-! gains and losses -/
theorem k_gt_0 {g : Nat → Nat} : ∀ n, 0 ≤ k_gt g n
  | 0 => Int.le_refl 0
  | n + 1 => by
    have h := k_gt_0 (g := g) n
    rw [k_gt]
    by_cases z : k_in (g 41) n = false ∧ k_gt g n < k_val g n
    · rw [if_pos z]; have z2 := z.2; omega
    · rw [if_neg z]; exact h
theorem k_go_some {g : Nat → Nat} : ∀ {n r : Nat}, k_go g n = some r → r < n ∧ k_in (g 41) r = false ∧ 0 < k_val g r ∧ k_val g r = k_gt g n
  | 0, r, h => by cases h
  | n + 1, r, h => by
    rw [k_go] at h
    by_cases z : k_in (g 41) n = false ∧ k_gt g n < k_val g n
    · rw [if_pos z] at h; cases h
      have h1 := k_gt_0 (g := g) n
      have z2 := z.2
      refine ⟨by omega, z.1, by omega, ?_⟩
      rw [k_gt, if_pos z]
    · rw [if_neg z] at h
      obtain ⟨a, b, c, d⟩ := k_go_some h
      refine ⟨by omega, b, c, ?_⟩
      rw [k_gt, if_neg z]; exact d
theorem k_go_none {g : Nat → Nat} : ∀ {n : Nat}, k_go g n = none → k_gt g n = 0
  | 0, _ => rfl
  | n + 1, h => by
    rw [k_go] at h
    by_cases z : k_in (g 41) n = false ∧ k_gt g n < k_val g n
    · rw [if_pos z] at h; cases h
    · rw [if_neg z] at h; rw [k_gt, if_neg z]; exact k_go_none h
theorem k_gt_max {g : Nat → Nat} : ∀ n q, q < n → k_in (g 41) q = false → k_val g q ≤ k_gt g n
  | 0, q, h, _ => absurd h (Nat.not_lt_zero _)
  | n + 1, q, h, hi => by
    rw [k_gt]
    by_cases e : q = n
    · subst e
      by_cases z : k_in (g 41) q = false ∧ k_gt g q < k_val g q
      · rw [if_pos z]; exact Int.le_refl _
      · rw [if_neg z]; exact Int.not_lt.mp (fun w => z ⟨hi, w⟩)
    · have h1 := k_gt_max (g := g) n q (by omega) hi
      by_cases z : k_in (g 41) n = false ∧ k_gt g n < k_val g n
      · rw [if_pos z]; have z2 := z.2; omega
      · rw [if_neg z]; exact h1
theorem k_go_ok {g : Nat → Nat} {q : Nat} (hq : q < 6) (hi : k_in (g 41) q = false) (h0 : 0 < k_val g q) : ∃ r, k_go g 6 = some r ∧ r < 6 ∧ k_val g q ≤ k_val g r := by
  have h1 := k_gt_max 6 q hq hi
  cases h : k_go g 6 with
  | none => have h2 := k_go_none h; omega
  | some r =>
    obtain ⟨a, b, c, d⟩ := k_go_some h
    exact ⟨r, rfl, a, by omega⟩
theorem k_ls_0 {g : Nat → Nat} : ∀ n, k_ls g n ≤ 0
  | 0 => Int.le_refl 0
  | n + 1 => by
    have h := k_ls_0 (g := g) n
    rw [k_ls]
    by_cases z : k_in (g 41) n = true ∧ k_val g n < k_ls g n
    · rw [if_pos z]; have z2 := z.2; omega
    · rw [if_neg z]; exact h
theorem k_lo_some {g : Nat → Nat} : ∀ {n r : Nat}, k_lo g n = some r → r < n ∧ k_in (g 41) r = true ∧ k_val g r < 0 ∧ k_val g r = k_ls g n
  | 0, r, h => by cases h
  | n + 1, r, h => by
    rw [k_lo] at h
    by_cases z : k_in (g 41) n = true ∧ k_val g n < k_ls g n
    · rw [if_pos z] at h; cases h
      have h1 := k_ls_0 (g := g) n
      have z2 := z.2
      refine ⟨by omega, z.1, by omega, ?_⟩
      rw [k_ls, if_pos z]
    · rw [if_neg z] at h
      obtain ⟨a, b, c, d⟩ := k_lo_some h
      refine ⟨by omega, b, c, ?_⟩
      rw [k_ls, if_neg z]; exact d
theorem k_lo_none {g : Nat → Nat} : ∀ {n : Nat}, k_lo g n = none → k_ls g n = 0
  | 0, _ => rfl
  | n + 1, h => by
    rw [k_lo] at h
    by_cases z : k_in (g 41) n = true ∧ k_val g n < k_ls g n
    · rw [if_pos z] at h; cases h
    · rw [if_neg z] at h; rw [k_ls, if_neg z]; exact k_lo_none h
theorem k_ls_min {g : Nat → Nat} : ∀ n q, q < n → k_in (g 41) q = true → k_ls g n ≤ k_val g q
  | 0, q, h, _ => absurd h (Nat.not_lt_zero _)
  | n + 1, q, h, hi => by
    rw [k_ls]
    by_cases e : q = n
    · subst e
      by_cases z : k_in (g 41) q = true ∧ k_val g q < k_ls g q
      · rw [if_pos z]; exact Int.le_refl _
      · rw [if_neg z]; exact Int.not_lt.mp (fun w => z ⟨hi, w⟩)
    · have h1 := k_ls_min (g := g) n q (by omega) hi
      by_cases z : k_in (g 41) n = true ∧ k_val g n < k_ls g n
      · rw [if_pos z]; have z2 := z.2; omega
      · rw [if_neg z]; exact h1
theorem k_lo_ok {g : Nat → Nat} {q : Nat} (hq : q < 6) (hi : k_in (g 41) q = true) (h0 : k_val g q < 0) : ∃ r, k_lo g 6 = some r ∧ r < 6 ∧ k_val g r ≤ k_val g q := by
  have h1 := k_ls_min 6 q hq hi
  cases h : k_lo g 6 with
  | none => have h2 := k_lo_none h; omega
  | some r =>
    obtain ⟨a, b, c, d⟩ := k_lo_some h
    exact ⟨r, rfl, a, by omega⟩
theorem k_or_in : ∀ x, x < 64 → ∀ q, q < 6 → k_in x q = true → x ||| 2 ^ q = x := by decide +kernel
theorem k_and_out : ∀ x, x < 64 → ∀ q, q < 6 → k_in x q = false → x &&& (63 ^^^ 2 ^ q) = x := by decide +kernel
theorem k_val_in {g : Nat → Nat} (hk : k_ok g) {q : Nat} (hq : q < 6) (hi : k_in (g 41) q = true) : ((k_sum g (g 41 &&& (63 ^^^ 2 ^ q)) : Nat) : Int) - ((k_sum g (g 41) : Nat) : Int) - ((k_due g : Nat) : Int) = k_val g q := by
  unfold k_val
  rw [k_or_in _ hk.2.1 q hq hi]
theorem k_val_out {g : Nat → Nat} (hk : k_ok g) {q : Nat} (hq : q < 6) (hi : k_in (g 41) q = false) : ((k_sum g (g 41) : Nat) : Int) - ((k_sum g (g 41 ||| 2 ^ q) : Nat) : Int) - ((k_due g : Nat) : Int) = k_val g q := by
  unfold k_val
  rw [k_and_out _ hk.2.1 q hq hi]
/-! sets -/
theorem k_bm_ct {g : Nat → Nat} : ∀ n, k_bm g n = k_ct g (k_bs g n)
  | 0 => by
    show k_sum g 0 = k_sum g 0 + k_pc 0 * k_due g
    rw [show k_pc 0 = 0 from by decide, Nat.zero_mul, Nat.add_zero]
  | n + 1 => by
    rw [k_bm, k_bs]
    by_cases z : k_ct g (n + 1) < k_bm g n
    · rw [if_pos z, if_pos z]
    · rw [if_neg z, if_neg z]; exact k_bm_ct n
theorem k_bm_min {g : Nat → Nat} : ∀ n s, s ≤ n → k_bm g n ≤ k_ct g s
  | 0, s, h => by
    have e : s = 0 := by omega
    subst e
    exact Nat.le_of_eq (k_bm_ct 0)
  | n + 1, s, h => by
    rw [k_bm]
    by_cases e : s = n + 1
    · subst e
      by_cases z : k_ct g (n + 1) < k_bm g n
      · rw [if_pos z]; exact Nat.le_refl _
      · rw [if_neg z]; exact Nat.le_of_not_lt z
    · have h1 := k_bm_min (g := g) n s (by omega)
      by_cases z : k_ct g (n + 1) < k_bm g n
      · rw [if_pos z]; omega
      · rw [if_neg z]; exact h1
theorem k_best {g : Nat → Nat} {s : Nat} (hs : s ≤ 63) : k_sum g (k_bs g 63) + k_due g * k_pc (k_bs g 63) ≤ k_sum g s + k_due g * k_pc s := by
  have h1 := k_bm_min (g := g) 63 s hs
  rw [k_bm_ct] at h1
  unfold k_ct at h1
  rw [Nat.mul_comm (k_due g), Nat.mul_comm (k_due g)]
  exact h1
theorem k_in63 : ∀ q, q < 6 → k_in 63 q = true := by decide +kernel
theorem k_mn_63 {g : Nat → Nat} {x s : Nat} : ∀ n, n ≤ 6 → k_mn g x 63 n ≤ k_mn g x s n
  | 0, _ => Nat.le_refl _
  | n + 1, h => by
    have h1 := k_mn_63 (g := g) (x := x) (s := s) n (by omega)
    rw [k_mn, k_mn, if_pos (k_in63 n (by omega))]
    by_cases z : k_in s n = true
    · rw [if_pos z]; omega
    · rw [if_neg z]; omega
theorem k_sm_63 {g : Nat → Nat} {s : Nat} : ∀ n, k_sm g 63 n ≤ k_sm g s n
  | 0 => Nat.le_refl _
  | n + 1 => by
    have h1 := k_sm_63 (g := g) (s := s) n
    have h2 := k_mn_63 (g := g) (x := g (47 + n)) (s := s) 6 (Nat.le_refl _)
    rw [k_sm, k_sm]; omega
theorem k_sum_63 {g : Nat → Nat} (s : Nat) : k_sum g 63 ≤ k_sum g s := k_sm_63 _
def k_pcn (x : Nat) : Nat → Nat
  | 0 => 0
  | q + 1 => k_pcn x q + x / 2 ^ q % 2
theorem k_pcn6 (x : Nat) : k_pcn x 6 = k_pc x := by
  simp only [k_pcn, k_pc, Nat.zero_add]
theorem k_pcn_le (x : Nat) : ∀ q, k_pcn x q ≤ q
  | 0 => Nat.le_refl 0
  | q + 1 => by have h := k_pcn_le x q; rw [k_pcn]; omega
theorem k_bnd_eq {x : Nat} (hx : x < 1331) : k_bnd x = (if x / 121 < 10 then 1 else 0) + (if x / 11 % 11 < 10 then 1 else 0) + (if x % 11 < 10 then 1 else 0) := by
  have e : ∀ d, d ≤ 10 → (if d = 10 then 0 else 1) = (if d < 10 then 1 else 0) := fun d hd => by
    by_cases z : d = 10
    · rw [if_pos z, if_neg (by omega)]
    · rw [if_neg z, if_pos (by omega)]
  show (if x / 121 = 10 then 0 else 1) + (if x / 11 % 11 = 10 then 0 else 1) + (if x % 11 = 10 then 0 else 1) = _
  rw [e _ (by omega), e _ (by omega), e _ (by omega)]
/-- whether a set is enough for the first i questions, the newest first -/
def k_el (g : Nat → Nat) (set : Nat) : Nat → Bool
  | 0 => true
  | i + 1 => k_el g set i && k_hs set (g (47 + g 46 - 1 - i)) 6
theorem k_el_iff {g : Nat → Nat} {set : Nat} : ∀ n, k_el g set n = true ↔ ∀ i, i < n → k_hs set (g (47 + g 46 - 1 - i)) 6 = true
  | 0 => ⟨fun _ i h => absurd h (Nat.not_lt_zero _), fun _ => rfl⟩
  | n + 1 => by
    rw [k_el, Bool.and_eq_true, k_el_iff n]
    constructor
    · intro h i hi
      by_cases e : i = n
      · rw [e]; exact h.2
      · exact h.1 i (by omega)
    · intro h
      exact ⟨fun i hi => h i (by omega), h n (by omega)⟩
theorem k_en0_iff {g : Nat → Nat} {set : Nat} : ∀ n, k_en0 g set n = true ↔ ∀ i, i < n → k_hs set (g (47 + i)) 6 = true
  | 0 => ⟨fun _ i h => absurd h (Nat.not_lt_zero _), fun _ => rfl⟩
  | n + 1 => by
    rw [k_en0, Bool.and_eq_true, k_en0_iff n]
    constructor
    · intro h i hi
      by_cases e : i = n
      · rw [e]; exact h.2
      · exact h.1 i (by omega)
    · intro h
      exact ⟨fun i hi => h i (by omega), h n (by omega)⟩
theorem k_el_en (g : Nat → Nat) (set : Nat) : k_el g set (g 46) = k_en g set := by
  refine Bool.eq_iff_iff.mpr ?_
  unfold k_en
  rw [k_el_iff, k_en0_iff]
  constructor
  · intro h i hi
    have h1 := h (g 46 - 1 - i) (by omega)
    rw [show 47 + g 46 - 1 - (g 46 - 1 - i) = 47 + i by omega] at h1
    exact h1
  · intro h i hi
    rw [show 47 + g 46 - 1 - i = 47 + (g 46 - 1 - i) by omega]
    exact h _ (by omega)
theorem k_lf_lf (fc : Nat → Int32) (g : Nat → Nat) (n : Nat) : k_lf (k_lf fc g n) g n = k_lf fc g n := by
  funext k
  unfold k_lf
  by_cases z : k < n
  · rw [if_pos z, if_pos z]
  · rw [if_neg z, if_neg z]
theorem k_lh_lh (hc : Nat → Int32) (g : Nat → Nat) (n : Nat) : k_lh (k_lh hc g n) g n = k_lh hc g n := by
  funext k
  unfold k_lh
  by_cases z : k < n
  · rw [if_pos z, if_pos z]
  · rw [if_neg z, if_neg z]
