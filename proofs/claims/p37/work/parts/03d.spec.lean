/-! SPEC: what the actions do to a state, and what stays true of it. -/
/-- upkeep is paid -/
def m_up (g : Nat → Nat) : Nat → Nat := k_up g 42 (g 42 + k_pc (g 41) * (k_lk (g 0) + 1))
def m_add (g : Nat → Nat) (t : Nat) : Nat → Nat := k_up (k_up (k_up g 42 (g 42 + k_pc (g 41) * (k_lk (g 0) + 1))) (1 + g 0) t) 0 (g 0 + 1)
/-- whether a triple is new and has room -/
def k_new (g : Nat → Nat) (t : Nat) : Bool := decide (g 0 < 40) && (k_ix g t).isNone
def m_put (g : Nat → Nat) (t : Nat) : Nat → Nat := if k_new g t = true then m_add g t else g
def k_pv (g : Nat → Nat) (t : Nat) : Nat := if k_new g t = true then 1 else 0
def k_ptr (tr : Nat → Int32) (g : Nat → Nat) (t : Nat) : Nat → Int32 := if k_new g t = true then upd tr (g 0) (nI t) else tr
/-- the row behind the place i is moved up, as far as the place j -/
def m_sh (g : Nat → Nat) (i j : Nat) : Nat → Nat := fun k => if 1 + i ≤ k ∧ k < 1 + j then g (k + 1) else g k
def k_sh (f : Nat → Int32) (i j : Nat) : Nat → Int32 := fun k => if i ≤ k ∧ k < j then f (k + 1) else f k
theorem m_sh_0 (g : Nat → Nat) (i : Nat) : m_sh g i i = g := by funext k; exact if_neg (fun h => by omega)
theorem k_sh_0 (f : Nat → Int32) (i : Nat) : k_sh f i i = f := by funext k; exact if_neg (fun h => by omega)
theorem m_sh_1 {g gf : Nat → Nat} {i j : Nat} (hij : i ≤ j) (h : gf = m_sh g i j) : k_up gf (1 + j) (gf (1 + j + 1)) = m_sh g i (j + 1) := by
  subst h
  funext k
  simp only [k_up, m_sh]
  (repeat' split) <;> first | rfl | omega | (subst_vars; rfl) | (rename_i h1 h2; subst h1; first | rfl | omega)
theorem k_sh_1 {f ff : Nat → Int32} {i j : Nat} (hij : i ≤ j) (h : ff = k_sh f i j) : upd ff j (ff (j + 1)) = k_sh f i (j + 1) := by
  subst h
  funext k
  simp only [upd, k_sh]
  (repeat' split) <;> first | rfl | omega | (subst_vars; rfl) | (exfalso; omega)
def m_del (g : Nat → Nat) (i : Nat) : Nat → Nat := k_up (m_sh (m_up g) i (g 0 - 1)) 0 (g 0 - 1)
def m_rem (g : Nat → Nat) (t : Nat) : Nat → Nat := match k_ix g t with
  | none => g
  | some i => m_del g i
def k_rv (g : Nat → Nat) (t : Nat) : Nat := match k_ix g t with
  | none => 0
  | some _ => 1
def k_rtr (tr : Nat → Int32) (g : Nat → Nat) (t : Nat) : Nat → Int32 := match k_ix g t with
  | none => tr
  | some i => k_sh tr i (g 0 - 1)
def m_bld (g : Nat → Nat) (q : Nat) : Nat → Nat := k_up (k_up g 43 (g 43 + g 0 * k_lk (g 0))) 41 (g 41 ||| 2 ^ q)
def m_drp (g : Nat → Nat) (q : Nat) : Nat → Nat := k_up g 41 (g 41 &&& (63 ^^^ 2 ^ q))
/-- the oldest question is forgotten -/
def m_qs (g : Nat → Nat) (j : Nat) : Nat → Nat := fun k => if 47 ≤ k ∧ k < 47 + j then g (k + 1) else g k
theorem m_qs_0 (g : Nat → Nat) : m_qs g 0 = g := by funext k; exact if_neg (fun h => by omega)
theorem m_qs_1 {g gf : Nat → Nat} {j : Nat} (h : gf = m_qs g j) : k_up gf (47 + j) (gf (47 + j + 1)) = m_qs g (j + 1) := by
  subst h
  funext k
  simp only [k_up, m_qs]
  (repeat' split) <;> first | rfl | omega | (subst_vars; rfl) | (exfalso; omega)
def m_fg (g : Nat → Nat) : Nat → Nat := if g 46 = 12 then k_up (m_qs g 11) 46 (g 46 - 1) else g
def m_ask (g : Nat → Nat) (x : Nat) : Nat → Nat := k_up (k_up (k_up (k_up (m_fg g) (47 + m_fg g 46) x) 46 (m_fg g 46 + 1)) 45 (g 45 + 1)) 44 (g 44 + k_mn g x (g 41) 6)
def k_fqs (qs : Nat → Int32) (g : Nat → Nat) : Nat → Int32 := if g 46 = 12 then k_sh qs 0 11 else qs
def k_aqs (qs : Nat → Int32) (g : Nat → Nat) (x : Nat) : Nat → Int32 := upd (k_fqs qs g) (m_fg g 46) (nI x)
theorem w_st_eq {tc : Nat → ClassId} {a a1 a2 : Nat} {tr qs : Nat → Int32} {g' : Nat → Nat} {n0 n41 n42 n43 n44 n45 n46 n59 : Nat} (h0 : g' 0 = n0) (h41 : g' 41 = n41) (h42 : g' 42 = n42) (h43 : g' 43 = n43) (h44 : g' 44 = n44) (h45 : g' 45 = n45) (h46 : g' 46 = n46) (h59 : g' 59 = n59) : w_st tc a a1 a2 tr qs g' = [(a, .inr (3, [.ref a1, .int (nI n0), .int (nI n41), .int (nI n42), .int (nI n43), .int (nI n44), .int (nI n45), .ref a2, .int (nI n46), .int (nI n59)])), (a1, .inl (tc 0, 40, .inl tr)), (a2, .inl (tc 0, 12, .inl qs))] := by
  subst h0 h41 h42 h43 h44 h45 h46 h59
  rfl
theorem k_new_t {g : Nat → Nat} {t : Nat} (h : k_new g t = true) : g 0 < 40 ∧ k_ix g t = none := by
  unfold k_new at h
  rw [Bool.and_eq_true, decide_eq_true_eq, Option.isNone_iff_eq_none] at h
  exact h
theorem k_new_of {g : Nat → Nat} {t : Nat} (h1 : g 0 < 40) (h2 : k_ix g t = none) : k_new g t = true := by
  unfold k_new
  rw [h2, decide_eq_true h1]
  rfl
theorem k_new_full {g : Nat → Nat} {t : Nat} (h1 : ¬ g 0 < 40) : k_new g t = false := by
  unfold k_new
  rw [decide_eq_false h1]
  rfl
theorem k_new_some {g : Nat → Nat} {t i : Nat} (h : k_ix g t = some i) : k_new g t = false := by
  unfold k_new
  rw [h]
  exact Bool.and_false _
/-- where two states have the same triples and kept orders, questions cost the same -/
theorem k_cn_cong {g g' : Nat → Nat} {x : Nat} : ∀ n, (∀ i, i < n → g' (1 + i) = g (1 + i)) → k_cn g' x n = k_cn g x n
  | 0, _ => rfl
  | n + 1, h => by rw [k_cn, k_cn, k_cn_cong n (fun i hi => h i (by omega)), h n (by omega)]
theorem k_cnt_cong {g g' : Nat → Nat} {x : Nat} (h0 : g' 0 = g 0) (h : ∀ i, i < g 0 → g' (1 + i) = g (1 + i)) : k_cnt g' x = k_cnt g x := by
  unfold k_cnt
  rw [h0]
  exact k_cn_cong _ h
theorem k_cb_cong {g g' : Nat → Nat} {x q : Nat} (h0 : g' 0 = g 0) (h : ∀ i, i < g 0 → g' (1 + i) = g (1 + i)) : k_cb g' x q = k_cb g x q := by
  unfold k_cb
  rw [k_cnt_cong h0 h, h0]
theorem k_mn_cong {g g' : Nat → Nat} {x set : Nat} (h0 : g' 0 = g 0) (h : ∀ i, i < g 0 → g' (1 + i) = g (1 + i)) : ∀ n, k_mn g' x set n = k_mn g x set n
  | 0 => h0
  | n + 1 => by rw [k_mn, k_mn, k_mn_cong h0 h n, k_cb_cong h0 h]
def k_cp (f h : Nat → Int32) (n : Nat) : Nat → Int32 := fun k => if k < n then f k else h k
theorem k_cp_0 (f h : Nat → Int32) : k_cp f h 0 = h := by funext k; exact if_neg (Nat.not_lt_zero _)
theorem k_cp_1 {f h : Nat → Int32} {n : Nat} : upd (k_cp f h n) n (f n) = k_cp f h (n + 1) := by
  funext k
  simp only [upd, k_cp]
  (repeat' split) <;> first | rfl | (subst_vars; rfl) | (exfalso; omega)
theorem k_and64 {x y : Nat} (h : x < 64) : x &&& y < 64 := Nat.lt_of_le_of_lt Nat.and_le_left h
theorem k_or64 : ∀ x, x < 64 → ∀ q, q < 6 → x ||| 2 ^ q < 64 := by decide +kernel
theorem R_cp {tr qs tr0 qs0 : Nat → Int32} {g : Nat → Nat} (h : k_R tr qs g) : k_R (k_cp tr tr0 (g 0)) (k_cp qs qs0 (g 46)) g :=
  ⟨fun i hi => by rw [← h.1 i hi]; exact if_pos hi, fun i hi => by rw [← h.2 i hi]; exact if_pos hi⟩
theorem ok_bld {g : Nat → Nat} {q : Nat} (hk : k_ok g) (hq : q < 6) : k_ok (m_bld g q) := by
  obtain ⟨h0, h1, h2, h3, h4, h5, h6⟩ := hk
  have e0 : m_bld g q 0 = g 0 := rfl
  have e41 : m_bld g q 41 = g 41 ||| 2 ^ q := rfl
  have e46 : m_bld g q 46 = g 46 := rfl
  have e59 : m_bld g q 59 = g 59 := rfl
  have et : ∀ i, i < 40 → m_bld g q (1 + i) = g (1 + i) := fun i hi => by unfold m_bld; rw [k_up_ne (by omega), k_up_ne (by omega)]
  have eq : ∀ i, i < 12 → m_bld g q (47 + i) = g (47 + i) := fun i hi => by unfold m_bld; rw [k_up_ne (by omega), k_up_ne (by omega)]
  unfold k_ok
  rw [e0, e41, e46, e59]
  refine ⟨h0, k_or64 _ h1 _ hq, h2, h3, fun i hi => by rw [et i (by omega)]; exact h4 i hi, fun i hi => by rw [eq i (by omega)]; exact h5 i hi, fun i j hi hj e => h6 i j hi hj ?_⟩
  rw [et i (by omega), et j (by omega)] at e
  exact e
theorem R_same {tr qs : Nat → Int32} {g g' : Nat → Nat} (h : k_R tr qs g) (h0 : g' 0 = g 0) (h46 : g' 46 = g 46) (ht : ∀ i, i < g 0 → g' (1 + i) = g (1 + i)) (hq : ∀ i, i < g 46 → g' (47 + i) = g (47 + i)) : k_R tr qs g' := by
  unfold k_R
  rw [h0, h46]
  exact ⟨fun i hi => by rw [ht i hi]; exact h.1 i hi, fun i hi => by rw [hq i hi]; exact h.2 i hi⟩
theorem ok_drp {g : Nat → Nat} {q : Nat} (hk : k_ok g) (_hq : q < 6) : k_ok (m_drp g q) := by
  obtain ⟨h0, h1, h2, h3, h4, h5, h6⟩ := hk
  have e0 : m_drp g q 0 = g 0 := rfl
  have e41 : m_drp g q 41 = g 41 &&& (63 ^^^ 2 ^ q) := rfl
  have e46 : m_drp g q 46 = g 46 := rfl
  have e59 : m_drp g q 59 = g 59 := rfl
  have et : ∀ i, i < 40 → m_drp g q (1 + i) = g (1 + i) := fun i hi => by unfold m_drp; rw [k_up_ne (by omega)]
  have eq : ∀ i, i < 12 → m_drp g q (47 + i) = g (47 + i) := fun i hi => by unfold m_drp; rw [k_up_ne (by omega)]
  unfold k_ok
  rw [e0, e41, e46, e59]
  refine ⟨h0, k_and64 h1, h2, h3, fun i hi => by rw [et i (by omega)]; exact h4 i hi, fun i hi => by rw [eq i (by omega)]; exact h5 i hi, fun i j hi hj e => h6 i j hi hj ?_⟩
  rw [et i (by omega), et j (by omega)] at e
  exact e
theorem R_bld {tr qs : Nat → Int32} {g : Nat → Nat} {q : Nat} (hk : k_ok g) (h : k_R tr qs g) : k_R tr qs (m_bld g q) :=
  R_same h rfl rfl (fun i hi => by have := hk.1; unfold m_bld; rw [k_up_ne (by omega), k_up_ne (by omega)]) (fun i hi => by have := hk.2.2.1; unfold m_bld; rw [k_up_ne (by omega), k_up_ne (by omega)])
theorem R_drp {tr qs : Nat → Int32} {g : Nat → Nat} {q : Nat} (hk : k_ok g) (h : k_R tr qs g) : k_R tr qs (m_drp g q) :=
  R_same h rfl rfl (fun i hi => by have := hk.1; unfold m_drp; rw [k_up_ne (by omega)]) (fun i hi => by have := hk.2.2.1; unfold m_drp; rw [k_up_ne (by omega)])
/-- what m_add does, place by place -/
theorem m_add_at {g : Nat → Nat} {t : Nat} (h : g 0 < 40) : m_add g t 0 = g 0 + 1 ∧ m_add g t 41 = g 41 ∧ m_add g t 46 = g 46 ∧ m_add g t 59 = g 59 ∧ (∀ i, i < g 0 → m_add g t (1 + i) = g (1 + i)) ∧ m_add g t (1 + g 0) = t ∧ ∀ i, i < 12 → m_add g t (47 + i) = g (47 + i) := by
  unfold m_add
  refine ⟨k_up_eq rfl, ?_, ?_, ?_, fun i hi => ?_, ?_, fun i hi => ?_⟩
  · rw [k_up_ne (by omega), k_up_ne (by omega), k_up_ne (by omega)]
  · rw [k_up_ne (by omega), k_up_ne (by omega), k_up_ne (by omega)]
  · rw [k_up_ne (by omega), k_up_ne (by omega), k_up_ne (by omega)]
  · rw [k_up_ne (by omega), k_up_ne (by omega), k_up_ne (by omega)]
  · rw [k_up_ne (by omega), k_up_eq rfl]
  · rw [k_up_ne (by omega), k_up_ne (by omega), k_up_ne (by omega)]
theorem k_ix0_miss {g : Nat → Nat} {t : Nat} : ∀ {n : Nat}, k_ix0 g t n = none → ∀ i, i < n → ¬ g (1 + i) = t
  | 0, _, i, hi => absurd hi (Nat.not_lt_zero i)
  | n + 1, h, i, hi => by
    rw [k_ix0] at h
    cases h1 : k_ix0 g t n with
    | some j => rw [h1] at h; cases h
    | none =>
      rw [h1] at h
      rcases Nat.lt_or_ge i n with q | q
      · exact k_ix0_miss h1 i q
      · have e : i = n := by omega
        subst e
        intro h2
        have h3 : (some i : Option Nat) = none := (if_pos h2).symm.trans h
        cases h3
theorem ok_put {g : Nat → Nat} {t : Nat} (hk : k_ok g) (ht : t < 1000) : k_ok (m_put g t) := by
  unfold m_put
  by_cases hn : k_new g t = true
  · rw [if_pos hn]
    obtain ⟨hs, hx⟩ := k_new_t hn
    obtain ⟨e0, e41, e46, e59, et, el, eq⟩ := m_add_at (t := t) hs
    obtain ⟨h0, h1, h2, h3, h4, h5, h6⟩ := hk
    unfold k_ok
    rw [e0, e41, e46, e59]
    have key : ∀ i, i < g 0 + 1 → m_add g t (1 + i) = if i = g 0 then t else g (1 + i) := fun i hi => by
      by_cases q : i = g 0
      · rw [if_pos q, q, el]
      · rw [if_neg q]; exact et i (by omega)
    refine ⟨by omega, h1, h2, h3, fun i hi => ?_, fun i hi => by rw [eq i (by omega)]; exact h5 i hi, fun i j hi hj e => ?_⟩
    · rw [key i hi]
      split
      · exact ht
      · exact h4 i (by omega)
    · rw [key i hi, key j hj] at e
      have hm := k_ix0_miss hx
      by_cases qi : i = g 0
      · by_cases qj : j = g 0
        · omega
        · rw [if_pos qi, if_neg qj] at e; exact absurd e.symm (hm j (by omega))
      · by_cases qj : j = g 0
        · rw [if_neg qi, if_pos qj] at e; exact absurd e (hm i (by omega))
        · rw [if_neg qi, if_neg qj] at e; exact h6 i j (by omega) (by omega) e
  · rw [if_neg hn]; exact hk
theorem R_put {tr qs : Nat → Int32} {g : Nat → Nat} {t : Nat} (hk : k_ok g) (h : k_R tr qs g) (_ht : t < 1000) : k_R (k_ptr tr g t) qs (m_put g t) := by
  unfold m_put k_ptr
  by_cases hn : k_new g t = true
  · rw [if_pos hn, if_pos hn]
    obtain ⟨hs, hx⟩ := k_new_t hn
    obtain ⟨e0, e41, e46, e59, et, el, eq⟩ := m_add_at (t := t) hs
    have h2 := hk.2.2.1
    unfold k_R
    rw [e0, e46]
    refine ⟨fun i hi => ?_, fun i hi => by rw [eq i (by omega)]; exact h.2 i hi⟩
    by_cases q : i = g 0
    · subst q; rw [el]; exact if_pos rfl
    · rw [et i (by omega), ← h.1 i (by omega)]; exact if_neg q
  · rw [if_neg hn, if_neg hn]; exact h
theorem m_del_at {g : Nat → Nat} {i : Nat} (h : g 0 ≤ 40) (hi : i < g 0) : m_del g i 0 = g 0 - 1 ∧ m_del g i 41 = g 41 ∧ m_del g i 46 = g 46 ∧ m_del g i 59 = g 59 ∧ (∀ k, k < g 0 - 1 → m_del g i (1 + k) = if i ≤ k then g (1 + k + 1) else g (1 + k)) ∧ ∀ k, k < 12 → m_del g i (47 + k) = g (47 + k) := by
  unfold m_del m_sh m_up k_up
  refine ⟨rfl, ?_, ?_, ?_, fun k hk => ?_, fun k hk => ?_⟩ <;> simp only [] <;> (repeat' split) <;> first | rfl | omega | (exfalso; omega)
theorem ok_rem {g : Nat → Nat} {t : Nat} (hk : k_ok g) : k_ok (m_rem g t) := by
  unfold m_rem
  cases hx : k_ix g t with
  | none => exact hk
  | some i =>
    have hi := k_ix_lt hx
    obtain ⟨h0, h1, h2, h3, h4, h5, h6⟩ := hk
    obtain ⟨e0, e41, e46, e59, et, eq⟩ := m_del_at h0 hi
    show k_ok (m_del g i)
    unfold k_ok
    rw [e0, e41, e46, e59]
    refine ⟨by omega, h1, h2, h3, fun k hk => ?_, fun k hk => by rw [eq k (by omega)]; exact h5 k hk, fun a b ha hb e => ?_⟩
    · rw [et k hk]
      split
      · exact h4 (k + 1) (by omega)
      · exact h4 k (by omega)
    · rw [et a ha, et b hb] at e
      by_cases qa : i ≤ a
      · by_cases qb : i ≤ b
        · rw [if_pos qa, if_pos qb] at e; have := h6 (a + 1) (b + 1) (by omega) (by omega) e; omega
        · rw [if_pos qa, if_neg qb] at e; have := h6 (a + 1) b (by omega) (by omega) e; omega
      · by_cases qb : i ≤ b
        · rw [if_neg qa, if_pos qb] at e; have := h6 a (b + 1) (by omega) (by omega) e; omega
        · rw [if_neg qa, if_neg qb] at e; exact h6 a b (by omega) (by omega) e
theorem R_rem {tr qs : Nat → Int32} {g : Nat → Nat} {t : Nat} (hk : k_ok g) (h : k_R tr qs g) : k_R (k_rtr tr g t) qs (m_rem g t) := by
  unfold m_rem k_rtr
  cases hx : k_ix g t with
  | none => exact h
  | some i =>
    have hi := k_ix_lt hx
    have h2 := hk.2.2.1
    obtain ⟨e0, e41, e46, e59, et, eq⟩ := m_del_at hk.1 hi
    show k_R (k_sh tr i (g 0 - 1)) qs (m_del g i)
    unfold k_R
    rw [e0, e46]
    refine ⟨fun k hk => ?_, fun k hk => by rw [eq k (by omega)]; exact h.2 k hk⟩
    rw [et k hk]
    unfold k_sh
    by_cases q : i ≤ k
    · rw [if_pos q, if_pos ⟨q, hk⟩]; exact h.1 (k + 1) (by omega)
    · rw [if_neg q, if_neg (fun z => q z.1)]; exact h.1 k (by omega)
theorem m_fg_at {g : Nat → Nat} (h : g 46 ≤ 12) : m_fg g 46 ≤ 11 ∧ (∀ k, k < 46 → m_fg g k = g k) ∧ m_fg g 59 = g 59 ∧ (∀ k, k < m_fg g 46 → m_fg g (47 + k) = if g 46 = 12 then g (47 + k + 1) else g (47 + k)) ∧ (m_fg g 46 = if g 46 = 12 then 11 else g 46) := by
  unfold m_fg
  by_cases q : g 46 = 12
  · rw [if_pos q]
    unfold k_up m_qs
    refine ⟨by simp [q], fun k hk => ?_, ?_, fun k hk => ?_, by simp [q]⟩
    · (repeat' split) <;> first | rfl | omega
    · (repeat' split) <;> first | rfl | omega
    · simp only [if_true, q] at hk ⊢; (repeat' split) <;> first | rfl | omega
  · rw [if_neg q]
    refine ⟨by omega, fun _ _ => rfl, rfl, fun k hk => by rw [if_neg q], by rw [if_neg q]⟩
theorem m_ask_at {g : Nat → Nat} {x : Nat} (h : g 46 ≤ 12) : (∀ k, k < 44 → m_ask g x k = g k) ∧ m_ask g x 46 = m_fg g 46 + 1 ∧ m_ask g x 59 = g 59 ∧ (∀ k, k < m_fg g 46 → m_ask g x (47 + k) = m_fg g (47 + k)) ∧ m_ask g x (47 + m_fg g 46) = x := by
  obtain ⟨f0, f1, f2, f3, f4⟩ := m_fg_at h
  unfold m_ask
  refine ⟨fun k hk => ?_, ?_, ?_, fun k hk => ?_, ?_⟩
  · rw [k_up_ne (by omega), k_up_ne (by omega), k_up_ne (by omega), k_up_ne (by omega)]; exact f1 k (by omega)
  · rw [k_up_ne (by omega), k_up_ne (by omega), k_up_eq rfl]
  · rw [k_up_ne (by omega), k_up_ne (by omega), k_up_ne (by omega), k_up_ne (by omega)]; exact f2
  · rw [k_up_ne (by omega), k_up_ne (by omega), k_up_ne (by omega), k_up_ne (by omega)]
  · rw [k_up_ne (by omega), k_up_ne (by omega), k_up_ne (by omega), k_up_eq rfl]
theorem m_ask_44 {g : Nat → Nat} {x : Nat} : m_ask g x 44 = g 44 + k_mn g x (g 41) 6 := k_up_eq rfl
theorem m_ask_45 {g : Nat → Nat} {x : Nat} : m_ask g x 45 = g 45 + 1 := by unfold m_ask; rw [k_up_ne (by omega), k_up_eq rfl]
theorem ok_ask {g : Nat → Nat} {x : Nat} (hk : k_ok g) (hx : x < 1331) : k_ok (m_ask g x) := by
  obtain ⟨h0, h1, h2, h3, h4, h5, h6⟩ := hk
  obtain ⟨f0, f1, f2, f3, f4⟩ := m_fg_at h2
  obtain ⟨a0, a46, a59, aq, al⟩ := m_ask_at (x := x) h2
  unfold k_ok
  rw [a0 0 (by omega), a0 41 (by omega), a46, a59]
  refine ⟨h0, h1, by omega, h3, fun i hi => by rw [a0 _ (by omega)]; exact h4 i hi, fun i hi => ?_, fun i j hi hj e => ?_⟩
  · by_cases q : i = m_fg g 46
    · rw [q, al]; exact hx
    · rw [aq i (by omega), f3 i (by omega)]
      split at f4 <;> rename_i q12
      · rw [if_pos q12]; exact h5 (i + 1) (by omega)
      · rw [if_neg q12]; exact h5 i (by omega)
  · rw [a0 _ (by omega), a0 _ (by omega)] at e; exact h6 i j hi hj e
theorem R_ask {tr qs : Nat → Int32} {g : Nat → Nat} {x : Nat} (hk : k_ok g) (h : k_R tr qs g) : k_R tr (k_aqs qs g x) (m_ask g x) := by
  have h0 := hk.1
  have h2 := hk.2.2.1
  obtain ⟨f0, f1, f2, f3, f4⟩ := m_fg_at h2
  obtain ⟨a0, a46, a59, aq, al⟩ := m_ask_at (x := x) h2
  unfold k_R
  rw [a0 0 (by omega), a46]
  refine ⟨fun i hi => by rw [a0 _ (by omega)]; exact h.1 i hi, fun i hi => ?_⟩
  unfold k_aqs
  by_cases q : i = m_fg g 46
  · rw [q, al]; exact if_pos rfl
  · rw [aq i (by omega), f3 i (by omega)]
    show (if i = m_fg g 46 then nI x else k_fqs qs g i) = _
    rw [if_neg q]
    unfold k_fqs
    split at f4 <;> rename_i q12
    · rw [if_pos q12, if_pos q12]
      show (if 0 ≤ i ∧ i < 11 then qs (i + 1) else qs i) = _
      rw [if_pos ⟨Nat.zero_le _, by omega⟩]
      exact h.2 (i + 1) (by omega)
    · rw [if_neg q12, if_neg q12]
      exact h.2 i (by omega)
def m_as3 (g : Nat → Nat) (x : Nat) : Nat → Nat := k_up (k_up (k_up (m_fg g) (47 + m_fg g 46) x) 46 (m_fg g 46 + 1)) 45 (g 45 + 1)
theorem ok_44 {h : Nat → Nat} {y : Nat} (hk : k_ok (k_up h 44 y)) : k_ok h := by
  have e : ∀ k, k ≠ 44 → k_up h 44 y k = h k := fun k hk => k_up_ne hk
  obtain ⟨h0, h1, h2, h3, h4, h5, h6⟩ := hk
  rw [e 0 (by omega)] at h0
  rw [e 41 (by omega)] at h1
  rw [e 46 (by omega)] at h2
  rw [e 59 (by omega)] at h3
  rw [e 0 (by omega)] at h4 h6
  rw [e 46 (by omega)] at h5
  refine ⟨h0, h1, h2, h3, fun i hi => ?_, fun i hi => ?_, fun i j hi hj q => h6 i j hi hj ?_⟩
  · have := h4 i hi; rwa [e _ (by omega)] at this
  · have := h5 i hi; rwa [e _ (by omega)] at this
  · rw [e _ (by omega), e _ (by omega)]; exact q
theorem ok_as3 {g : Nat → Nat} {x : Nat} (hk : k_ok g) (hx : x < 1331) : k_ok (m_as3 g x) := ok_44 (ok_ask hk hx)
theorem as3_at {g : Nat → Nat} {x : Nat} (h : g 46 ≤ 12) : (∀ k, k < 45 → m_as3 g x k = g k) := by
  obtain ⟨f0, f1, f2, f3, f4⟩ := m_fg_at h
  intro k hk
  unfold m_as3
  rw [k_up_ne (by omega), k_up_ne (by omega), k_up_ne (by omega)]
  exact f1 k (by omega)
theorem as3_ask {g : Nat → Nat} {x : Nat} (hk : k_ok g) : m_ask g x = k_up (m_as3 g x) 44 (m_as3 g x 44 + k_mn (m_as3 g x) x (m_as3 g x 41) 6) := by
  have h2 := hk.2.2.1
  have h0 := hk.1
  have ea := as3_at (x := x) h2
  rw [ea 44 (by omega), ea 41 (by omega), k_mn_cong (ea 0 (by omega)) (fun i hi => ea (1 + i) (by omega))]
  rfl
