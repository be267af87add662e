theorem k_iand (a b : Nat) : nI a &&& nI b = nI (a &&& b) := by
  apply Int32.toBitVec_inj.mp
  show BitVec.ofNat 32 a &&& BitVec.ofNat 32 b = BitVec.ofNat 32 (a &&& b)
  apply BitVec.eq_of_getLsbD_eq
  intro i hi
  simp [hi]
section RBYiand
variable {p : Program} {l : Launch} {e : Env} {R : Room} {s : State} {m : MethodId} {args : Array Value} {below : List Frame} {meth : Method} {c : Code} {H : Heap} {locs : List Loc} {cells slots : Nat} {Q : State → Prop} {cc : ByteArray} {pc : Nat} {ls : Array Slot} {rest : List Value} {D : va_G} {A : Nat → Prop} {wl : va_W} {cl : List vw_C} {tys : List (ClassId × FieldType)} {a : Nat} {H0 : Heap}
theorem ln_iand (hx : p.tables.exec = Jvm.exec) (hb : c.code = cc) {x y : Nat} (hdg : decode cc pc = .ok (.iand, 1)) (k : W p l e R s m args below meth c H locs cells slots Q (F0 m (pc + 1) ls (.int (nI (x &&& y)) :: rest))) : W p l e R s m args below meth c H locs cells slots Q (F0 m pc ls (.int (nI y) :: .int (nI x) :: rest)) :=
  lv_iand hx hb hdg (by rw [k_iand]; exact k)
end RBYiand
/-- the orders that reach all that a question binds, as a set -/
def k_cov (x : Nat) : Nat → Nat
  | 0 => 0
  | q + 1 => k_cov x q ||| (if k_rch x q = k_bnd x then 2 ^ q else 0)
theorem k_cov_lt (x : Nat) : ∀ q, q ≤ 6 → k_cov x q < 64
  | 0, _ => by show 0 < 64; decide
  | q + 1, h => by
    have h1 := k_cov_lt x q (by omega)
    rw [k_cov]
    split
    · exact k_or64 _ h1 q (by omega)
    · rw [Nat.or_zero]; exact h1
def k_cvb (b0 b1 b2 b3 b4 b5 : Bool) : Nat := (((((0 ||| (if b0 = true then 2 ^ 0 else 0)) ||| (if b1 = true then 2 ^ 1 else 0)) ||| (if b2 = true then 2 ^ 2 else 0)) ||| (if b3 = true then 2 ^ 3 else 0)) ||| (if b4 = true then 2 ^ 4 else 0)) ||| (if b5 = true then 2 ^ 5 else 0)
def k_hsb (b0 b1 b2 b3 b4 b5 : Bool) (set : Nat) : Bool := ((((((false || (k_in set 0 && b0)) || (k_in set 1 && b1)) || (k_in set 2 && b2)) || (k_in set 3 && b3)) || (k_in set 4 && b4)) || (k_in set 5 && b5))
theorem k_cvb_ok : ∀ b0 b1 b2 b3 b4 b5 : Bool, ∀ set, set < 64 → decide (k_cvb b0 b1 b2 b3 b4 b5 &&& set = 0) = !(k_hsb b0 b1 b2 b3 b4 b5 set) := by decide +kernel
theorem k_cov_hs {x set : Nat} (hs : set < 64) : decide (k_cov x 6 &&& set = 0) = !(k_hs set x 6) := by
  have h := k_cvb_ok (decide (k_rch x 0 = k_bnd x)) (decide (k_rch x 1 = k_bnd x)) (decide (k_rch x 2 = k_bnd x)) (decide (k_rch x 3 = k_bnd x)) (decide (k_rch x 4 = k_bnd x)) (decide (k_rch x 5 = k_bnd x)) set hs
  have e : k_cvb (decide (k_rch x 0 = k_bnd x)) (decide (k_rch x 1 = k_bnd x)) (decide (k_rch x 2 = k_bnd x)) (decide (k_rch x 3 = k_bnd x)) (decide (k_rch x 4 = k_bnd x)) (decide (k_rch x 5 = k_bnd x)) = k_cov x 6 := by
    simp only [k_cvb, k_cov, decide_eq_true_eq]
  rw [e] at h
  exact h
theorem k_cov_no {x set : Nat} (hs : set < 64) (h : k_cov x 6 &&& set = 0) : k_hs set x 6 = false := by
  have h1 := k_cov_hs (x := x) hs
  rw [decide_eq_true h] at h1
  cases h2 : k_hs set x 6 with
  | false => rfl
  | true => rw [h2] at h1; cases h1
theorem k_cov_yes {x set : Nat} (hs : set < 64) (h : ¬ k_cov x 6 &&& set = 0) : k_hs set x 6 = true := by
  have h1 := k_cov_hs (x := x) hs
  rw [decide_eq_false h] at h1
  cases h2 : k_hs set x 6 with
  | true => rfl
  | false => rw [h2] at h1; cases h1
theorem k_en0_no {g : Nat → Nat} {set i : Nat} (h : k_hs set (g (47 + i)) 6 = false) : ∀ n, i < n → k_en0 g set n = false
  | 0, hn => absurd hn (Nat.not_lt_zero _)
  | n + 1, hn => by
    rw [k_en0]
    by_cases q : i = n
    · subst q; rw [h]; exact Bool.and_false _
    · rw [k_en0_no h n (by omega)]; rfl
theorem k_en_no {g : Nat → Nat} {set i : Nat} (hs : set < 64) (hi : i < g 46) (h : k_cov (g (47 + i)) 6 &&& set = 0) : k_en g set = false := k_en0_no (k_cov_no hs h) _ hi
theorem k_en_go {g : Nat → Nat} {set i : Nat} (hs : set < 64) (h : k_en0 g set i = true) (h2 : ¬ k_cov (g (47 + i)) 6 &&& set = 0) : k_en0 g set (i + 1) = true := by
  rw [k_en0, h, k_cov_yes hs h2]; rfl
/-- the rows that advice has learnt -/
def k_lf (fc : Nat → Int32) (g : Nat → Nat) (n : Nat) : Nat → Int32 := fun k => if k < n then nI (k_cb g (g (47 + k / 6)) (k % 6)) else fc k
def k_lh (hc : Nat → Int32) (g : Nat → Nat) (n : Nat) : Nat → Int32 := fun k => if k < n then nI (k_cov (g (47 + k)) 6) else hc k
theorem k_lf_0 (fc : Nat → Int32) (g : Nat → Nat) : k_lf fc g 0 = fc := by funext k; exact if_neg (Nat.not_lt_zero _)
theorem k_lh_0 (hc : Nat → Int32) (g : Nat → Nat) : k_lh hc g 0 = hc := by funext k; exact if_neg (Nat.not_lt_zero _)
theorem k_lf_1 {fc ff : Nat → Int32} {g : Nat → Nat} {i q n : Nat} (hq : q < 6) (e : ff = k_lf fc g n) (hn : n = 6 * i + q) : upd ff n (nI (k_cb g (g (47 + i)) q)) = k_lf fc g (n + 1) := by
  funext k
  rw [e]
  by_cases h : k = n
  · rw [show upd (k_lf fc g n) n (nI (k_cb g (g (47 + i)) q)) k = nI (k_cb g (g (47 + i)) q) from if_pos h, show k_lf fc g (n + 1) k = nI (k_cb g (g (47 + k / 6)) (k % 6)) from if_pos (by omega), show k / 6 = i by omega, show k % 6 = q by omega]
  · rw [show upd (k_lf fc g n) n (nI (k_cb g (g (47 + i)) q)) k = k_lf fc g n k from if_neg h]
    by_cases h2 : k < n
    · rw [show k_lf fc g n k = _ from if_pos h2, show k_lf fc g (n + 1) k = _ from if_pos (by omega)]
    · rw [show k_lf fc g n k = _ from if_neg h2, show k_lf fc g (n + 1) k = _ from if_neg (by omega)]
theorem k_lh_1 {hc hh : Nat → Int32} {g : Nat → Nat} {i : Nat} (e : hh = k_lh hc g i) : upd hh i (nI (k_cov (g (47 + i)) 6)) = k_lh hc g (i + 1) := by
  funext k
  rw [e]
  by_cases h : k = i
  · rw [show upd (k_lh hc g i) i (nI (k_cov (g (47 + i)) 6)) k = nI (k_cov (g (47 + i)) 6) from if_pos h, show k_lh hc g (i + 1) k = nI (k_cov (g (47 + k)) 6) from if_pos (by omega), h]
  · rw [show upd (k_lh hc g i) i (nI (k_cov (g (47 + i)) 6)) k = k_lh hc g i k from if_neg h]
    by_cases h2 : k < i
    · rw [show k_lh hc g i k = _ from if_pos h2, show k_lh hc g (i + 1) k = _ from if_pos (by omega)]
    · rw [show k_lh hc g i k = _ from if_neg h2, show k_lh hc g (i + 1) k = _ from if_neg (by omega)]
def k_La (fc hc : Nat → Int32) (g : Nat → Nat) : Prop := (∀ i q, i < g 46 → q < 6 → fc (6 * i + q) = nI (k_cb g (g (47 + i)) q)) ∧ ∀ i, i < g 46 → hc i = nI (k_cov (g (47 + i)) 6)
theorem k_La_ok (fc hc : Nat → Int32) (g : Nat → Nat) : k_La (k_lf fc g (6 * g 46)) (k_lh hc g (g 46)) g := by
  refine ⟨fun i q hi hq => ?_, fun i hi => if_pos hi⟩
  rw [show k_lf fc g (6 * g 46) (6 * i + q) = _ from if_pos (by omega), show (6 * i + q) / 6 = i by omega, show (6 * i + q) % 6 = q by omega]
/-- the smallest cover, searched from the largest set down -/
def k_dn (g : Nat → Nat) : Nat → Nat
  | 0 => 63
  | j + 1 => if k_pc (63 - j) ≤ k_pc (k_dn g j) ∧ k_en g (63 - j) = true then 63 - j else k_dn g j
theorem k_dn_le (g : Nat → Nat) : ∀ j, k_dn g j ≤ 63
  | 0 => Nat.le_refl _
  | j + 1 => by have h := k_dn_le g j; rw [k_dn]; split <;> omega
theorem k_all6_ok : ∀ x, x < 1331 → k_hs 63 x 6 = true := by decide +kernel
theorem k_en63 {g : Nat → Nat} (hk : k_ok g) : ∀ n, n ≤ g 46 → k_en0 g 63 n = true
  | 0, _ => rfl
  | n + 1, h => by
    rw [k_en0, k_en63 hk n (by omega), k_all6_ok _ (hk.2.2.2.2.2.1 n (by omega))]; rfl
theorem k_dn_en {g : Nat → Nat} (hk : k_ok g) : ∀ j, k_en g (k_dn g j) = true
  | 0 => k_en63 hk _ (Nat.le_refl _)
  | j + 1 => by
    rw [k_dn]; split
    · next h => exact h.2
    · exact k_dn_en hk j
theorem k_dn_min {g : Nat → Nat} (hk : k_ok g) : ∀ j, j ≤ 64 → ∀ s, s ≤ 63 → 63 - s < j → k_en g s = true → k_pc (k_dn g j) < k_pc s ∨ (k_pc (k_dn g j) = k_pc s ∧ k_dn g j ≤ s)
  | 0, _, s, _, h, _ => absurd h (Nat.not_lt_zero _)
  | j + 1, hj, s, hs, h, he => by
    rw [k_dn]
    by_cases q : k_pc (63 - j) ≤ k_pc (k_dn g j) ∧ k_en g (63 - j) = true
    · rw [if_pos q]
      by_cases e : 63 - s = j
      · have e2 : s = 63 - j := by omega
        exact Or.inr ⟨by rw [e2], by omega⟩
      · have ih := k_dn_min hk j (by omega) s hs (by omega) he
        rcases ih with ih | ih
        · exact Or.inl (by omega)
        · by_cases w : k_pc (63 - j) < k_pc s
          · exact Or.inl w
          · exact Or.inr ⟨by omega, by omega⟩
    · rw [if_neg q]
      by_cases e : 63 - s = j
      · have e2 : s = 63 - j := by omega
        by_cases w : k_pc (63 - j) ≤ k_pc (k_dn g j)
        · exact absurd ⟨w, by rw [← e2]; exact he⟩ q
        · rw [e2]; exact Or.inl (by omega)
      · exact k_dn_min hk j (by omega) s hs (by omega) he
theorem k_nd_min {g : Nat → Nat} : ∀ n, (k_nd g n = none → ∀ s, s < n → k_en g s = false) ∧ ∀ r, k_nd g n = some r → r < n ∧ k_en g r = true ∧ ∀ s, s < n → k_en g s = true → k_pc r < k_pc s ∨ (k_pc r = k_pc s ∧ r ≤ s)
  | 0 => ⟨fun _ s h => absurd h (Nat.not_lt_zero _), fun r h => by cases h⟩
  | n + 1 => by
    obtain ⟨h1, h2⟩ := k_nd_min (g := g) n
    rw [k_nd]
    cases q : k_nd g n with
    | none =>
      have h1 := h1 q
      by_cases e : k_en g n = true
      · show ((if k_en g n = true then some n else none) = none → _) ∧ ∀ r, (if k_en g n = true then some n else none) = some r → _
        rw [if_pos e]
        refine ⟨fun h => (by cases h), fun r h => ?_⟩
        cases h
        refine ⟨by omega, e, fun s hs hes => ?_⟩
        by_cases w : s = n
        · exact Or.inr ⟨by rw [w], by omega⟩
        · rw [h1 s (by omega)] at hes; cases hes
      · show ((if k_en g n = true then some n else none) = none → _) ∧ ∀ r, (if k_en g n = true then some n else none) = some r → _
        rw [if_neg e]
        refine ⟨fun _ s hs => ?_, fun r h => (by cases h)⟩
        by_cases w : s = n
        · rw [w]; exact Bool.eq_false_iff.mpr e
        · exact h1 s (by omega)
    | some r0 =>
      obtain ⟨a, b, d⟩ := h2 r0 q
      by_cases e : k_en g n = true ∧ k_pc n < k_pc r0
      · show ((if k_en g n = true ∧ k_pc n < k_pc r0 then some n else some r0) = none → _) ∧ ∀ r, (if k_en g n = true ∧ k_pc n < k_pc r0 then some n else some r0) = some r → _
        rw [if_pos e]
        refine ⟨fun h => (by cases h), fun r h => ?_⟩
        cases h
        refine ⟨by omega, e.1, fun s hs hes => ?_⟩
        by_cases w : s = n
        · exact Or.inr ⟨by rw [w], by omega⟩
        · have := d s (by omega) hes; exact Or.inl (by omega)
      · show ((if k_en g n = true ∧ k_pc n < k_pc r0 then some n else some r0) = none → _) ∧ ∀ r, (if k_en g n = true ∧ k_pc n < k_pc r0 then some n else some r0) = some r → _
        rw [if_neg e]
        refine ⟨fun h => (by cases h), fun r h => ?_⟩
        cases h
        refine ⟨by omega, b, fun s hs hes => ?_⟩
        by_cases w : s = n
        · subst w
          by_cases z : k_pc s < k_pc r0
          · exact absurd ⟨hes, z⟩ e
          · by_cases z2 : k_pc r0 < k_pc s
            · exact Or.inl z2
            · exact Or.inr ⟨by omega, by omega⟩
        · exact d s (by omega) hes
theorem k_nd_dn {g : Nat → Nat} (hk : k_ok g) : k_nd g 64 = some (k_dn g 64) := by
  have hl := k_dn_le g 64
  have he := k_dn_en hk 64
  obtain ⟨h1, h2⟩ := k_nd_min (g := g) 64
  cases q : k_nd g 64 with
  | none => have := h1 q (k_dn g 64) (by omega); rw [he] at this; cases this
  | some r =>
    obtain ⟨a, b, d⟩ := h2 r q
    have x1 := d (k_dn g 64) (by omega) he
    have x2 := k_dn_min hk 64 (Nat.le_refl _) r (by omega) (by omega) b
    have e : r = k_dn g 64 := by omega
    rw [e]
/-- advice: its object, its rows -/
abbrev w_ad (tc : Nat → ClassId) (d0 d1 d2 : Nat) (fc hc : Nat → Int32) (nq fw kp up : Nat) : va_W := [(d0, .inr (0, [.ref d1, .ref d2, .int (nI nq), .int (nI fw), .int (nI kp), .int (nI up)])), (d1, .inl (tc 0, 72, .inl fc)), (d2, .inl (tc 0, 12, .inl hc))]
