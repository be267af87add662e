/-- wide numbers -/
theorem lN63 {n : Nat} (h : n < 2 ^ 63) : (lN n).toInt = (n : Int) := by
  unfold lN; exact Int64.toInt_ofNat_of_lt h
theorem lN_le63 {a b : Nat} (ha : a < 2 ^ 63) (hb : b < 2 ^ 63) : lN a ≤ lN b ↔ a ≤ b := by
  rw [Int64.le_iff_toInt_le, lN63 ha, lN63 hb]; omega
theorem lN_div {a b : Nat} (ha : a < 2 ^ 63) (hb : b < 2 ^ 63) : lN a / lN b = lN (a / b) := by
  have h : a / b < 2 ^ 63 := Nat.lt_of_le_of_lt (Nat.div_le_self _ _) ha
  apply Int64.toInt_inj.mp
  rw [Int64.toInt_div, lN63 ha, lN63 hb, lN63 h, ← Int.ofNat_tdiv]
  generalize a / b = x at *
  exact Int.bmod_eq_of_le (by omega) (by omega)
theorem lN_rem {a b : Nat} (ha : a < 2 ^ 63) (hb : b < 2 ^ 63) : lN a % lN b = lN (a % b) := by
  have h : a % b < 2 ^ 63 := Nat.lt_of_le_of_lt (Nat.mod_le _ _) ha
  apply Int64.toInt_inj.mp
  rw [Int64.toInt_mod, lN63 ha, lN63 hb, lN63 h, ← Int.ofNat_tmod]
def k_rr (x : Int64) : Nat := x.toUInt64.toNat / 2 ^ 33
theorem k_rr_lt (x : Int64) : k_rr x < 2 ^ 31 := by
  have h : x.toUInt64.toNat < 2 ^ 64 := x.toUInt64.toNat_lt
  unfold k_rr; omega
theorem k_rr_ok (x : Int64) : (x.toUInt64 >>> ((nI 33).toInt64.toUInt64 &&& Int64.toUInt64 63)).toInt64 = lN (k_rr x) := by
  have e : (nI 33).toInt64.toUInt64 &&& Int64.toUInt64 63 = 33 := by decide
  rw [e]
  have h : x.toUInt64 >>> 33 = UInt64.ofNat (k_rr x) := by
    apply UInt64.toNat_inj.mp
    rw [UInt64.toNat_shiftRight, UInt64.toNat_ofNat_of_lt' (Nat.lt_trans (k_rr_lt x) (by decide))]
    show x.toUInt64.toNat >>> 33 = _
    rw [Nat.shiftRight_eq_div_pow]; rfl
  rw [h]; rfl
section RBYldiv
variable {p : Program} {l : Launch} {e : Env} {R : Room} {s : State} {m : MethodId} {args : Array Value} {below : List Frame} {meth : Method} {c : Code} {H : Heap} {locs : List Loc} {cells slots : Nat} {Q : State → Prop} {cc : ByteArray} {pc : Nat} {ls : Array Slot} {rest : List Value} {D : va_G} {A : Nat → Prop} {wl : va_W} {cl : List vw_C} {tys : List (ClassId × FieldType)} {a : Nat} {H0 : Heap}
theorem ln_ldiv (hx : p.tables.exec = Jvm.exec) (hb : c.code = cc) {x y : Nat} (hdg : decode cc pc = .ok (.ldiv, 1)) (h1 : x < 2 ^ 63) (h2 : y < 2 ^ 63) (h3 : ¬ lN y = 0) (k : W p l e R s m args below meth c H locs cells slots Q (F0 m (pc + 1) ls (.long (lN (x / y)) :: rest))) : W p l e R s m args below meth c H locs cells slots Q (F0 m pc ls (.long (lN y) :: .long (lN x) :: rest)) :=
  lv_ldiv hx hb hdg h3 (by rw [lN_div h1 h2]; exact k)
end RBYldiv
theorem lN_mod (x y : Nat) : lN x - lN (x / y) * lN y = lN (x % y) := by
  have h : lN x = lN (x / y) * lN y + lN (x % y) := by
    unfold lN
    rw [← Int64.ofNat_mul, ← Int64.ofNat_add, Nat.div_add_mod']
  rw [h, Int64.add_comm, Int64.add_sub_cancel]
section RBYlrem
variable {p : Program} {l : Launch} {e : Env} {R : Room} {s : State} {m : MethodId} {args : Array Value} {below : List Frame} {meth : Method} {c : Code} {H : Heap} {locs : List Loc} {cells slots : Nat} {Q : State → Prop} {cc : ByteArray} {pc : Nat} {ls : Array Slot} {rest : List Value} {D : va_G} {A : Nat → Prop} {wl : va_W} {cl : List vw_C} {tys : List (ClassId × FieldType)} {a : Nat} {H0 : Heap}
theorem ln_lrem (hx : p.tables.exec = Jvm.exec) (hb : c.code = cc) {x y : Nat} (hdg : decode cc pc = .ok (.lrem, 1)) (h1 : x < 2 ^ 63) (h2 : y < 2 ^ 63) (h3 : ¬ lN y = 0) (k : W p l e R s m args below meth c H locs cells slots Q (F0 m (pc + 1) ls (.long (lN (x % y)) :: rest))) : W p l e R s m args below meth c H locs cells slots Q (F0 m pc ls (.long (lN y) :: .long (lN x) :: rest)) :=
  lv_lrem hx hb hdg h3 (by rw [lN_div h1 h2, lN_mod]; exact k)
end RBYlrem
/-- one command of a script: its first digit, its second, its last three -/
def m_sc (g : Nat → Nat) (cc fi re : Nat) : Nat → Nat := match cc with
  | 1 => if fi = 0 then m_put g re else g
  | 2 => if fi = 0 then m_rem g re else g
  | 3 => if 1000 * fi + re < 1331 then m_ask g (1000 * fi + re) else g
  | 4 => if re = 0 ∧ fi < 6 ∧ k_in (g 41) fi = false then m_bld g fi else g
  | 5 => if re = 0 ∧ fi < 6 ∧ k_in (g 41) fi = true then m_drp g fi else g
  | 6 => if 1000 * fi + re = 0 then m_tdy g else g
  | _ => g
def k_sc (g : Nat → Nat) (cc fi re : Nat) : Bool := match cc with
  | 1 => decide (fi = 0 ∧ k_af g re = 0)
  | 2 => decide (fi = 0)
  | 3 => decide (1000 * fi + re < 1331)
  | 4 => decide (re = 0 ∧ fi < 6 ∧ k_in (g 41) fi = false)
  | 5 => decide (re = 0 ∧ fi < 6 ∧ k_in (g 41) fi = true)
  | 6 => decide (1000 * fi + re = 0 ∧ ¬ k_tv g = none)
  | 7 => decide (1000 * fi + re < 100 ∧ 1000 * fi + re ≤ g 0)
  | 8 => decide (1000 * fi + re < 1331 ∧ k_mn g (1000 * fi + re) (g 41) 6 < g 0)
  | 9 => decide (fi = 0 ∧ ¬ nI re < nI (g 44))
  | _ => false
def k_sct (tr : Nat → Int32) (g : Nat → Nat) (cc fi re : Nat) : Nat → Int32 := match cc with
  | 1 => if fi = 0 then k_ptr tr g re else tr
  | 2 => if fi = 0 then k_rtr tr g re else tr
  | _ => tr
def k_scq (qs : Nat → Int32) (g : Nat → Nat) (cc fi re : Nat) : Nat → Int32 := match cc with
  | 3 => if 1000 * fi + re < 1331 then k_aqs qs g (1000 * fi + re) else qs
  | _ => qs
theorem sc_cases {P : Nat → Prop} (h0 : P 0) (h1 : P 1) (h2 : P 2) (h3 : P 3) (h4 : P 4) (h5 : P 5) (h6 : P 6) (h7 : ∀ n, P (n + 7)) : ∀ n, P n
  | 0 => h0 | 1 => h1 | 2 => h2 | 3 => h3 | 4 => h4 | 5 => h5 | 6 => h6 | n + 7 => h7 n
theorem m_sc_hi (g : Nat → Nat) (n fi re : Nat) : m_sc g (n + 7) fi re = g := rfl
theorem k_sct_hi (tr : Nat → Int32) (g : Nat → Nat) (n fi re : Nat) : k_sct tr g (n + 7) fi re = tr := rfl
theorem k_scq_hi (qs : Nat → Int32) (g : Nat → Nat) (n fi re : Nat) : k_scq qs g (n + 7) fi re = qs := rfl
theorem ok_sc {g : Nat → Nat} (hk : k_ok g) {fi re : Nat} (h2 : re < 1000) : ∀ cc, k_ok (m_sc g cc fi re) := by
  refine sc_cases hk ?_ ?_ ?_ ?_ ?_ ?_ (fun n => by rw [m_sc_hi]; exact hk)
  · show k_ok (if _ then _ else _); split
    · exact ok_put hk h2
    · exact hk
  · show k_ok (if _ then _ else _); split
    · exact ok_rem hk
    · exact hk
  · show k_ok (if _ then _ else _); split
    · exact ok_ask hk (by assumption)
    · exact hk
  · show k_ok (if _ then _ else _); split
    · exact ok_bld hk (by omega)
    · exact hk
  · show k_ok (if _ then _ else _); split
    · exact ok_drp hk (by omega)
    · exact hk
  · show k_ok (if _ then _ else _); split
    · exact ok_tdy hk
    · exact hk
theorem R_sc {tr qs : Nat → Int32} {g : Nat → Nat} (hk : k_ok g) (hR : k_R tr qs g) {fi re : Nat} (h2 : re < 1000) : ∀ cc, k_R (k_sct tr g cc fi re) (k_scq qs g cc fi re) (m_sc g cc fi re) := by
  refine sc_cases hR ?_ ?_ ?_ ?_ ?_ ?_ (fun n => by rw [m_sc_hi, k_sct_hi, k_scq_hi]; exact hR)
  · by_cases q : fi = 0
    · show k_R (if _ then _ else _) _ (if _ then _ else _); rw [if_pos q, if_pos q]; exact R_put hk hR h2
    · show k_R (if _ then _ else _) _ (if _ then _ else _); rw [if_neg q, if_neg q]; exact hR
  · by_cases q : fi = 0
    · show k_R (if _ then _ else _) _ (if _ then _ else _); rw [if_pos q, if_pos q]; exact R_rem hk hR
    · show k_R (if _ then _ else _) _ (if _ then _ else _); rw [if_neg q, if_neg q]; exact hR
  · by_cases q : 1000 * fi + re < 1331
    · show k_R _ (if _ then _ else _) (if _ then _ else _); rw [if_pos q, if_pos q]; exact R_ask hk hR
    · show k_R _ (if _ then _ else _) (if _ then _ else _); rw [if_neg q, if_neg q]; exact hR
  · show k_R _ _ (if _ then _ else _); split
    · exact R_bld hk hR
    · exact hR
  · show k_R _ _ (if _ then _ else _); split
    · exact R_drp hk hR
    · exact hR
  · show k_R _ _ (if _ then _ else _); split
    · exact R_tdy hk hR
    · exact hR
/-- a command as its five digits -/
def m_sg (g : Nat → Nat) (x : Nat) : Nat → Nat := m_sc g (x / 10000) (x / 1000 % 10) (x % 1000)
def k_sg (g : Nat → Nat) (x : Nat) : Bool := k_sc g (x / 10000) (x / 1000 % 10) (x % 1000)
def k_sgt (tr : Nat → Int32) (g : Nat → Nat) (x : Nat) : Nat → Int32 := k_sct tr g (x / 10000) (x / 1000 % 10) (x % 1000)
def k_sgq (qs : Nat → Int32) (g : Nat → Nat) (x : Nat) : Nat → Int32 := k_scq qs g (x / 10000) (x / 1000 % 10) (x % 1000)
theorem ok_sg {g : Nat → Nat} (hk : k_ok g) (x : Nat) : k_ok (m_sg g x) := ok_sc hk (Nat.mod_lt _ (by decide)) _
theorem R_sg {tr qs : Nat → Int32} {g : Nat → Nat} (hk : k_ok g) (hR : k_R tr qs g) (x : Nat) : k_R (k_sgt tr g x) (k_sgq qs g x) (m_sg g x) := R_sc hk hR (Nat.mod_lt _ (by decide)) _
/-- the commands of a script of n -/
def k_grs (n sc : Nat) : List Nat := if n = 1 then [sc % 100000] else if n = 2 then [sc / 100000 % 100000, sc % 100000] else [sc / 100000 / 100000 % 100000, sc / 100000 % 100000, sc % 100000]
def m_rn : (Nat → Nat) → List Nat → Nat → Nat
  | g, [] => g
  | g, x :: xs => if k_sg g x = true then m_rn (m_sg g x) xs else m_sg g x
def k_rn : (Nat → Nat) → List Nat → Nat → Option Nat
  | _, [], _ => none
  | g, x :: xs, k => if k_sg g x = true then k_rn (m_sg g x) xs (k + 1) else some k
def k_rnt : (Nat → Int32) → (Nat → Nat) → List Nat → Nat → Int32
  | tr, _, [] => tr
  | tr, g, x :: xs => if k_sg g x = true then k_rnt (k_sgt tr g x) (m_sg g x) xs else k_sgt tr g x
def k_rnq : (Nat → Int32) → (Nat → Nat) → List Nat → Nat → Int32
  | qs, _, [] => qs
  | qs, g, x :: xs => if k_sg g x = true then k_rnq (k_sgq qs g x) (m_sg g x) xs else k_sgq qs g x
/-- one turn of a simulation -/
def k_tri (r : Nat) : Nat := 100 * (r / 16 % 4) + 10 * (r / 64 % 4) + r / 256 % 4
def k_que (r : Nat) : Nat := 121 * min 10 (r / 16 % 16) + 11 * min 10 (r / 256 % 16) + min 10 (r / 4096 % 16)
theorem k_tri_lt (r : Nat) : k_tri r < 1000 := by unfold k_tri; omega
theorem k_que_lt (r : Nat) : k_que r < 1331 := by unfold k_que; omega
def m_tn (g : Nat → Nat) (r : Nat) : Nat → Nat := if r % 16 ≤ 4 then m_put g (k_tri r) else if r % 16 = 5 then m_rem g (k_tri r) else if r % 16 ≤ 13 then m_ask g (k_que r) else m_tdy g
def k_tnt (tr : Nat → Int32) (g : Nat → Nat) (r : Nat) : Nat → Int32 := if r % 16 ≤ 4 then k_ptr tr g (k_tri r) else if r % 16 = 5 then k_rtr tr g (k_tri r) else tr
def k_tnq (qs : Nat → Int32) (g : Nat → Nat) (r : Nat) : Nat → Int32 := if r % 16 ≤ 4 then qs else if r % 16 = 5 then qs else if r % 16 ≤ 13 then k_aqs qs g (k_que r) else qs
theorem ok_tn {g : Nat → Nat} (hk : k_ok g) (r : Nat) : k_ok (m_tn g r) := by
  unfold m_tn; split
  · exact ok_put hk (k_tri_lt r)
  · split
    · exact ok_rem hk
    · split
      · exact ok_ask hk (k_que_lt r)
      · exact ok_tdy hk
theorem R_tn {tr qs : Nat → Int32} {g : Nat → Nat} (hk : k_ok g) (hR : k_R tr qs g) (r : Nat) : k_R (k_tnt tr g r) (k_tnq qs g r) (m_tn g r) := by
  by_cases q : r % 16 ≤ 4
  · rw [m_tn, k_tnt, k_tnq, if_pos q, if_pos q, if_pos q]; exact R_put hk hR (k_tri_lt r)
  · rw [m_tn, k_tnt, k_tnq, if_neg q, if_neg q, if_neg q]
    by_cases q2 : r % 16 = 5
    · rw [if_pos q2, if_pos q2, if_pos q2]; exact R_rem hk hR
    · rw [if_neg q2, if_neg q2, if_neg q2]
      split
      · exact R_ask hk hR
      · exact R_tdy hk hR
theorem tn_44 {g : Nat → Nat} (hk : k_ok g) (r : Nat) : g 44 ≤ m_tn g r 44 ∧ m_tn g r 44 ≤ g 44 + 40 := by
  have h0 := hk.1
  unfold m_tn; split
  · unfold m_put; split
    · rw [show m_add g (k_tri r) 44 = g 44 by rw [m_add, k_up_ne (by omega), k_up_ne (by have := (k_new_t (by assumption)).1; omega), k_up_ne (by omega)]]; omega
    · omega
  · split
    · unfold m_rem
      cases h : k_ix g (k_tri r) with
      | none => exact ⟨Nat.le_refl _, by show g 44 ≤ g 44 + 40; omega⟩
      | some i =>
        have hi := k_ix_lt h
        show g 44 ≤ m_del g i 44 ∧ m_del g i 44 ≤ g 44 + 40
        rw [show m_del g i 44 = g 44 by rw [m_del, k_up_ne (by omega), m_sh, if_neg (by omega), m_up, k_up_ne (by omega)]]; omega
    · split
      · have hm := k_mn_le g (k_que r) (g 41) 6
        rw [m_ask_44]; omega
      · unfold m_tdy
        cases h : k_go g 6 with
        | some q => show g 44 ≤ m_bld g q 44 ∧ m_bld g q 44 ≤ g 44 + 40; rw [show m_bld g q 44 = g 44 by rw [m_bld, k_up_ne (by omega), k_up_ne (by omega)]]; omega
        | none =>
          cases h2 : k_lo g 6 with
          | some q => show g 44 ≤ m_drp g q 44 ∧ m_drp g q 44 ≤ g 44 + 40; rw [show m_drp g q 44 = g 44 by rw [m_drp, k_up_ne (by omega)]]; omega
          | none => exact ⟨Nat.le_refl _, by show g 44 ≤ _; omega⟩
def k_xs (x : Int64) : Nat → Int64
  | 0 => x
  | k + 1 => k_xs x k * 6364136223846793005 + 1442695040888963407
def m_sim (g : Nat → Nat) (x : Int64) : Nat → Nat → Nat
  | 0 => g
  | k + 1 => m_tn (m_sim g x k) (k_rr (k_xs x (k + 1)))
def k_simt (tr : Nat → Int32) (g : Nat → Nat) (x : Int64) : Nat → Nat → Int32
  | 0 => tr
  | k + 1 => k_tnt (k_simt tr g x k) (m_sim g x k) (k_rr (k_xs x (k + 1)))
def k_simq (qs : Nat → Int32) (g : Nat → Nat) (x : Int64) : Nat → Nat → Int32
  | 0 => qs
  | k + 1 => k_tnq (k_simq qs g x k) (m_sim g x k) (k_rr (k_xs x (k + 1)))
theorem ok_sim {g : Nat → Nat} (hk : k_ok g) (x : Int64) : ∀ k, k_ok (m_sim g x k)
  | 0 => hk
  | k + 1 => ok_tn (ok_sim hk x k) _
theorem R_sim {tr qs : Nat → Int32} {g : Nat → Nat} (hk : k_ok g) (hR : k_R tr qs g) (x : Int64) : ∀ k, k_R (k_simt tr g x k) (k_simq qs g x k) (m_sim g x k)
  | 0 => hR
  | k + 1 => R_tn (ok_sim hk x k) (R_sim hk hR x k) _
theorem sim_44 {g : Nat → Nat} (hk : k_ok g) (x : Int64) : ∀ k, g 44 ≤ m_sim g x k 44 ∧ m_sim g x k 44 ≤ g 44 + 40 * k
  | 0 => ⟨Nat.le_refl _, Nat.le_refl _⟩
  | k + 1 => by
    have h := sim_44 hk x k
    have h2 := tn_44 (ok_sim hk x k) (k_rr (k_xs x (k + 1)))
    show g 44 ≤ m_tn (m_sim g x k) _ 44 ∧ m_tn (m_sim g x k) _ 44 ≤ g 44 + 40 * (k + 1)
    omega
def k_smv (g gf : Nat → Nat) : Nat := 1000 * k_pc (gf 41) + min 999 (gf 44 - g 44)
/-- what was put aside is put back -/
def k_bk (g ga gx : Nat → Nat) : Nat → Nat := k_win (k_win g ga 0 0 60) gx 0 0 60
theorem k_bk_lik (g ga gx : Nat → Nat) : k_lik g (k_bk g ga gx) := fun k hk => by
  unfold k_bk
  rw [k_win_in (by omega) (by omega), k_win_in (by omega) (by omega), Nat.sub_zero, Nat.zero_add, Nat.sub_zero, Nat.zero_add]
theorem lik_win {g sv g0 : Nat → Nat} {d : Nat} (h : ∀ k, k < 60 → sv (d + k) = g k) : k_lik g (k_win sv g0 0 d 60) := fun k hk => by
  rw [k_win_in (by omega) (by omega), Nat.sub_zero]; exact h k hk
theorem k_tv_lt {g : Nat → Nat} {r : Nat} (h : k_tv g = some r) : r < 2 ^ 31 := by
  unfold k_tv at h
  cases h1 : k_go g 6 with
  | some q => rw [h1] at h; have h2 := k_go_lt h1; cases h; omega
  | none => rw [h1] at h; have h2 := k_lo_lt h; omega
