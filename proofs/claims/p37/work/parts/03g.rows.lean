/-! ROWS over bytes, booleans, characters. -/
theorem k_upBy (u : Nat → Nat) (i c : Nat) : upd (fun k => byI (u k)) i (byI c) = fun k => byI (k_up u i c k) := by
  funext k
  show (if k = i then byI c else byI (u k)) = byI (if k = i then c else u k)
  split <;> rfl
theorem k_upBo (iz : Nat → Bool) (i : Nat) (v : Bool) : upd (fun k => bI (iz k)) i (bI v) = fun k => bI (va_up iz i v k) := by
  funext k
  show (if k = i then bI v else bI (iz k)) = bI (if k = i then v else iz k)
  split <;> rfl
theorem k_narBy (c : Nat) : vp_nar .byte (byI c) = byI c := pk_vb (nI c)
theorem k_narBo (v : Bool) : vp_nar .boolean (bI v) = bI v := by cases v <;> decide
theorem k_narCh {c : Nat} (h : c < 65536) : vp_nar .char (nI c) = nI c := by
  unfold vp_nar
  rw [(pk_charN h).1]
theorem k_i2c {c : Nat} (h : c < 65536) : ((nI c).toUInt32 % 65536).toInt32 = nI c := by
  rw [pk_char, pk_tn (Nat.lt_trans h (by decide)), Nat.mod_eq_of_lt h]
section RBY
variable {p : Program} {l : Launch} {e : Env} {R : Room} {s : State} {m : MethodId} {args : Array Value} {below : List Frame} {meth : Method} {c : Code} {H : Heap} {locs : List Loc} {cells slots : Nat} {Q : State → Prop} {cc : ByteArray} {pc : Nat} {ls : Array Slot} {rest : List Value} {D : va_G} {A : Nat → Prop} {wl : va_W} {cl : List vw_C} {tys : List (ClassId × FieldType)} {a : Nat} {H0 : Heap}
theorem ln_bald (hx : p.tables.exec = Jvm.exec) (hb : c.code = cc) (hK : va_K D cl tys s) (hP : va_P D cl wl H) (q0 t0 : Nat) {cA : ClassId} {n i : Nat} {f : Nat → Int32} {v : Int32} (ha : wl[q0]? = some (a, .inl (cA, n, .inl f))) (ht : tys[t0]? = some (cA, .byte)) (hdg : decode cc pc = .ok (.baload, 1)) (hn : n < 2 ^ 31) (hi : i < n) (hv : f i = v) (k : W p l e R s m args below meth c H locs cells slots Q (F0 m (pc + 1) ls (.int v :: rest))) : W p l e R s m args below meth c H locs cells slots Q (F0 m pc ls (.int (nI i) :: .ref a :: rest)) :=
  va_bald hx hb hK hP q0 t0 ha ht (vp_in_nI hi hn) hdg (by rw [nI_clamp (Nat.lt_trans hi hn), hv]; exact k)
theorem ln_zald (hx : p.tables.exec = Jvm.exec) (hb : c.code = cc) (hK : va_K D cl tys s) (hP : va_P D cl wl H) (q0 t0 : Nat) {cA : ClassId} {n i : Nat} {f : Nat → Int32} {v : Int32} (ha : wl[q0]? = some (a, .inl (cA, n, .inl f))) (ht : tys[t0]? = some (cA, .boolean)) (hdg : decode cc pc = .ok (.baload, 1)) (hn : n < 2 ^ 31) (hi : i < n) (hv : f i = v) (k : W p l e R s m args below meth c H locs cells slots Q (F0 m (pc + 1) ls (.int v :: rest))) : W p l e R s m args below meth c H locs cells slots Q (F0 m pc ls (.int (nI i) :: .ref a :: rest)) :=
  va_zald hx hb hK hP q0 t0 ha ht (vp_in_nI hi hn) hdg (by rw [nI_clamp (Nat.lt_trans hi hn), hv]; exact k)
theorem ln_cald (hx : p.tables.exec = Jvm.exec) (hb : c.code = cc) (hK : va_K D cl tys s) (hP : va_P D cl wl H) (q0 t0 : Nat) {cA : ClassId} {n i : Nat} {f : Nat → Int32} {v : Int32} (ha : wl[q0]? = some (a, .inl (cA, n, .inl f))) (ht : tys[t0]? = some (cA, .char)) (hdg : decode cc pc = .ok (.caload, 1)) (hn : n < 2 ^ 31) (hi : i < n) (hv : f i = v) (k : W p l e R s m args below meth c H locs cells slots Q (F0 m (pc + 1) ls (.int v :: rest))) : W p l e R s m args below meth c H locs cells slots Q (F0 m pc ls (.int (nI i) :: .ref a :: rest)) :=
  va_cald hx hb hK hP q0 t0 ha ht (vp_in_nI hi hn) hdg (by rw [nI_clamp (Nat.lt_trans hi hn), hv]; exact k)
theorem ln_bastU (hx : p.tables.exec = Jvm.exec) (hb : c.code = cc) (hK : va_K D cl tys s) (hP : va_P D cl wl H) (hD : va_D A wl) (hS : va_S A H0 H locs) (q0 t0 : Nat) {cA : ClassId} {N i : Nat} {u : Nat → Nat} {d : Nat} (ha : wl[q0]? = some (a, .inl (cA, N, .inl (fun k => byI (u k))))) (ht : tys[t0]? = some (cA, .byte)) (hdg : decode cc pc = .ok (.bastore, 1)) (hn : N < 2 ^ 31) (hi : i < N)
    (kk : ∀ (H1 : Heap) (locs1 : List Loc), va_P D cl (wl.set q0 (a, .inl (cA, N, .inl (fun k => byI (k_up u i d k))))) H1 → va_D A (wl.set q0 (a, .inl (cA, N, .inl (fun k => byI (k_up u i d k))))) → va_S A H0 H1 locs1 → W p l e R s m args below meth c H1 locs1 cells slots Q (F0 m (pc + 1) ls rest)) : W p l e R s m args below meth c H locs cells slots Q (F0 m pc ls (.int (byI d) :: .int (nI i) :: .ref a :: rest)) := by
  refine va_bast hx hb hK hP hD hS q0 t0 ha ht (vp_in_nI hi hn) hdg ?_
  rw [nI_clamp (Nat.lt_trans hi hn), k_narBy, k_upBy]
  exact kk
theorem ln_zastB (hx : p.tables.exec = Jvm.exec) (hb : c.code = cc) (hK : va_K D cl tys s) (hP : va_P D cl wl H) (hD : va_D A wl) (hS : va_S A H0 H locs) (q0 t0 : Nat) {cA : ClassId} {N i : Nat} {iz : Nat → Bool} {v : Bool} (ha : wl[q0]? = some (a, .inl (cA, N, .inl (fun k => bI (iz k))))) (ht : tys[t0]? = some (cA, .boolean)) (hdg : decode cc pc = .ok (.bastore, 1)) (hn : N < 2 ^ 31) (hi : i < N)
    (kk : ∀ (H1 : Heap) (locs1 : List Loc), va_P D cl (wl.set q0 (a, .inl (cA, N, .inl (fun k => bI (va_up iz i v k))))) H1 → va_D A (wl.set q0 (a, .inl (cA, N, .inl (fun k => bI (va_up iz i v k))))) → va_S A H0 H1 locs1 → W p l e R s m args below meth c H1 locs1 cells slots Q (F0 m (pc + 1) ls rest)) : W p l e R s m args below meth c H locs cells slots Q (F0 m pc ls (.int (bI v) :: .int (nI i) :: .ref a :: rest)) := by
  refine va_zast hx hb hK hP hD hS q0 t0 ha ht (vp_in_nI hi hn) hdg ?_
  rw [nI_clamp (Nat.lt_trans hi hn), k_narBo, k_upBo]
  exact kk
theorem ln_castU (hx : p.tables.exec = Jvm.exec) (hb : c.code = cc) (hK : va_K D cl tys s) (hP : va_P D cl wl H) (hD : va_D A wl) (hS : va_S A H0 H locs) (q0 t0 : Nat) {cA : ClassId} {N i : Nat} {u : Nat → Nat} {d : Nat} (ha : wl[q0]? = some (a, .inl (cA, N, .inl (fun k => nI (u k))))) (ht : tys[t0]? = some (cA, .char)) (hdg : decode cc pc = .ok (.castore, 1)) (hn : N < 2 ^ 31) (hi : i < N) (hd : d < 65536)
    (kk : ∀ (H1 : Heap) (locs1 : List Loc), va_P D cl (wl.set q0 (a, .inl (cA, N, .inl (fun k => nI (k_up u i d k))))) H1 → va_D A (wl.set q0 (a, .inl (cA, N, .inl (fun k => nI (k_up u i d k))))) → va_S A H0 H1 locs1 → W p l e R s m args below meth c H1 locs1 cells slots Q (F0 m (pc + 1) ls rest)) : W p l e R s m args below meth c H locs cells slots Q (F0 m pc ls (.int (nI d) :: .int (nI i) :: .ref a :: rest)) := by
  refine va_cast hx hb hK hP hD hS q0 t0 ha ht (vp_in_nI hi hn) hdg ?_
  rw [nI_clamp (Nat.lt_trans hi hn), k_narCh hd, k_upI]
  exact kk
theorem ln_icmp_eqBy (hx : p.tables.exec = Jvm.exec) (hb : c.code = cc) {d v : Nat} {off : Int} {tgt : Nat} (hdg : decode cc pc = .ok (.if_icmp .eq off, 3)) (ht : (pc : Int) + off = (tgt : Int)) (hv : byI d = nI v ↔ d = v) (kt : d = v → W p l e R s m args below meth c H locs cells slots Q (F0 m tgt ls rest)) (kf : ¬ d = v → W p l e R s m args below meth c H locs cells slots Q (F0 m (pc + 3) ls rest)) : W p l e R s m args below meth c H locs cells slots Q (F0 m pc ls (.int (nI v) :: .int (byI d) :: rest)) :=
  lv_icmp_eq hx hb hdg ht (fun h => kt (hv.mp h)) (fun h => kf (fun q => h (hv.mpr q)))
theorem ln_icmp_neBy (hx : p.tables.exec = Jvm.exec) (hb : c.code = cc) {d v : Nat} {off : Int} {tgt : Nat} (hdg : decode cc pc = .ok (.if_icmp .ne off, 3)) (ht : (pc : Int) + off = (tgt : Int)) (hv : byI d = nI v ↔ d = v) (kt : ¬ d = v → W p l e R s m args below meth c H locs cells slots Q (F0 m tgt ls rest)) (kf : d = v → W p l e R s m args below meth c H locs cells slots Q (F0 m (pc + 3) ls rest)) : W p l e R s m args below meth c H locs cells slots Q (F0 m pc ls (.int (nI v) :: .int (byI d) :: rest)) :=
  lv_icmp_ne hx hb hdg ht (fun h => kt (fun q => h (hv.mpr q))) (fun h => kf (hv.mp h))
end RBY
