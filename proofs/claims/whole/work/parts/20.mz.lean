section MZ
variable {p : Program} {l : Launch} {e : Env} {R : Room} {s : State} {m : MethodId} {args : Array Value} {below : List Frame} {meth : Method} {c : Code} {H H0 : Heap} {locs : List Loc} {cells slots : Nat} {Q : State → Prop} {pc : Nat} {ls : Array Slot} {rest : List Value} {cc : ByteArray} {D : va_G} {cl : List vw_C} {tys : List (ClassId × FieldType)} {ws : va_W} {A : Nat → Prop} {a : Nat}
theorem zz_zb_eq {P : Prop} {dp : Decidable P} (hexec : p.tables.exec = Jvm.exec) (hb : c.code = cc) {off : Int} {tgt : Nat} (hdg : decode cc pc = .ok (.ifCond .eq off, 3)) (ht : (pc : Int) + off = (tgt : Int)) (kt : ¬ P → W p l e R s m args below meth c H locs cells slots Q (F0 m tgt ls rest)) (kf : P → W p l e R s m args below meth c H locs cells slots Q (F0 m (pc + 3) ls rest)) : W p l e R s m args below meth c H locs cells slots Q (F0 m pc ls (.int (zi (zb (decide P))) :: rest)) := by
  by_cases h : P
  · rw [zb_t (decide_eq_true h)]
    exact zz_if_eq hexec hb (by decide) hdg ht (fun q => absurd q (by decide)) (fun _ => kf h)
  · rw [zb_f (decide_eq_false h)]
    exact zz_if_eq hexec hb (by decide) hdg ht (fun _ => kt h) (fun q => absurd rfl q)
theorem zz_zb_ne {P : Prop} {dp : Decidable P} (hexec : p.tables.exec = Jvm.exec) (hb : c.code = cc) {off : Int} {tgt : Nat} (hdg : decode cc pc = .ok (.ifCond .ne off, 3)) (ht : (pc : Int) + off = (tgt : Int)) (kt : P → W p l e R s m args below meth c H locs cells slots Q (F0 m tgt ls rest)) (kf : ¬ P → W p l e R s m args below meth c H locs cells slots Q (F0 m (pc + 3) ls rest)) : W p l e R s m args below meth c H locs cells slots Q (F0 m pc ls (.int (zi (zb (decide P))) :: rest)) := by
  by_cases h : P
  · rw [zb_t (decide_eq_true h)]
    exact zz_if_ne hexec hb (by decide) hdg ht (fun _ => kt h) (fun q => absurd q (by decide))
  · rw [zb_f (decide_eq_false h)]
    exact zz_if_ne hexec hb (by decide) hdg ht (fun q => absurd rfl q) (fun _ => kf h)
theorem zz_zald (hexec : p.tables.exec = Jvm.exec) (hb : c.code = cc) (hK : va_K D cl tys s) (hP : va_P D cl ws H) (q0 t0 : Nat) {cA : ClassId} {n : Nat} {f : Nat → Int} (ha : ws[q0]? = some (a, .inl (cA, n, .inl (zA f)))) (ht : tys[t0]? = some (cA, .boolean)) {z : Int} (j : Nat) (hz : z = (j : Int)) (hj : j < n) (hn : n < 2147483648) (hdg : decode cc pc = .ok (.baload, 1))
    (kk : W p l e R s m args below meth c H locs cells slots Q (F0 m (pc + 1) ls (.int (zi (f j)) :: rest))) : W p l e R s m args below meth c H locs cells slots Q (F0 m pc ls (.int (zi z) :: .ref a :: rest)) := by
  subst hz
  refine va_zald hexec hb hK hP q0 t0 ha ht (zi_in hj hn) hdg ?_
  rw [zi_cl (by omega)]
  exact kk
theorem zz_zast (hexec : p.tables.exec = Jvm.exec) (hb : c.code = cc) (hK : va_K D cl tys s) (hP : va_P D cl ws H) (hD : va_D A ws) (hS : va_S A H0 H locs) (q0 t0 : Nat) {cA : ClassId} {n : Nat} {f : Nat → Int} (ha : ws[q0]? = some (a, .inl (cA, n, .inl (zA f)))) (ht : tys[t0]? = some (cA, .boolean)) {z v : Int} (j : Nat) (hz : z = (j : Int)) (hj : j < n) (hn : n < 2147483648) (hv : vp_nar .boolean (zi v) = zi v) (hdg : decode cc pc = .ok (.bastore, 1))
    (kk : ∀ (H1 : Heap) (locs1 : List Loc), va_P D cl (ws.set q0 (a, .inl (cA, n, .inl (zA (zupd f j v))))) H1 → va_D A (ws.set q0 (a, .inl (cA, n, .inl (zA (zupd f j v))))) → va_S A H0 H1 locs1 → W p l e R s m args below meth c H1 locs1 cells slots Q (F0 m (pc + 1) ls rest)) : W p l e R s m args below meth c H locs cells slots Q (F0 m pc ls (.int (zi v) :: .int (zi z) :: .ref a :: rest)) := by
  subst hz
  refine va_zast hexec hb hK hP hD hS q0 t0 ha ht (zi_in hj hn) hdg ?_
  rw [zi_cl (by omega), hv, zA_upd]
  exact kk
end MZ
