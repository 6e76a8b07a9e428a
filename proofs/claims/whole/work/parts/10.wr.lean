theorem zi_max {a b : Int} (h1 : (-2147483648 ≤ a ∧ a < 2147483648) ∧ (-2147483648 ≤ b ∧ b < 2147483648)) : (if zi a < zi b then zi b else zi a) = zi (max a b) := by
  by_cases h : a < b
  · rw [if_pos ((zi_lt h1.1.1 h1.1.2 h1.2.1 h1.2.2).mpr h), Int.max_eq_right (by omega)]
  · rw [if_neg (fun q => h ((zi_lt h1.1.1 h1.1.2 h1.2.1 h1.2.2).mp q)), Int.max_eq_left (by omega)]
theorem zi_min {a b : Int} (h1 : (-2147483648 ≤ a ∧ a < 2147483648) ∧ (-2147483648 ≤ b ∧ b < 2147483648)) : (if zi b < zi a then zi b else zi a) = zi (min a b) := by
  by_cases h : b < a
  · rw [if_pos ((zi_lt h1.2.1 h1.2.2 h1.1.1 h1.1.2).mpr h), Int.min_eq_right (by omega)]
  · rw [if_neg (fun q => h ((zi_lt h1.2.1 h1.2.2 h1.1.1 h1.1.2).mp q)), Int.min_eq_left (by omega)]
theorem zi_abs {a : Int} (h1 : -2147483648 ≤ a ∧ a < 2147483648) : (if 0 ≤ zi a then zi a else 0 - zi a) = zi ((a.natAbs : Int)) := by
  by_cases h : 0 ≤ a
  · rw [if_pos ((zi_ge0 h1.1 h1.2).mpr h), show ((a.natAbs : Int)) = a by omega]
  · rw [if_neg (fun q => h ((zi_ge0 h1.1 h1.2).mp q)), ← zi_0, zi_sub, show ((a.natAbs : Int)) = 0 - a by omega]
/-- a start that asks for cells that may be written -/
abbrev PcW (av : List Value) (D : va_G) (cl : List vw_C) (ws : va_W) (tys : List (ClassId × FieldType)) (sz : Nat) : Array Value → State → Prop := va_Pc av (fun U => U.heap.size = sz ∧ va_P D cl ws U.heap ∧ va_K D cl tys U ∧ va_D (fun _ => True) ws)
/-- an end: the answer, the cells, the frame -/
def WrQ (v : Option Value) (D : va_G) (cl : List vw_C) (ws' : va_W) (A : Nat → Prop) : Array Value → State → Outcome → State → Prop := fun _ st o t => o = .returned v ∧ va_P D cl ws' t.heap ∧ va_F A st t
def wr_mix (ws w1 : va_W) (src : List (Bool × Nat)) : va_W := src.filterMap (fun q => if q.1 then w1[q.2]? else ws[q.2]?)
theorem wr_P {D : va_G} {cl : List vw_C} {A0 : Nat → Prop} {ws wc w1 ws' : va_W} {H H1 : Heap} (hP : va_P D cl ws H) (hD : va_D A0 ws) (isC : List Nat) (hC : isC.map (fun i => ws[i]?) = wc.map some) (hk : ∀ q : Nat, q < H.size → ¬ va_A wc H.size q → H1[q]? = H[q]?) (hP1 : va_P D cl w1 H1) (src : List (Bool × Nat)) (hs : wr_mix ws w1 src = ws') (hsrc : ∀ q ∈ src, q.1 = false → q.2 ∉ isC) : va_P D cl ws' H1 := by
  intro k q hq
  subst hs
  obtain ⟨⟨b, i⟩, hi, he⟩ := List.mem_filterMap.mp (List.mem_of_getElem? hq)
  cases b with
  | true => exact hP1 i q he
  | false =>
    have he : ws[i]? = some q := he
    have hl := (hP i q he).lt
    refine (hP i q he).kept (hk q.1 hl (fun h => ?_))
    rcases h with ⟨k2, e2, h⟩ | h
    · have h1 : (isC.map (fun i => ws[i]?))[k2]? = some (some (q.1, e2)) := by rw [hC, List.getElem?_map, h]; rfl
      rw [List.getElem?_map] at h1
      cases hj : isC[k2]? with
      | none => rw [hj] at h1; cases h1
      | some j =>
        rw [hj] at h1
        have h2 : ws[j]? = some (q.1, e2) := Option.some.inj h1
        have hij := hD.1 i j q (q.1, e2) he h2 rfl
        subst hij
        exact hsrc _ hi rfl (List.mem_of_getElem? hj)
    · omega
theorem wr_D {A0 : Nat → Prop} {ws ws' : va_W} (hD : va_D A0 ws) (hf : ws'.map Prod.fst = ws.map Prod.fst) : va_D A0 ws' := by
  have key : ∀ (k : Nat) (q : Nat × va_E), ws'[k]? = some q → ∃ q0, ws[k]? = some q0 ∧ q0.1 = q.1 := by
    intro k q hk
    have h1 : (ws'.map Prod.fst)[k]? = some q.1 := by rw [List.getElem?_map, hk]; rfl
    rw [hf, List.getElem?_map] at h1
    cases h2 : ws[k]? with
    | none => rw [h2] at h1; cases h1
    | some q0 => rw [h2] at h1; exact ⟨q0, rfl, Option.some.inj h1⟩
  refine ⟨fun i j x y hi hj hxy => ?_, fun k q hk => ?_⟩
  · obtain ⟨x0, h1, h2⟩ := key i x hi
    obtain ⟨y0, h3, h4⟩ := key j y hj
    exact hD.1 i j x0 y0 h1 h3 (h2.trans (hxy.trans h4.symm))
  · obtain ⟨q0, h1, h2⟩ := key k q hk
    rw [← h2]
    exact hD.2 k q0 h1
section WR
variable {p : Program} {l : Launch} {e : Env} {R : Room} {s : State} {m : MethodId} {args : Array Value} {below : List Frame} {meth : Method} {c : Code} {H H0 : Heap} {locs : List Loc} {cells slots : Nat} {Q : State → Prop} {pc : Nat} {ls : Array Slot} {rest st0 As : List Value} {cc bytes : ByteArray} {D : va_G} {cl : List vw_C} {ws wc w1 ws' : va_W} {tys : List (ClassId × FieldType)} {nL maxL idx n : Nat} {own C : String} {y : MethodName} {ret : Option FieldType} {rm : Room} {b : Nat} {A : Nat → Prop}
theorem wrV {v : Option Value} (hx : p.tables.exec = Jvm.exec) (hb : c.code = cc) (hml : c.maxLocals = nL) (hown : s.vm.findClass own = some m.cls) (hg : ∀ w ∈ gw, w.before args s = true)
    (hM : Met l y (Cond.code y bytes maxL ret :: gw) rm (PcW (.ref b :: As) D cl wc tys H.size) (WrQ v D cl w1 (va_A wc H.size)) 0 0 (va_A wc H.size))
    (hG : GoodIn gw (wsV own idx C y (Cond.code y bytes maxL ret :: gw))) (hrc : rm.cells = 0) (hrs : rm.slots = 0)
    (hd : y.cls = C ∧ y.cls ≠ "java/lang/invoke/MethodHandle" ∧ y.cls ≠ "java/lang/invoke/VarHandle" ∧ (parseMethodDescriptor y.desc).map (fun d => d.parameters.length) = some n) (hR : rm.frames + 1 ≤ R.frames ∧ 8 + (maxL + 11) + rm.locals ≤ R.locals)
    (hK : va_K D cl tys s) (hP : va_P D cl ws H) (hD : va_D A ws) (hS : va_S A H0 H locs) (hA : ∀ q, H0.size ≤ q → A q)
    (isC : List Nat) (hC : isC.map (fun i => ws[i]?) = wc.map some) (hnd : va_nd isC = true) (src : List (Bool × Nat)) (hs : wr_mix ws w1 src = ws') (hsrc : ∀ q ∈ src, q.1 = false → q.2 ∉ isC) (hfst : ws'.map Prod.fst = ws.map Prod.fst)
    {ci : Nat} (q0 : Nat) {fs : List Value} {r : vw_C} (he : wc[q0]? = some (b, .inr (ci, fs))) (hc : cl[ci]? = some r) (hC1 : r.1 = C)
    (hn : As.length = n) (hsize : ls.size = nL) (hst : st0 = As.reverse ++ .ref b :: rest) (hW : (rest.map fun v => v.category).sum ≤ 8) (hdg : decode cc pc = .ok (.invokevirtual idx, 3)) (hf : cells ≤ R.cells ∧ slots ≤ R.slots)
    (kk : ∀ (H1 : Heap) (locs1 : List Loc), va_P D cl ws' H1 → va_D A ws' → va_S A H0 H1 locs1 → W p l e R s m args below meth c H1 locs1 cells slots Q (F0 m (pc + 3) ls (v.toList ++ rest))) : W p l e R s m args below meth c H locs cells slots Q (F0 m pc ls st0) := by
  subst hst
  subst hC1
  have hPc : va_P D cl wc H := by
    refine hP.sub isC ?_
    have h1 : isC.filterMap (fun i => ws[i]?) = (isC.map (fun i => ws[i]?)).filterMap id := by rw [List.filterMap_map]; rfl
    rw [h1, hC, List.filterMap_map]
    exact List.filterMap_some
  have hDc : va_D A wc := hD.sub isC hnd hC
  have hF : ∀ q, va_A wc H.size q → A q := va_free hD hS hA isC hC
  intro T hT X
  obtain ⟨v', st₀, t, T', L, h0, X', hL, e1, e2, ⟨hv, hp1, hz, hk⟩, st⟩ := va_runV (As := As) (rest := rest) ⟨hx, hb, hml, hown, hg⟩ hM (cwV n hg hG rfl hrc hrs hd hR) ⟨fun a U g mk q => by obtain ⟨q0, q1, qP, qK, qD⟩ := q; exact ⟨q0, q1, qP, va_K.moved (u := U) (U := U.calling g mk a) (Vm.Alike.refl U.vm) qK, qD⟩, va_recv hK hPc (ci := ci) (q0 := q0) hc he, fun U hU hW => ⟨rfl, by rw [hU], by rw [hU]; exact hPc, va_K.moved hW.alike hK, hDc.weaken (fun _ _ _ _ => trivial)⟩⟩ rfl hn hsize rfl (lv_room hW) hdg hf T hT X
  cases hv
  rw [h0] at hz hk
  obtain ⟨t2, a1, b1⟩ := kk T'.heap (locs ++ L) (wr_P hP hD isC hC (fun q h1 h2 => by rw [e1]; exact hk q h1 h2) (by rw [e1]; exact hp1) src hs hsrc) (wr_D hD hfst)
    ⟨Nat.le_trans hS.1 (by rw [e1]; exact hz), fun q h1 h2 => by rw [e1, hk q (Nat.lt_of_lt_of_le h1 hS.1) (fun z => h2 (hF q z))]; exact hS.2.1 q h1 h2, fun q hq => by
      rcases List.mem_append.mp hq with h | h
      · exact hS.2.2 q h
      · exact hF _ (hL q h)⟩ T' rfl X'
  exact ⟨t2, st t2 a1, b1⟩
theorem wr_i {v : Int} (hx : p.tables.exec = Jvm.exec) (hb : c.code = cc) (hr : meth.sig.returnType = some .int) (hlocks : meth.locks = false) {v' : Int} (hv : v = v') (hP : va_P D cl ws' H) (hS : va_S A s.heap H locs) (hdg : decode cc pc = .ok (.ireturn, 1)) : W p l e R s m args below meth c H locs cells slots (MQ below (WrQ (some (.int (zi v'))) D cl ws' A) args s cells slots A) (F0 m pc ls [.int (zi v)]) := by
  subst hv
  exact W.iret hx hb hr (fun t ht hW => ⟨rfl, by rw [ht]; exact hP, hS.F ht⟩) hS.2.2 hdg hlocks
theorem wr_l {v : Int} (hx : p.tables.exec = Jvm.exec) (hb : c.code = cc) (hr : meth.sig.returnType = some .long) (hlocks : meth.locks = false) {v' : Int} (hv : v = v') (hP : va_P D cl ws' H) (hS : va_S A s.heap H locs) (hdg : decode cc pc = .ok (.lreturn, 1)) : W p l e R s m args below meth c H locs cells slots (MQ below (WrQ (some (.long (zl v'))) D cl ws' A) args s cells slots A) (F0 m pc ls [.long (zl v)]) := by
  subst hv
  exact W.lret hx hb hr (fun t ht hW => ⟨rfl, by rw [ht]; exact hP, hS.F ht⟩) hS.2.2 hdg hlocks
theorem wr_z {v : Int} (hx : p.tables.exec = Jvm.exec) (hb : c.code = cc) (hr : meth.sig.returnType = some .boolean) (hlocks : meth.locks = false) {v' : Int} (hv : v = v') (h01 : v = 0 ∨ v = 1) (hP : va_P D cl ws' H) (hS : va_S A s.heap H locs) (hdg : decode cc pc = .ok (.ireturn, 1)) : W p l e R s m args below meth c H locs cells slots (MQ below (WrQ (some (.int (zi v'))) D cl ws' A) args s cells slots A) (F0 m pc ls [.int (zi v)]) := by
  subst hv
  exact W.zret hx hb hr (by rcases h01 with rfl | rfl <;> rfl) (fun t ht hW => ⟨rfl, by rw [ht]; exact hP, hS.F ht⟩) hS.2.2 hdg hlocks
theorem wr_v (hx : p.tables.exec = Jvm.exec) (hb : c.code = cc) (hr : meth.sig.returnType = none) (hlocks : meth.locks = false) (hP : va_P D cl ws' H) (hS : va_S A s.heap H locs) (hdg : decode cc pc = .ok (.return_, 1)) : W p l e R s m args below meth c H locs cells slots (MQ below (WrQ none D cl ws' A) args s cells slots A) (F0 m pc ls []) := 
  W.vret hx hb hr (fun t ht hW => ⟨rfl, by rw [ht]; exact hP, hS.F ht⟩) hS.2.2 hdg hlocks
end WR
