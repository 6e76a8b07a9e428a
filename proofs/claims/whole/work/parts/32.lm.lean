/-! worlds up to their order -/
theorem va_Pm {D : va_G} {cl : List vw_C} {ws : va_W} {H : Heap} : va_P D cl ws H ↔ ∀ q ∈ ws, va_at D cl q H :=
  ⟨fun h q hq => by obtain ⟨k, hk⟩ := List.mem_iff_getElem?.mp hq; exact h k q hk, fun h k q hk => h q (List.mem_iff_getElem?.mpr ⟨k, hk⟩)⟩
theorem va_Dm {A : Nat → Prop} {ws : va_W} : va_D A ws ↔ (ws.map Prod.fst).Nodup ∧ ∀ q ∈ ws, A q.1 := by
  constructor
  · intro h
    refine ⟨List.pairwise_iff_getElem.mpr (fun i j hi hj hij => ?_), fun q hq => by obtain ⟨k, hk⟩ := List.mem_iff_getElem?.mp hq; exact h.2 k q hk⟩
    rw [List.length_map] at hi hj
    rw [List.getElem_map, List.getElem_map]
    intro e
    have := h.1 i j ws[i] ws[j] (List.getElem?_eq_getElem hi) (List.getElem?_eq_getElem hj) e
    omega
  · intro h
    refine ⟨fun i j p q hi hj e => ?_, fun k q hk => h.2 q (List.mem_iff_getElem?.mpr ⟨k, hk⟩)⟩
    obtain ⟨hi1, hi2⟩ := List.getElem?_eq_some_iff.mp hi
    obtain ⟨hj1, hj2⟩ := List.getElem?_eq_some_iff.mp hj
    have key := List.pairwise_iff_getElem.mp h.1
    rcases Nat.lt_trichotomy i j with q1 | q1 | q1
    · exact absurd (by rw [List.getElem_map, List.getElem_map, hi2, hj2]; exact e) (key i j (by rw [List.length_map]; exact hi1) (by rw [List.length_map]; exact hj1) q1)
    · exact q1
    · exact absurd (by rw [List.getElem_map, List.getElem_map, hi2, hj2]; exact e.symm) (key j i (by rw [List.length_map]; exact hj1) (by rw [List.length_map]; exact hi1) q1)
theorem va_Pp {D : va_G} {cl : List vw_C} {ws ws' : va_W} {H : Heap} (hp : ws.Perm ws') (h : va_P D cl ws H) : va_P D cl ws' H := va_Pm.mpr (fun q hq => va_Pm.mp h q (hp.mem_iff.mpr hq))
theorem va_Dp {A : Nat → Prop} {ws ws' : va_W} (hp : ws.Perm ws') (h : va_D A ws) : va_D A ws' := by
  obtain ⟨h1, h2⟩ := va_Dm.mp h
  exact va_Dm.mpr ⟨(hp.map Prod.fst).nodup_iff.mp h1, fun q hq => h2 q (hp.mem_iff.mpr hq)⟩
theorem va_Pl {D : va_G} {cl : List vw_C} {w1 w2 : va_W} {H : Heap} (h : va_P D cl (w1 ++ w2) H) : va_P D cl w1 H := va_Pm.mpr (fun q hq => va_Pm.mp h q (List.mem_append_left _ hq))
theorem va_Pr {D : va_G} {cl : List vw_C} {w1 w2 : va_W} {H : Heap} (h : va_P D cl (w1 ++ w2) H) : va_P D cl w2 H := va_Pm.mpr (fun q hq => va_Pm.mp h q (List.mem_append_right _ hq))
theorem va_Dl {A : Nat → Prop} {w1 w2 : va_W} (h : va_D A (w1 ++ w2)) : va_D A w1 := by
  obtain ⟨h1, h2⟩ := va_Dm.mp h
  rw [List.map_append] at h1
  exact va_Dm.mpr ⟨(List.nodup_append.mp h1).1, fun q hq => h2 q (List.mem_append_left _ hq)⟩
theorem va_Dr {A : Nat → Prop} {w1 w2 : va_W} (h : va_D A (w1 ++ w2)) : va_D A w2 := by
  obtain ⟨h1, h2⟩ := va_Dm.mp h
  rw [List.map_append] at h1
  exact va_Dm.mpr ⟨(List.nodup_append.mp h1).2.1, fun q hq => h2 q (List.mem_append_right _ hq)⟩
theorem va_Dx {A : Nat → Prop} {w1 w2 : va_W} (h : va_D A (w1 ++ w2)) : ∀ p ∈ w1, ∀ q ∈ w2, p.1 ≠ q.1 := by
  obtain ⟨h1, h2⟩ := va_Dm.mp h
  rw [List.map_append] at h1
  intro p hp q hq
  exact (List.nodup_append.mp h1).2.2 p.1 (List.mem_map.mpr ⟨p, hp, rfl⟩) q.1 (List.mem_map.mpr ⟨q, hq, rfl⟩)
theorem va_Da {A : Nat → Prop} {w1 w2 : va_W} (h1 : va_D A w1) (h2 : va_D A w2) (hx : ∀ p ∈ w1, ∀ q ∈ w2, p.1 ≠ q.1) : va_D A (w1 ++ w2) := by
  obtain ⟨a1, a2⟩ := va_Dm.mp h1
  obtain ⟨b1, b2⟩ := va_Dm.mp h2
  refine va_Dm.mpr ⟨?_, fun q hq => ?_⟩
  · rw [List.map_append]
    refine List.nodup_append.mpr ⟨a1, b1, fun x hx1 y hy => ?_⟩
    obtain ⟨p, hp, rfl⟩ := List.mem_map.mp hx1
    obtain ⟨q, hq, rfl⟩ := List.mem_map.mp hy
    exact hx p hp q hq
  · rcases List.mem_append.mp hq with h | h
    · exact a2 q h
    · exact b2 q h
theorem permE {E Y : va_W} (is : List Nat) (h1 : is.Perm (List.range E.length)) (h2 : is.map (fun i => E[i]?) = Y.map some) : E.Perm Y := by
  have h3 : (List.range E.length).map (fun i => E[i]?) = E.map some := by
    apply List.ext_getElem
    · simp
    · intro i hi hj
      simp at hi
      simp [hi]
  have h4 : (Y.map some).Perm (E.map some) := by
    rw [← h2, ← h3]
    exact h1.map _
  have h5 := h4.filterMap id
  rw [List.filterMap_map, List.filterMap_map] at h5
  have e1 : ∀ Z : va_W, Z.filterMap (id ∘ some) = Z := fun Z => List.filterMap_some
  rw [e1, e1] at h5
  exact h5.symm
section LM
variable {p : Program} {l : Launch} {e : Env} {R : Room} {s : State} {m : MethodId} {args : Array Value} {below : List Frame} {meth : Method} {c : Code} {H H0 : Heap} {locs : List Loc} {cells slots : Nat} {Q : State → Prop} {pc : Nat} {ls : Array Slot} {rest st0 As : List Value} {cc bytes : ByteArray} {D : va_G} {cl : List vw_C} {ws wc wr w1 ws' : va_W} {tys : List (ClassId × FieldType)} {nL maxL idx n mc ms : Nat} {own C : String} {y : MethodName} {ret : Option FieldType} {rm : Room} {b : Nat} {A : Nat → Prop} {F : va_W → Prop} {a : Array Value}
theorem nwCp {v : Option Value} (hr : va_Run p l e R s m args below meth c H locs cells slots mc ms (F0 m pc ls st0) rest (NwQ v D cl F (va_A wc H.size) a) (va_A wc H.size)) (hP : va_P D cl ws H) (hD : va_D A ws) (hS : va_S A H0 H locs) (hA : ∀ q, H0.size ≤ q → A q) (hp : ws.Perm (wc ++ wr))
    (kk : ∀ (w1 : va_W) (H1 : Heap) (locs1 : List Loc), F w1 → va_P D cl (w1 ++ wr) H1 → va_D A (w1 ++ wr) → va_S A H0 H1 locs1 → W p l e R s m args below meth c H1 locs1 (cells + mc) (slots + ms) Q (F0 m (pc + 3) ls (v.toList ++ rest))) : W p l e R s m args below meth c H locs cells slots Q (F0 m pc ls st0) := by
  have hP := va_Pp hp hP
  have hD := va_Dp hp hD
  have hF : ∀ q, va_A wc H.size q → A q := fun q hq => by
    rcases hq with ⟨k, e, hk⟩ | hq
    · exact (va_Dm.mp hD).2 (q, e) (List.mem_append_left _ (List.mem_iff_getElem?.mpr ⟨k, hk⟩))
    · exact hA q (Nat.le_trans hS.1 hq)
  have hno : ∀ q ∈ wr, ¬ va_A wc H.size q.1 := fun q hq h => by
    rcases h with ⟨k, e, hk⟩ | h
    · exact va_Dx hD (q.1, e) (List.mem_iff_getElem?.mpr ⟨k, hk⟩) q hq rfl
    · obtain ⟨k, hk⟩ := List.mem_iff_getElem?.mp hq
      have := ((va_Pr hP) k q hk).lt
      omega
  intro T hT X
  obtain ⟨v', st₀, t, T', L, h0, X', hL, e1, e2, ⟨hv, ⟨w1, hf, hp1, hd1⟩, hz, hk⟩, st⟩ := hr T hT X
  cases hv
  rw [h0] at hz hk
  have j1 : va_P D cl (w1 ++ wr) T'.heap := by
    refine va_Pm.mpr (fun q hq => ?_)
    rcases List.mem_append.mp hq with h | h
    · rw [e1]; exact va_Pm.mp hp1 q h
    · have hq9 := va_Pm.mp (va_Pr hP) q h
      exact hq9.kept (by rw [e1]; exact hk q.1 hq9.lt (hno q h))
  have j2 : va_D A (w1 ++ wr) := by
    refine va_Da (hd1.weaken (fun k q hk2 hq => hF q.1 hq)) (va_Dr hD) (fun x hx q hq exq => ?_)
    have hxA := (va_Dm.mp hd1).2 x hx
    rw [exq] at hxA
    exact hno q hq hxA
  obtain ⟨t2, a1, b1⟩ := kk w1 T'.heap (locs ++ L) hf j1 j2
    ⟨Nat.le_trans hS.1 (by rw [e1]; exact hz), fun q h1 h2 => by rw [e1, hk q (Nat.lt_of_lt_of_le h1 hS.1) (fun z => h2 (hF q z))]; exact hS.2.1 q h1 h2, fun q hq => by
      rcases List.mem_append.mp hq with h | h
      · exact hS.2.2 q h
      · exact hF _ (hL q h)⟩ T' rfl X'
  exact ⟨t2, st t2 a1, b1⟩
theorem gwSW {hh : List (Nat × Nat × Nat × Nat)} (h1 : Cond.methodLink own idx y ∈ gw) (h2 : Cond.static y ∈ gw) (h4 : Cond.initialized y.cls ∈ gw) (h5 : Cond.codeWith y bytes maxL ret hh ∈ gw) : GoodIn gw (va_wsS own idx y (Cond.codeWith y bytes maxL ret hh :: gw)) := by
  intro w hw
  have key : w ∈ gw := by
    unfold va_wsS at hw
    simp only [List.cons_append, List.nil_append, List.mem_cons] at hw
    rcases hw with rfl | rfl | rfl | rfl | h
    · exact h1
    · exact h2
    · exact h4
    · exact h5
    · exact h
  exact ⟨key, gw_good key⟩
/-- a helper's call from the law -/
theorem lwS {v : Int} {hh : List (Nat × Nat × Nat × Nat)} (hx : p.tables.exec = Jvm.exec) (hb : c.code = cc) (hml : c.maxLocals = nL) (hown : s.vm.findClass own = some m.cls) (hg : ∀ w ∈ gw, w.before args s = true)
    (hM : Met l y (Cond.codeWith y bytes maxL ret hh :: gw) rm (PcH As D cl wc tys H.size) (NwQ (some (.int (zi v))) D cl F (va_A wc H.size)) mc ms (va_A wc H.size))
    (h1 : Cond.methodLink own idx y ∈ gw) (h2 : Cond.static y ∈ gw) (h4 : Cond.initialized y.cls ∈ gw) (h5 : Cond.codeWith y bytes maxL ret hh ∈ gw) (hrc : rm.cells = mc) (hrs : rm.slots = ms)
    (hd : y.cls ≠ "java/lang/invoke/MethodHandle" ∧ y.cls ≠ "java/lang/invoke/VarHandle" ∧ (parseMethodDescriptor y.desc).map (fun d => d.parameters.length) = some n) (hR : rm.frames + 1 ≤ R.frames ∧ 8 + (maxL + 11) + rm.locals ≤ R.locals)
    (hK : va_K D cl tys s) (hXA : ∀ U : State, U.heap = H → s.WarmedH U.vm → xA U) (hP : va_P D cl ws H) (hD : va_D A ws) (hS : va_S A H0 H locs) (hA : ∀ q, H0.size ≤ q → A q) (hp : ws.Perm (wc ++ wr))
    (hn : As.length = n) (hsize : ls.size = nL) (hst : st0 = As.reverse ++ rest) (hW : (rest.map fun v => v.category).sum ≤ 8) (hdg : decode cc pc = .ok (.invokestatic idx, 3)) (hf : cells + mc ≤ R.cells ∧ slots + ms ≤ R.slots)
    (kk : ∀ (w1 : va_W) (H1 : Heap) (locs1 : List Loc), F w1 → va_P D cl (w1 ++ wr) H1 → va_D A (w1 ++ wr) → va_S A H0 H1 locs1 → W p l e R s m args below meth c H1 locs1 (cells + mc) (slots + ms) Q (F0 m (pc + 3) ls (.int (zi v) :: rest))) : W p l e R s m args below meth c H locs cells slots Q (F0 m pc ls st0) := by
  subst hst
  have hPc := va_Pl (va_Pp hp hP)
  have hDc := va_Dl (va_Dp hp hD)
  exact nwCp (vx_runSW (As := As) (rest := rest) ⟨hx, hb, hml, hown, hg⟩ hM (vx_cwSW n hg (gwSW h1 h2 h4 h5) rfl hrc hrs hd hR) ⟨fun a U g mk q => by obtain ⟨q0, q1, qP, qK, qD, qN⟩ := q; exact ⟨q0, q1, qP, va_K.moved (u := U) (U := U.calling g mk a) (Vm.Alike.refl U.vm) qK, qD, qN.same (State.WarmedH.refl U) rfl rfl⟩, fun U hU hW => ⟨rfl, by rw [hU], by rw [hU]; exact hPc, va_K.moved hW.alike hK, hDc.weaken (fun _ _ _ _ => trivial), hXA U hU hW⟩⟩ rfl hn hsize rfl (lv_room hW) hdg hf) hP hD hS hA hp kk
/-- the reference's call from the law -/
theorem lwV {v : Value} (hx : p.tables.exec = Jvm.exec) (hb : c.code = cc) (hml : c.maxLocals = nL) (hown : s.vm.findClass own = some m.cls) (hg : ∀ w ∈ gw, w.before args s = true)
    (hM : Met l y (Cond.code y bytes maxL ret :: gw) rm (PcW (.ref b :: As) D cl wc tys H.size) (WrQ (some v) D cl w1 (va_A wc H.size)) 0 0 (va_A wc H.size))
    (hG : GoodIn gw (wsV own idx C y (Cond.code y bytes maxL ret :: gw))) (hrc : rm.cells = 0) (hrs : rm.slots = 0)
    (hd : y.cls = C ∧ y.cls ≠ "java/lang/invoke/MethodHandle" ∧ y.cls ≠ "java/lang/invoke/VarHandle" ∧ (parseMethodDescriptor y.desc).map (fun d => d.parameters.length) = some n) (hR : rm.frames + 1 ≤ R.frames ∧ 8 + (maxL + 11) + rm.locals ≤ R.locals)
    (hK : va_K D cl tys s) (hP : va_P D cl ws H) (hD : va_D A ws) (hS : va_S A H0 H locs) (hA : ∀ q, H0.size ≤ q → A q) (hp : ws.Perm (wc ++ wr)) (hfst : w1.map Prod.fst = wc.map Prod.fst)
    {ci : Nat} (q0 : Nat) {fs : List Value} {r : vw_C} (he : wc[q0]? = some (b, .inr (ci, fs))) (hc : cl[ci]? = some r) (hC1 : r.1 = C)
    (hn : As.length = n) (hsize : ls.size = nL) (hst : st0 = As.reverse ++ .ref b :: rest) (hW : (rest.map fun v => v.category).sum ≤ 8) (hdg : decode cc pc = .ok (.invokevirtual idx, 3)) (hf : cells ≤ R.cells ∧ slots ≤ R.slots)
    (kk : ∀ (H1 : Heap) (locs1 : List Loc), va_P D cl (w1 ++ wr) H1 → va_D A (w1 ++ wr) → va_S A H0 H1 locs1 → W p l e R s m args below meth c H1 locs1 cells slots Q (F0 m (pc + 3) ls (v :: rest))) : W p l e R s m args below meth c H locs cells slots Q (F0 m pc ls st0) := by
  subst hst
  subst hC1
  have hPc := va_Pl (va_Pp hp hP)
  have hDc := va_Dl (va_Dp hp hD)
  have hD1 : va_D (va_A wc H.size) w1 := wr_D (hDc.self (sz := H.size)) hfst
  refine nwCp (a := #[]) (v := some v) (F := fun w9 => w9 = w1) (mc := 0) (ms := 0) ?_ hP hD hS hA hp (fun w9 H1 locs1 hF => by subst hF; exact kk H1 locs1)
  intro T hT X
  obtain ⟨v', st₀, t, T', L, h0, X', hL, e1, e2, ⟨hv, hp1, hz⟩, st⟩ := va_runV (As := As) (rest := rest) ⟨hx, hb, hml, hown, hg⟩ hM (cwV n hg hG rfl hrc hrs hd hR) ⟨fun a U g mk q => by obtain ⟨q0, q1, qP, qK, qD⟩ := q; exact ⟨q0, q1, qP, va_K.moved (u := U) (U := U.calling g mk a) (Vm.Alike.refl U.vm) qK, qD⟩, va_recv hK hPc (ci := ci) (q0 := q0) hc he, fun U hU hW => ⟨rfl, by rw [hU], by rw [hU]; exact hPc, va_K.moved hW.alike hK, hDc.weaken (fun _ _ _ _ => trivial)⟩⟩ rfl hn hsize rfl (lv_room hW) hdg hf T hT X
  exact ⟨v', st₀, t, T', L, h0, X', hL, e1, e2, ⟨hv, ⟨w1, rfl, hp1, hD1⟩, hz⟩, st⟩
theorem zl_bd (x : Int64) : -9223372036854775808 ≤ x.toInt ∧ x.toInt < 9223372036854775808 := ⟨by have := x.le_toInt; omega, by have := x.toInt_lt; omega⟩
theorem zz_lcmp_same (hexec : p.tables.exec = Jvm.exec) (hb : c.code = cc) {x : Int} {off : Int} {tgt : Nat} (hd0 : decode cc pc = .ok (.lcmp, 1)) (hdg : decode cc (pc + 1) = .ok (.ifCond .eq off, 3)) (ht : ((pc + 1 : Nat) : Int) + off = (tgt : Int)) (kt : W p l e R s m args below meth c H locs cells slots Q (F0 m tgt ls rest)) : W p l e R s m args below meth c H locs cells slots Q (F0 m pc ls (.long (zl x) :: .long (zl x) :: rest)) := by
  rw [zl_of (zl x)]
  exact zz_lcmp_eq hexec hb (zl_bd _) (zl_bd _) hd0 hdg ht (fun _ => kt) (fun q => absurd rfl q)
theorem zz_sld (hexec : p.tables.exec = Jvm.exec) (hb : c.code = cc) {b L : Nat} {xs : Nat → Int32} (hX : va_X b L xs s H0) (hbl : b < H0.size) (hbA : ¬ A b) (hS : va_S A H0 H locs) {z : Int} (j : Nat) (hz : z = (j : Int)) (hj : j < L) (hL : L < 2147483648) (hdg : decode cc pc = .ok (.iaload, 1))
    (kk : W p l e R s m args below meth c H locs cells slots Q (F0 m (pc + 1) ls (.int (zi (xs j).toInt) :: rest))) : W p l e R s m args below meth c H locs cells slots Q (F0 m pc ls (.int (zi z) :: .ref b :: rest)) := by
  subst hz
  refine va_sld hexec hb hX hbl hbA hS (zi_in hj hL) hdg ?_
  rw [zi_cl (by omega), zi_of (xs j)]
  exact kk
end LM
