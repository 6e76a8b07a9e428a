theorem mem2 {α : Type} {P : α → Prop} {a b : α} (h1 : P a) (h2 : P b) : ∀ z ∈ [a, b], P z := fun z hz => by
  rcases List.mem_cons.mp hz with rfl | hz
  · exact h1
  · rcases List.mem_singleton.mp hz with rfl
    exact h2
theorem zz_i2lr {p : Program} {l : Launch} {e : Env} {R : Room} {s : State} {m : MethodId} {args : Array Value} {below : List Frame} {meth : Method} {c : Code} {H : Heap} {locs : List Loc} {cells slots : Nat} {Q : State → Prop} {pc : Nat} {ls : Array Slot} {rest : List Value} {cc : ByteArray} (hexec : p.tables.exec = Jvm.exec) (hb : c.code = cc) {x : Int} (hdg : decode cc pc = .ok (.i2l, 1)) (k : W p l e R s m args below meth c H locs cells slots Q (F0 m (pc + 1) ls (.long (zl (zi x).toInt) :: rest))) : W p l e R s m args below meth c H locs cells slots Q (F0 m pc ls (.int (zi x) :: rest)) :=
  lv_i2l hexec hb hdg (by
    have h := zi_bd (zi x)
    have e := zi_l h.1 h.2
    rw [← zi_of] at e
    exact e) k
def xC (U : State) : Prop := va_Nc KA KI U ∧ va_Nc KS KI U ∧ va_Nc KS KA U
theorem xC.to {s U : State} (h : xC s) (hv : s.vm.Alike U.vm) : xC U := ⟨va_Nc.moved hv h.1, va_Nc.moved hv h.2.1, va_Nc.moved hv h.2.2⟩
def xA (U : State) : Prop := xE U ∧ xN U ∧ xC U
theorem xA.same {s U : State} (h : xA s) (hW : s.WarmedH U.vm) (e : s.vm = U.vm) (hk : s.heap = U.heap) : xA U := ⟨h.1.to hW (fun q _ => by rw [hk]), h.2.1.same e, h.2.2.to (by rw [e]; exact Vm.Alike.refl _)⟩
/-- the start of a helper: cells, words of throws and of makers -/
abbrev PcH (av : List Value) (D : va_G) (cl : List vw_C) (ws : va_W) (tys : List (ClassId × FieldType)) (sz : Nat) : Array Value → State → Prop := va_Pc av (fun U => U.heap.size = sz ∧ va_P D cl ws U.heap ∧ va_K D cl tys U ∧ va_D (fun _ => True) ws ∧ xA U)
section HP
variable {p : Program} {l : Launch} {e : Env} {R : Room} {s : State} {m : MethodId} {args : Array Value} {below : List Frame} {meth : Method} {c : Code} {H H0 : Heap} {locs : List Loc} {cells slots : Nat} {Q : State → Prop} {pc : Nat} {ls : Array Slot} {rest st0 As : List Value} {cc bytes : ByteArray} {D : va_G} {cl : List vw_C} {ws wc wr w1 ws' : va_W} {tys : List (ClassId × FieldType)} {nL maxL idx n mc ms : Nat} {own C : String} {y : MethodName} {ret : Option FieldType} {rm : Room} {b : Nat} {A : Nat → Prop} {F : va_W → Prop}
theorem thK {K : String} {av : Array Value} (hr : vx_Run p l e R s m args below meth c s.heap [] 0 0 1 6 (F0 m pc ls st0) rest (QF av) (XK K) (fun _ => False))
    (kk : ∀ (q9 : Addr) (ce : Cell) (H1 : Heap) (locs1 : List Loc), H1[q9]? = some ce → ce.vm = .none → s.vm.findClass K = some ce.cls → va_S (fun _ => False) s.heap H1 locs1 → vx_W p l e R s m args below meth c H1 locs1 1 6 Q (F0 m pc ls rest) q9) : W p l e R s m args below meth c s.heap [] 0 0 Q (F0 m pc ls st0) := by
  intro T hT X
  rcases hr T hT X with ⟨v, st₀, t, T', L, h0, X', hL, e1, e2, hq, st⟩ | ⟨q, st₀, t, T', L, E, ce, h0, X', hL, e1, e2, ⟨hEK, hF⟩, hce, hcv, hcl, st⟩
  · exact hq.elim
  · subst hEK
    have hz := hF.1
    have hk := hF.2
    rw [h0] at hz hk
    obtain ⟨t2, a1, b1⟩ := kk q ce T'.heap ([] ++ L) (by rw [e1]; exact hce) hcv hcl ⟨by rw [e1]; exact hz, fun q h1 h2 => by rw [e1]; exact hk q h1 h2, fun z hz => hL z (by simpa using hz)⟩ T' rfl X'
    exact ⟨t2, st.trans a1, b1⟩
theorem thKV {K : String} (hx : p.tables.exec = Jvm.exec) (hb : c.code = cc) (hml : c.maxLocals = nL) (hown : s.vm.findClass own = some m.cls) (hg : ∀ w ∈ gw, w.before args s = true)
    (hM : ThM l y bytes maxL ret rm (PcT (.ref b :: As) D cl wc tys) K) (hG : GoodIn gw (wsV own idx C y (Cond.code y bytes maxL ret :: gw))) (hrc : rm.cells = 1) (hrs : rm.slots = 6)
    (hd : y.cls = C ∧ y.cls ≠ "java/lang/invoke/MethodHandle" ∧ y.cls ≠ "java/lang/invoke/VarHandle" ∧ (parseMethodDescriptor y.desc).map (fun d => d.parameters.length) = some n) (hR : rm.frames + 1 ≤ R.frames ∧ 8 + (maxL + 11) + rm.locals ≤ R.locals)
    (hK : va_K D cl tys s) (hP : va_P D cl wc s.heap) (hE : xE s) {ci : Nat} (q0 : Nat) {fs : List Value} {r : vw_C} (he : wc[q0]? = some (b, .inr (ci, fs))) (hc : cl[ci]? = some r) (hC : r.1 = C)
    (hn : As.length = n) (hsize : ls.size = nL) (hst : st0 = As.reverse ++ .ref b :: rest) (hW : (rest.map fun v => v.category).sum ≤ 8) (hdg : decode cc pc = .ok (.invokevirtual idx, 3)) (hf : 1 ≤ R.cells ∧ 6 ≤ R.slots)
    (kk : ∀ (q9 : Addr) (ce : Cell) (H1 : Heap) (locs1 : List Loc), H1[q9]? = some ce → ce.vm = .none → s.vm.findClass K = some ce.cls → va_S (fun _ => False) s.heap H1 locs1 → vx_W p l e R s m args below meth c H1 locs1 1 6 Q (F0 m pc ls rest) q9) : W p l e R s m args below meth c s.heap [] 0 0 Q (F0 m pc ls st0) := by
  subst hst
  subst hC
  exact thK (vx_runV (As := As) (rest := rest) ⟨hx, hb, hml, hown, hg⟩ hM (cwV n hg hG rfl hrc hrs hd hR) ⟨fun a U g mk q => ⟨q.1, q.2.1, va_K.moved (u := U) (U := U.calling g mk a) (Vm.Alike.refl U.vm) q.2.2.1, q.2.2.2.to (State.WarmedH.refl U) (fun _ _ => rfl)⟩, va_recv hK hP (ci := ci) (q0 := q0) hc he, fun U hU hW => ⟨rfl, by rw [hU]; exact hP, va_K.moved hW.alike hK, hE.to hW (fun q _ => by rw [hU])⟩⟩ rfl hn hsize rfl (lv_room hW) hdg (by omega)) kk
theorem thS0 {A : Nat → Prop} {H0 H1 : Heap} {locs1 : List Loc} (h : va_S (fun _ => False) H0 H1 locs1) : va_S A H0 H1 locs1 := ⟨h.1, fun q h1 _ => h.2.1 q h1 (fun z => z), fun l hl => (h.2.2 l hl).elim⟩
theorem thP {H1 : Heap} {locs1 : List Loc} (hP : va_P D cl ws H0) (h : va_S (fun _ => False) H0 H1 locs1) : va_P D cl ws H1 := hP.kept (fun k q hk => h.2.1 q.1 ((hP k q hk).lt) (fun z => z))
end HP
section HV
variable {p : Program} {l : Launch} {e : Env} {R : Room} {s : State} {m : MethodId} {args : Array Value} {below : List Frame} {meth : Method} {c : Code} {H H0 : Heap} {locs : List Loc} {cells slots : Nat} {Q : State → Prop} {pc : Nat} {ls : Array Slot} {rest st0 As : List Value} {cc bytes : ByteArray} {D : va_G} {cl : List vw_C} {ws wc wr w1 ws' : va_W} {tys : List (ClassId × FieldType)} {nL maxL idx n mc ms : Nat} {own C : String} {y : MethodName} {ret : Option FieldType} {rm : Room} {b : Nat} {A : Nat → Prop} {F : va_W → Prop}
theorem nwV {v : Option Value} (hx : p.tables.exec = Jvm.exec) (hb : c.code = cc) (hml : c.maxLocals = nL) (hown : s.vm.findClass own = some m.cls) (hg : ∀ w ∈ gw, w.before args s = true)
    (hM : Met l y (Cond.code y bytes maxL ret :: gw) rm (PcN (.ref b :: As) D cl wc tys H.size) (NwQ v D cl F (va_A wc H.size)) mc ms (va_A wc H.size))
    (hG : GoodIn gw (wsV own idx C y (Cond.code y bytes maxL ret :: gw))) (hrc : rm.cells = mc) (hrs : rm.slots = ms)
    (hd : y.cls = C ∧ y.cls ≠ "java/lang/invoke/MethodHandle" ∧ y.cls ≠ "java/lang/invoke/VarHandle" ∧ (parseMethodDescriptor y.desc).map (fun d => d.parameters.length) = some n) (hR0 : rm.frames + 1 ≤ R.frames ∧ 8 + (maxL + 11) + rm.locals ≤ R.locals)
    (hK : va_K D cl tys s) (hN : xN s) (hP : va_P D cl ws H) (hD : va_D A ws) (hS : va_S A H0 H locs) (hA : ∀ q, H0.size ≤ q → A q)
    (isC isR : List Nat) (hnC : va_nd isC = true) (hC : isC.map (fun i => ws[i]?) = wc.map some) (hR : isR.map (fun i => ws[i]?) = wr.map some) (hn9 : va_nd isR = true) (hdis : ∀ i ∈ isR, i ∉ isC)
    {ci : Nat} (q0 : Nat) {fs : List Value} {r : vw_C} (he : wc[q0]? = some (b, .inr (ci, fs))) (hc : cl[ci]? = some r) (hC1 : r.1 = C)
    (hn : As.length = n) (hsize : ls.size = nL) (hst : st0 = As.reverse ++ .ref b :: rest) (hW : (rest.map fun v => v.category).sum ≤ 8) (hdg : decode cc pc = .ok (.invokevirtual idx, 3)) (hf : cells + mc ≤ R.cells ∧ slots + ms ≤ R.slots)
    (kk : ∀ (w1 : va_W) (H1 : Heap) (locs1 : List Loc), F w1 → va_P D cl (wr ++ w1) H1 → va_D A (wr ++ w1) → va_S A H0 H1 locs1 → W p l e R s m args below meth c H1 locs1 (cells + mc) (slots + ms) Q (F0 m (pc + 3) ls (v.toList ++ rest))) : W p l e R s m args below meth c H locs cells slots Q (F0 m pc ls st0) := by
  subst hst
  subst hC1
  have hPc : va_P D cl wc H := by
    refine hP.sub isC ?_
    have h1 : isC.filterMap (fun i => ws[i]?) = (isC.map (fun i => ws[i]?)).filterMap id := by rw [List.filterMap_map]; rfl
    rw [h1, hC, List.filterMap_map]
    exact List.filterMap_some
  have hDc : va_D A wc := hD.sub isC hnC hC
  exact nwC (va_runV (As := As) (rest := rest) ⟨hx, hb, hml, hown, hg⟩ hM (cwV n hg hG rfl hrc hrs hd hR0) ⟨fun a U g mk q => by obtain ⟨q0, q1, qP, qK, qD, qN⟩ := q; exact ⟨q0, q1, qP, va_K.moved (u := U) (U := U.calling g mk a) (Vm.Alike.refl U.vm) qK, qD, qN.same rfl⟩, va_recv hK hPc (ci := ci) (q0 := q0) hc he, fun U hU hW => ⟨rfl, by rw [hU], by rw [hU]; exact hPc, va_K.moved hW.alike hK, hDc.weaken (fun _ _ _ _ => trivial), hN.to hW⟩⟩ rfl hn hsize rfl (lv_room hW) hdg hf) hP hD hS hA isC isR hC hR hn9 hdis kk
end HV
abbrev rh_profile_3 : Room := { frames := 9, cells := 3, slots := 29, locals := 200 }
set_option maxHeartbeats 4000000 in
set_option maxRecDepth 100000 in
theorem h_c_profile (l : Launch) (dC : Nat → ClassId) (dI : Nat → Nat → Nat) (sz : Nat) (x0 pa ba ax ay sp ss vs fr : Nat) (pn bn ln sn : Nat) (cA cQ : ClassId) (pf : Nat → Option Nat) (hpn : pn < 6) (ou : Nat) (cL : ClassId) (of : Nat → Int) : Met l yL_profile (Cond.codeWith yL_profile cL_profile 3 (Option.some Jvm.ClassFile.FieldType.int) [((0 : Nat), (8 : Nat), (11 : Nat), (13 : Nat))] :: gw) rh_profile_3 (PcH [.ref x0, .ref ou] (dC, dI) vwCl [(x0, .inr (2, [.ref pa, .int (zi ((pn : Int))), .ref ba, .int (zi ((bn : Int))), .ref ax, .ref ay, .int (zi ((ln : Int))), .ref sp, .ref ss, .int (zi ((sn : Int))), .ref vs, .ref fr])), (pa, .inl (cQ, 6, .inr (.inr (.inr (.inr (pf)))))), (ou, .inl (cL, 1, .inr (.inl (zB (of)))))] [(cQ, .object "PotVolumes$Profile"), (cA, .int), (cL, .long)] sz) (NwQ (some (.int (zi (0)))) (dC, dI) vwCl (fun w9 => ∃ h0 h1 h2 : Nat, w9 = [(x0, .inr (2, [.ref pa, .int (zi (((pn + 1 : Nat) : Int))), .ref ba, .int (zi ((bn : Int))), .ref ax, .ref ay, .int (zi ((ln : Int))), .ref sp, .ref ss, .int (zi ((sn : Int))), .ref vs, .ref fr])), (pa, .inl (cQ, 6, .inr (.inr (.inr (.inr (va_up pf (pn) (some h0))))))), (h0, .inr (1, [.ref h1, .ref h2, .int (zi (0)), .int (zi (0)), .int (zi (0))])), (h1, .inl (cA, 12, .inl (zA (fun _ => 0)))), (h2, .inl (cA, 12, .inl (zA (fun _ => 0)))), (ou, .inl (cL, 1, .inr (.inl (zB (zupd of (0) ((zi ((pn : Int))).toInt))))))]) (va_A [(x0, .inr (2, [.ref pa, .int (zi ((pn : Int))), .ref ba, .int (zi ((bn : Int))), .ref ax, .ref ay, .int (zi ((ln : Int))), .ref sp, .ref ss, .int (zi ((sn : Int))), .ref vs, .ref fr])), (pa, .inl (cQ, 6, .inr (.inr (.inr (.inr (pf)))))), (ou, .inl (cL, 1, .inr (.inl (zB (of)))))] sz)) 3 29 (va_A [(x0, .inr (2, [.ref pa, .int (zi ((pn : Int))), .ref ba, .int (zi ((bn : Int))), .ref ax, .ref ay, .int (zi ((ln : Int))), .ref sp, .ref ss, .int (zi ((sn : Int))), .ref vs, .ref fr])), (pa, .inl (cQ, 6, .inr (.inr (.inr (.inr (pf)))))), (ou, .inl (cL, 1, .inr (.inl (zB (of)))))] sz) := by
  refine va_MetW (cc := cL_profile) (maxL := 3) (ret := (Option.some Jvm.ClassFile.FieldType.int)) (hh := [((0 : Nat), (8 : Nat), (11 : Nat), (13 : Nat))]) (by decide) rfl ?_
  intro p e s m args below meth c s₁ B hml hv
  obtain ⟨hargs, hsz, hP, hK, hD0, hXA⟩ := hv
  have hx := B.exec
  have hb := B.bytes
  have hr := B.returns
  have hts := atoms_spec (ws := Cond.codeWith yL_profile cL_profile 3 (Option.some Jvm.ClassFile.FieldType.int) [((0 : Nat), (8 : Nat), (11 : Nat), (13 : Nat))] :: gw) B.pre
  have hg : ∀ w ∈ gw, w.before args s = true := fun w h => hts w (List.mem_cons_of_mem _ h)
  have hown : s.vm.findClass RL = some m.cls := findClass_of_methodNamed B.named
  have hlocks := B.notSynchronized
  have htab := vx_table (x := yL_profile) B (hts _ List.mem_cons_self)
  subst hsz
  have hD := hD0.self (sz := s.heap.size)
  generalize hAe : va_A [(x0, .inr (2, [.ref pa, .int (zi ((pn : Int))), .ref ba, .int (zi ((bn : Int))), .ref ax, .ref ay, .int (zi ((ln : Int))), .ref sp, .ref ss, .int (zi ((sn : Int))), .ref vs, .ref fr])), (pa, .inl (cQ, 6, .inr (.inr (.inr (.inr (pf)))))), (ou, .inl (cL, 1, .inr (.inl (zB (of)))))] s.heap.size = A at hD ⊢
  have hA : ∀ q : Nat, s.heap.size ≤ q → A q := fun q h => by rw [← hAe]; exact Or.inr h
  show W p l e rh_profile_3 s m args below meth c s.heap [] 0 0 _ _
  have hl := lv_entry ([.ref x0, .ref ou]) (n := 3) (Nat.le_of_ble_eq_true rfl)
  rw [show entryFrame m args 3 = entryFrame m ([.ref x0, .ref ou] : List Value).toArray 3 by rw [hargs], lg_entry_eq]
  generalize (lg_sl ([.ref x0, .ref ou]) ++ List.replicate (3 - (lg_sl ([.ref x0, .ref ou])).length) Slot.unset).toArray = ls at hl ⊢
  have hl : lv_has ls 3 [(0, .ref x0), (1, .ref ou)] := hl
  refine lv_aload_n hx hb dL_profile_0 rfl (lv_at hl 1 rfl) ?_
  refine lv_iconst (v := zi (0)) hx hb dL_profile_1 rfl ?_
  refine lv_aload_n hx hb dL_profile_2 rfl (lv_at hl 0 rfl) ?_
  obtain ⟨H, hHe⟩ : ∃ H : Heap, H = s.heap := ⟨_, rfl⟩
  obtain ⟨locs, hlc⟩ : ∃ x : List Loc, x = [] := ⟨_, rfl⟩
  have hS : va_S A s.heap H locs := by rw [hHe, hlc]; exact va_S.rf
  have hP : va_P (dC, dI) vwCl [(x0, .inr (2, [.ref pa, .int (zi ((pn : Int))), .ref ba, .int (zi ((bn : Int))), .ref ax, .ref ay, .int (zi ((ln : Int))), .ref sp, .ref ss, .int (zi ((sn : Int))), .ref vs, .ref fr])), (pa, .inl (cQ, 6, .inr (.inr (.inr (.inr (pf)))))), (ou, .inl (cL, 1, .inr (.inl (zB (of)))))] H := by rw [hHe]; exact hP
  rw [← hHe, ← hlc]
  refine nwV (As := []) (rest := [.int (zi (0)), .ref ou]) (n := 0) hx hb hml hown hg (c_profile l dC dI H.size x0 pa ba ax ay sp ss vs fr pn bn ln sn cA cQ pf hpn) (gwV wl_L_7 wm_X2_profile we_X2_profile wi_X2 wc_X2_profile) rfl rfl (by decide +kernel) ⟨(Nat.le_of_ble_eq_true rfl), (Nat.le_of_ble_eq_true rfl)⟩ (hK.sub [0, 1] rfl) hXA.2.1 hP hD hS hA [0, 1] [2] (by decide) (wr := [(ou, .inl (cL, 1, .inr (.inl (zB (of)))))]) rfl rfl (by decide) (by decide) 0 rfl rfl rfl rfl hl.1 rfl (Nat.le_of_ble_eq_true rfl) dL_profile_3 ⟨(Nat.le_of_ble_eq_true rfl), (Nat.le_of_ble_eq_true rfl)⟩ (fun w1 H locs hF hP hD hS => ?_)
  obtain ⟨h0, h1, h2, rfl⟩ := hF
  refine zz_i2lr hx hb dL_profile_6 ?_
  refine zz_last hx hb hK hP hD hS 0 2 rfl rfl (0) (by omega) (by omega) (by decide) dL_profile_7 (fun H locs hP hD hS => ?_)
  refine lv_goto (tgt := 14) hx hb dL_profile_8 (by decide) ?_
  refine lv_iconst (v := zi (0)) hx hb dL_profile_14 rfl ?_
  exact nw_i hx hb hr hlocks rfl (F := (fun w9 => ∃ h0 h1 h2 : Nat, w9 = [(x0, .inr (2, [.ref pa, .int (zi (((pn + 1 : Nat) : Int))), .ref ba, .int (zi ((bn : Int))), .ref ax, .ref ay, .int (zi ((ln : Int))), .ref sp, .ref ss, .int (zi ((sn : Int))), .ref vs, .ref fr])), (pa, .inl (cQ, 6, .inr (.inr (.inr (.inr (va_up pf (pn) (some h0))))))), (h0, .inr (1, [.ref h1, .ref h2, .int (zi (0)), .int (zi (0)), .int (zi (0))])), (h1, .inl (cA, 12, .inl (zA (fun _ => 0)))), (h2, .inl (cA, 12, .inl (zA (fun _ => 0)))), (ou, .inl (cL, 1, .inr (.inl (zB (zupd of (0) ((zi ((pn : Int))).toInt))))))])) ⟨h0, h1, h2, rfl⟩ (hP.sub [1, 2, 3, 4, 5, 0] rfl) (hD.sub [1, 2, 3, 4, 5, 0] (by decide) rfl) hS dL_profile_15
abbrev rh_profile_1 : Room := { frames := 9, cells := 1, slots := 6, locals := 200 }
set_option maxHeartbeats 4000000 in
set_option maxRecDepth 100000 in
theorem h_t_profile_S (l : Launch) (hl0 : l.stackTraces = false) (dC : Nat → ClassId) (dI : Nat → Nat → Nat) (sz : Nat) (x0 pa ba ax ay sp ss vs fr : Nat) (pn bn ln sn : Nat) (hbad : pn = 6) (ou : Nat) (cL : ClassId) (of : Nat → Int) : Met l yL_profile (Cond.codeWith yL_profile cL_profile 3 (Option.some Jvm.ClassFile.FieldType.int) [((0 : Nat), (8 : Nat), (11 : Nat), (13 : Nat))] :: gw) rh_profile_1 (PcH [.ref x0, .ref ou] (dC, dI) vwCl [(x0, .inr (2, [.ref pa, .int (zi ((pn : Int))), .ref ba, .int (zi ((bn : Int))), .ref ax, .ref ay, .int (zi ((ln : Int))), .ref sp, .ref ss, .int (zi ((sn : Int))), .ref vs, .ref fr])), (ou, .inl (cL, 1, .inr (.inl (zB (of)))))] [(cL, .long)] sz) (NwQ (some (.int (zi (1)))) (dC, dI) vwCl (fun w9 => w9 = [(x0, .inr (2, [.ref pa, .int (zi ((pn : Int))), .ref ba, .int (zi ((bn : Int))), .ref ax, .ref ay, .int (zi ((ln : Int))), .ref sp, .ref ss, .int (zi ((sn : Int))), .ref vs, .ref fr])), (ou, .inl (cL, 1, .inr (.inl (zB (of)))))]) (va_A [(x0, .inr (2, [.ref pa, .int (zi ((pn : Int))), .ref ba, .int (zi ((bn : Int))), .ref ax, .ref ay, .int (zi ((ln : Int))), .ref sp, .ref ss, .int (zi ((sn : Int))), .ref vs, .ref fr])), (ou, .inl (cL, 1, .inr (.inl (zB (of)))))] sz)) 1 6 (va_A [(x0, .inr (2, [.ref pa, .int (zi ((pn : Int))), .ref ba, .int (zi ((bn : Int))), .ref ax, .ref ay, .int (zi ((ln : Int))), .ref sp, .ref ss, .int (zi ((sn : Int))), .ref vs, .ref fr])), (ou, .inl (cL, 1, .inr (.inl (zB (of)))))] sz) := by
  refine va_MetW (cc := cL_profile) (maxL := 3) (ret := (Option.some Jvm.ClassFile.FieldType.int)) (hh := [((0 : Nat), (8 : Nat), (11 : Nat), (13 : Nat))]) (by decide) rfl ?_
  intro p e s m args below meth c s₁ B hml hv
  obtain ⟨hargs, hsz, hP, hK, hD0, hXA⟩ := hv
  have hx := B.exec
  have hb := B.bytes
  have hr := B.returns
  have hts := atoms_spec (ws := Cond.codeWith yL_profile cL_profile 3 (Option.some Jvm.ClassFile.FieldType.int) [((0 : Nat), (8 : Nat), (11 : Nat), (13 : Nat))] :: gw) B.pre
  have hg : ∀ w ∈ gw, w.before args s = true := fun w h => hts w (List.mem_cons_of_mem _ h)
  have hown : s.vm.findClass RL = some m.cls := findClass_of_methodNamed B.named
  have hlocks := B.notSynchronized
  have htab := vx_table (x := yL_profile) B (hts _ List.mem_cons_self)
  subst hsz
  have hD := hD0.self (sz := s.heap.size)
  generalize hAe : va_A [(x0, .inr (2, [.ref pa, .int (zi ((pn : Int))), .ref ba, .int (zi ((bn : Int))), .ref ax, .ref ay, .int (zi ((ln : Int))), .ref sp, .ref ss, .int (zi ((sn : Int))), .ref vs, .ref fr])), (ou, .inl (cL, 1, .inr (.inl (zB (of)))))] s.heap.size = A at hD ⊢
  have hA : ∀ q : Nat, s.heap.size ≤ q → A q := fun q h => by rw [← hAe]; exact Or.inr h
  show W p l e rh_profile_1 s m args below meth c s.heap [] 0 0 _ _
  have hl := lv_entry ([.ref x0, .ref ou]) (n := 3) (Nat.le_of_ble_eq_true rfl)
  rw [show entryFrame m args 3 = entryFrame m ([.ref x0, .ref ou] : List Value).toArray 3 by rw [hargs], lg_entry_eq]
  generalize (lg_sl ([.ref x0, .ref ou]) ++ List.replicate (3 - (lg_sl ([.ref x0, .ref ou])).length) Slot.unset).toArray = ls at hl ⊢
  have hl : lv_has ls 3 [(0, .ref x0), (1, .ref ou)] := hl
  refine lv_aload_n hx hb dL_profile_0 rfl (lv_at hl 1 rfl) ?_
  refine lv_iconst (v := zi (0)) hx hb dL_profile_1 rfl ?_
  refine lv_aload_n hx hb dL_profile_2 rfl (lv_at hl 0 rfl) ?_
  refine thKV (As := []) (rest := [.int (zi (0)), .ref ou]) (n := 0) hx hb hml hown hg (t_profile_S l hl0 dC dI x0 pa ba ax ay sp ss vs fr pn bn ln sn hbad) (gwV wl_L_7 wm_X2_profile we_X2_profile wi_X2 wc_X2_profile) rfl rfl (by decide +kernel) ⟨(Nat.le_of_ble_eq_true rfl), (Nat.le_of_ble_eq_true rfl)⟩ (hK.sub [] rfl) (hP.sub [0] rfl) hXA.1 0 rfl rfl rfl rfl hl.1 rfl (Nat.le_of_ble_eq_true rfl) dL_profile_3 ⟨(Nat.le_of_ble_eq_true rfl), (Nat.le_of_ble_eq_true rfl)⟩ (fun q9 ce H1 locs1 hcell hcv hcl hS0 => ?_)
  refine vx_catch (E := KS) (name := KS) hown [] ⟨0, 8, 11, 13⟩ [] htab (fun z hz => by cases hz) (by decide) (by decide) (hg _ wl_L_13) (va_Nw.use rfl (hXA.1.1 KS (by decide))) hcell hcv hcl ?_
  refine lv_astore_n (lv' := [(2, .ref q9), (0, .ref x0), (1, .ref ou)]) hx hb dL_profile_11 rfl hl (by decide) rfl (fun ls hl => ?_)
  refine lv_iconst (v := zi (1)) hx hb dL_profile_12 rfl ?_
  exact nw_i hx hb hr hlocks rfl (F := (fun w9 => w9 = [(x0, .inr (2, [.ref pa, .int (zi ((pn : Int))), .ref ba, .int (zi ((bn : Int))), .ref ax, .ref ay, .int (zi ((ln : Int))), .ref sp, .ref ss, .int (zi ((sn : Int))), .ref vs, .ref fr])), (ou, .inl (cL, 1, .inr (.inl (zB (of)))))])) rfl (thP hP hS0) hD (thS0 hS0) dL_profile_13
abbrev rh_corner_0 : Room := { frames := 9, cells := 0, slots := 0, locals := 200 }
set_option maxHeartbeats 4000000 in
set_option maxRecDepth 100000 in
theorem h_c_corner_y (l : Launch) (dC : Nat → ClassId) (dI : Nat → Nat → Nat) (sz : Nat) (x0 pa ba ax ay sp ss vs fr : Nat) (pn bn ln sn : Nat) (cQ : ClassId) (pf : Nat → Option Nat) (h0 h1 h2 : Nat) (cA : ClassId) (n : Nat) (th wc : Int) (hs rs : Nat → Int) (j : Nat) (h r : Int) (hn : n ≤ 12) (hH : ∀ j, 0 ≤ hs j ∧ hs j ≤ 400) (hR : ∀ j, 0 ≤ rs j ∧ rs j ≤ 200) (hj : j < 6) (hf : pf j = some h0) (hh : 0 ≤ h ∧ h ≤ 400) (hr9 : 0 ≤ r ∧ r ≤ 200) (hw : wc = 0 ∨ wc = 1) (hcl : wc = 0 ∧ n < 12) (hcf : p_canf n hs rs h r = true) (ou : Nat) (cL : ClassId) (of : Nat → Int) : Met l yL_corner (Cond.codeWith yL_corner cL_corner 6 (Option.some Jvm.ClassFile.FieldType.int) [((0 : Nat), (19 : Nat), (22 : Nat), (19 : Nat)), ((0 : Nat), (19 : Nat), (26 : Nat), (21 : Nat)), ((0 : Nat), (19 : Nat), (30 : Nat), (13 : Nat))] :: gw) rh_corner_0 (PcH [.ref x0, .int (zi ((j : Int))), .int (zi (h)), .int (zi (r)), .ref ou] (dC, dI) vwCl [(x0, .inr (2, [.ref pa, .int (zi ((pn : Int))), .ref ba, .int (zi ((bn : Int))), .ref ax, .ref ay, .int (zi ((ln : Int))), .ref sp, .ref ss, .int (zi ((sn : Int))), .ref vs, .ref fr])), (pa, .inl (cQ, 6, .inr (.inr (.inr (.inr (pf)))))), (h0, .inr (1, [.ref h1, .ref h2, .int (zi ((n : Int))), .int (zi (th)), .int (zi (wc))])), (h1, .inl (cA, 12, .inl (zA (hs)))), (h2, .inl (cA, 12, .inl (zA (rs)))), (ou, .inl (cL, 1, .inr (.inl (zB (of)))))] [(cQ, .object "PotVolumes$Profile"), (cA, .int), (cL, .long)] sz) (NwQ (some (.int (zi (0)))) (dC, dI) vwCl (fun w9 => w9 = [(x0, .inr (2, [.ref pa, .int (zi ((pn : Int))), .ref ba, .int (zi ((bn : Int))), .ref ax, .ref ay, .int (zi ((ln : Int))), .ref sp, .ref ss, .int (zi ((sn : Int))), .ref vs, .ref fr])), (pa, .inl (cQ, 6, .inr (.inr (.inr (.inr (pf)))))), (h0, .inr (1, [.ref h1, .ref h2, .int (zi (((n + 1 : Nat) : Int))), .int (zi (th)), .int (zi (wc))])), (h1, .inl (cA, 12, .inl (zA (zupd hs (n) (h))))), (h2, .inl (cA, 12, .inl (zA (zupd rs (n) (r))))), (ou, .inl (cL, 1, .inr (.inl (zB (zupd of (0) (1))))))]) (va_A [(x0, .inr (2, [.ref pa, .int (zi ((pn : Int))), .ref ba, .int (zi ((bn : Int))), .ref ax, .ref ay, .int (zi ((ln : Int))), .ref sp, .ref ss, .int (zi ((sn : Int))), .ref vs, .ref fr])), (pa, .inl (cQ, 6, .inr (.inr (.inr (.inr (pf)))))), (h0, .inr (1, [.ref h1, .ref h2, .int (zi ((n : Int))), .int (zi (th)), .int (zi (wc))])), (h1, .inl (cA, 12, .inl (zA (hs)))), (h2, .inl (cA, 12, .inl (zA (rs)))), (ou, .inl (cL, 1, .inr (.inl (zB (of)))))] sz)) 0 0 (va_A [(x0, .inr (2, [.ref pa, .int (zi ((pn : Int))), .ref ba, .int (zi ((bn : Int))), .ref ax, .ref ay, .int (zi ((ln : Int))), .ref sp, .ref ss, .int (zi ((sn : Int))), .ref vs, .ref fr])), (pa, .inl (cQ, 6, .inr (.inr (.inr (.inr (pf)))))), (h0, .inr (1, [.ref h1, .ref h2, .int (zi ((n : Int))), .int (zi (th)), .int (zi (wc))])), (h1, .inl (cA, 12, .inl (zA (hs)))), (h2, .inl (cA, 12, .inl (zA (rs)))), (ou, .inl (cL, 1, .inr (.inl (zB (of)))))] sz) := by
  refine va_MetW (cc := cL_corner) (maxL := 6) (ret := (Option.some Jvm.ClassFile.FieldType.int)) (hh := [((0 : Nat), (19 : Nat), (22 : Nat), (19 : Nat)), ((0 : Nat), (19 : Nat), (26 : Nat), (21 : Nat)), ((0 : Nat), (19 : Nat), (30 : Nat), (13 : Nat))]) (by decide) rfl ?_
  intro p e s m args below meth c s₁ B hml hv
  obtain ⟨hargs, hsz, hP, hK, hD0, hXA⟩ := hv
  have hx := B.exec
  have hb := B.bytes
  have hr := B.returns
  have hts := atoms_spec (ws := Cond.codeWith yL_corner cL_corner 6 (Option.some Jvm.ClassFile.FieldType.int) [((0 : Nat), (19 : Nat), (22 : Nat), (19 : Nat)), ((0 : Nat), (19 : Nat), (26 : Nat), (21 : Nat)), ((0 : Nat), (19 : Nat), (30 : Nat), (13 : Nat))] :: gw) B.pre
  have hg : ∀ w ∈ gw, w.before args s = true := fun w h => hts w (List.mem_cons_of_mem _ h)
  have hown : s.vm.findClass RL = some m.cls := findClass_of_methodNamed B.named
  have hlocks := B.notSynchronized
  have htab := vx_table (x := yL_corner) B (hts _ List.mem_cons_self)
  subst hsz
  have hD := hD0.self (sz := s.heap.size)
  generalize hAe : va_A [(x0, .inr (2, [.ref pa, .int (zi ((pn : Int))), .ref ba, .int (zi ((bn : Int))), .ref ax, .ref ay, .int (zi ((ln : Int))), .ref sp, .ref ss, .int (zi ((sn : Int))), .ref vs, .ref fr])), (pa, .inl (cQ, 6, .inr (.inr (.inr (.inr (pf)))))), (h0, .inr (1, [.ref h1, .ref h2, .int (zi ((n : Int))), .int (zi (th)), .int (zi (wc))])), (h1, .inl (cA, 12, .inl (zA (hs)))), (h2, .inl (cA, 12, .inl (zA (rs)))), (ou, .inl (cL, 1, .inr (.inl (zB (of)))))] s.heap.size = A at hD ⊢
  have hA : ∀ q : Nat, s.heap.size ≤ q → A q := fun q h => by rw [← hAe]; exact Or.inr h
  show W p l e rh_corner_0 s m args below meth c s.heap [] 0 0 _ _
  have hl := lv_entry ([.ref x0, .int (zi ((j : Int))), .int (zi (h)), .int (zi (r)), .ref ou]) (n := 6) (Nat.le_of_ble_eq_true rfl)
  rw [show entryFrame m args 6 = entryFrame m ([.ref x0, .int (zi ((j : Int))), .int (zi (h)), .int (zi (r)), .ref ou] : List Value).toArray 6 by rw [hargs], lg_entry_eq]
  generalize (lg_sl ([.ref x0, .int (zi ((j : Int))), .int (zi (h)), .int (zi (r)), .ref ou]) ++ List.replicate (6 - (lg_sl ([.ref x0, .int (zi ((j : Int))), .int (zi (h)), .int (zi (r)), .ref ou])).length) Slot.unset).toArray = ls at hl ⊢
  have hl : lv_has ls 6 [(0, .ref x0), (1, .int (zi ((j : Int)))), (2, .int (zi (h))), (3, .int (zi (r))), (4, .ref ou)] := hl
  refine lv_aload hx hb dL_corner_0 (lv_at hl 4 rfl) ?_
  refine lv_iconst (v := zi (0)) hx hb dL_corner_2 rfl ?_
  refine lv_aload_n hx hb dL_corner_3 rfl (lv_at hl 0 rfl) ?_
  refine lv_iload_n hx hb dL_corner_4 rfl (lv_at hl 1 rfl) ?_
  refine lv_iload_n hx hb dL_corner_5 rfl (lv_at hl 2 rfl) ?_
  refine lv_iload_n hx hb dL_corner_6 rfl (lv_at hl 3 rfl) ?_
  obtain ⟨H, hHe⟩ : ∃ H : Heap, H = s.heap := ⟨_, rfl⟩
  obtain ⟨locs, hlc⟩ : ∃ x : List Loc, x = [] := ⟨_, rfl⟩
  have hS : va_S A s.heap H locs := by rw [hHe, hlc]; exact va_S.rf
  have hP : va_P (dC, dI) vwCl [(x0, .inr (2, [.ref pa, .int (zi ((pn : Int))), .ref ba, .int (zi ((bn : Int))), .ref ax, .ref ay, .int (zi ((ln : Int))), .ref sp, .ref ss, .int (zi ((sn : Int))), .ref vs, .ref fr])), (pa, .inl (cQ, 6, .inr (.inr (.inr (.inr (pf)))))), (h0, .inr (1, [.ref h1, .ref h2, .int (zi ((n : Int))), .int (zi (th)), .int (zi (wc))])), (h1, .inl (cA, 12, .inl (zA (hs)))), (h2, .inl (cA, 12, .inl (zA (rs)))), (ou, .inl (cL, 1, .inr (.inl (zB (of)))))] H := by rw [hHe]; exact hP
  rw [← hHe, ← hlc]
  refine wrV (As := [.int (zi ((j : Int))), .int (zi (h)), .int (zi (r))]) (rest := [.int (zi (0)), .ref ou]) (n := 3) (ws' := [(x0, .inr (2, [.ref pa, .int (zi ((pn : Int))), .ref ba, .int (zi ((bn : Int))), .ref ax, .ref ay, .int (zi ((ln : Int))), .ref sp, .ref ss, .int (zi ((sn : Int))), .ref vs, .ref fr])), (pa, .inl (cQ, 6, .inr (.inr (.inr (.inr (pf)))))), (h0, .inr (1, [.ref h1, .ref h2, .int (zi (((n + 1 : Nat) : Int))), .int (zi (th)), .int (zi (wc))])), (h1, .inl (cA, 12, .inl (zA (zupd hs (n) (h))))), (h2, .inl (cA, 12, .inl (zA (zupd rs (n) (r))))), (ou, .inl (cL, 1, .inr (.inl (zB (of)))))]) hx hb hml hown hg (c_corner_y l dC dI H.size x0 pa ba ax ay sp ss vs fr pn bn ln sn cQ pf h0 h1 h2 cA n th wc hs rs j h r hn hH hR hj hf hh hr9 hw hcl hcf) (gwV wl_L_15 wm_X2_corner we_X2_corner wi_X2 wc_X2_corner) rfl rfl (by decide +kernel) ⟨(Nat.le_of_ble_eq_true rfl), (Nat.le_of_ble_eq_true rfl)⟩ (hK.sub [0, 1] rfl) hP hD hS hA [0, 1, 2, 3, 4] rfl (by decide) [(true, 0), (true, 1), (true, 2), (true, 3), (true, 4), (false, 5)] rfl (by decide) rfl 0 rfl rfl rfl rfl hl.1 rfl (Nat.le_of_ble_eq_true rfl) dL_corner_7 ⟨Nat.zero_le _, Nat.zero_le _⟩ (fun H locs hP hD hS => ?_)
  refine zz_if_eq (tgt := 17) hx hb (by decide) dL_corner_10 (by decide) (fun q => absurd q (by decide)) (fun _ => ?_)
  refine lv_lconst (v := zl (1)) hx hb dL_corner_13 (by decide) ?_
  refine lv_goto (tgt := 18) hx hb dL_corner_14 (by decide) ?_
  refine zz_last hx hb hK hP hD hS 5 2 rfl rfl (0) (by omega) (by omega) (by decide) dL_corner_18 (fun H locs hP hD hS => ?_)
  refine lv_goto (tgt := 34) hx hb dL_corner_19 (by decide) ?_
  refine lv_iconst (v := zi (0)) hx hb dL_corner_34 rfl ?_
  exact nw_i hx hb hr hlocks rfl (F := (fun w9 => w9 = [(x0, .inr (2, [.ref pa, .int (zi ((pn : Int))), .ref ba, .int (zi ((bn : Int))), .ref ax, .ref ay, .int (zi ((ln : Int))), .ref sp, .ref ss, .int (zi ((sn : Int))), .ref vs, .ref fr])), (pa, .inl (cQ, 6, .inr (.inr (.inr (.inr (pf)))))), (h0, .inr (1, [.ref h1, .ref h2, .int (zi (((n + 1 : Nat) : Int))), .int (zi (th)), .int (zi (wc))])), (h1, .inl (cA, 12, .inl (zA (zupd hs (n) (h))))), (h2, .inl (cA, 12, .inl (zA (zupd rs (n) (r))))), (ou, .inl (cL, 1, .inr (.inl (zB (zupd of (0) (1))))))])) rfl hP hD hS dL_corner_35
set_option maxHeartbeats 4000000 in
set_option maxRecDepth 100000 in
theorem h_c_corner_n (l : Launch) (dC : Nat → ClassId) (dI : Nat → Nat → Nat) (sz : Nat) (x0 pa ba ax ay sp ss vs fr : Nat) (pn bn ln sn : Nat) (cQ : ClassId) (pf : Nat → Option Nat) (h0 h1 h2 : Nat) (cA : ClassId) (n : Nat) (th wc : Int) (hs rs : Nat → Int) (j : Nat) (h r : Int) (hn : n ≤ 12) (hH : ∀ j, 0 ≤ hs j ∧ hs j ≤ 400) (hR : ∀ j, 0 ≤ rs j ∧ rs j ≤ 200) (hj : j < 6) (hf : pf j = some h0) (hh : 0 ≤ h ∧ h ≤ 400) (hr9 : 0 ≤ r ∧ r ≤ 200) (hw : wc = 0 ∨ wc = 1) (hcl : wc = 0 ∧ n < 12) (hcf : p_canf n hs rs h r = false) (ou : Nat) (cL : ClassId) (of : Nat → Int) : Met l yL_corner (Cond.codeWith yL_corner cL_corner 6 (Option.some Jvm.ClassFile.FieldType.int) [((0 : Nat), (19 : Nat), (22 : Nat), (19 : Nat)), ((0 : Nat), (19 : Nat), (26 : Nat), (21 : Nat)), ((0 : Nat), (19 : Nat), (30 : Nat), (13 : Nat))] :: gw) rh_corner_0 (PcH [.ref x0, .int (zi ((j : Int))), .int (zi (h)), .int (zi (r)), .ref ou] (dC, dI) vwCl [(x0, .inr (2, [.ref pa, .int (zi ((pn : Int))), .ref ba, .int (zi ((bn : Int))), .ref ax, .ref ay, .int (zi ((ln : Int))), .ref sp, .ref ss, .int (zi ((sn : Int))), .ref vs, .ref fr])), (pa, .inl (cQ, 6, .inr (.inr (.inr (.inr (pf)))))), (h0, .inr (1, [.ref h1, .ref h2, .int (zi ((n : Int))), .int (zi (th)), .int (zi (wc))])), (h1, .inl (cA, 12, .inl (zA (hs)))), (h2, .inl (cA, 12, .inl (zA (rs)))), (ou, .inl (cL, 1, .inr (.inl (zB (of)))))] [(cQ, .object "PotVolumes$Profile"), (cA, .int), (cL, .long)] sz) (NwQ (some (.int (zi (0)))) (dC, dI) vwCl (fun w9 => w9 = [(x0, .inr (2, [.ref pa, .int (zi ((pn : Int))), .ref ba, .int (zi ((bn : Int))), .ref ax, .ref ay, .int (zi ((ln : Int))), .ref sp, .ref ss, .int (zi ((sn : Int))), .ref vs, .ref fr])), (pa, .inl (cQ, 6, .inr (.inr (.inr (.inr (pf)))))), (h0, .inr (1, [.ref h1, .ref h2, .int (zi ((n : Int))), .int (zi (th)), .int (zi (wc))])), (h1, .inl (cA, 12, .inl (zA (hs)))), (h2, .inl (cA, 12, .inl (zA (rs)))), (ou, .inl (cL, 1, .inr (.inl (zB (zupd of (0) (0))))))]) (va_A [(x0, .inr (2, [.ref pa, .int (zi ((pn : Int))), .ref ba, .int (zi ((bn : Int))), .ref ax, .ref ay, .int (zi ((ln : Int))), .ref sp, .ref ss, .int (zi ((sn : Int))), .ref vs, .ref fr])), (pa, .inl (cQ, 6, .inr (.inr (.inr (.inr (pf)))))), (h0, .inr (1, [.ref h1, .ref h2, .int (zi ((n : Int))), .int (zi (th)), .int (zi (wc))])), (h1, .inl (cA, 12, .inl (zA (hs)))), (h2, .inl (cA, 12, .inl (zA (rs)))), (ou, .inl (cL, 1, .inr (.inl (zB (of)))))] sz)) 0 0 (va_A [(x0, .inr (2, [.ref pa, .int (zi ((pn : Int))), .ref ba, .int (zi ((bn : Int))), .ref ax, .ref ay, .int (zi ((ln : Int))), .ref sp, .ref ss, .int (zi ((sn : Int))), .ref vs, .ref fr])), (pa, .inl (cQ, 6, .inr (.inr (.inr (.inr (pf)))))), (h0, .inr (1, [.ref h1, .ref h2, .int (zi ((n : Int))), .int (zi (th)), .int (zi (wc))])), (h1, .inl (cA, 12, .inl (zA (hs)))), (h2, .inl (cA, 12, .inl (zA (rs)))), (ou, .inl (cL, 1, .inr (.inl (zB (of)))))] sz) := by
  refine va_MetW (cc := cL_corner) (maxL := 6) (ret := (Option.some Jvm.ClassFile.FieldType.int)) (hh := [((0 : Nat), (19 : Nat), (22 : Nat), (19 : Nat)), ((0 : Nat), (19 : Nat), (26 : Nat), (21 : Nat)), ((0 : Nat), (19 : Nat), (30 : Nat), (13 : Nat))]) (by decide) rfl ?_
  intro p e s m args below meth c s₁ B hml hv
  obtain ⟨hargs, hsz, hP, hK, hD0, hXA⟩ := hv
  have hx := B.exec
  have hb := B.bytes
  have hr := B.returns
  have hts := atoms_spec (ws := Cond.codeWith yL_corner cL_corner 6 (Option.some Jvm.ClassFile.FieldType.int) [((0 : Nat), (19 : Nat), (22 : Nat), (19 : Nat)), ((0 : Nat), (19 : Nat), (26 : Nat), (21 : Nat)), ((0 : Nat), (19 : Nat), (30 : Nat), (13 : Nat))] :: gw) B.pre
  have hg : ∀ w ∈ gw, w.before args s = true := fun w h => hts w (List.mem_cons_of_mem _ h)
  have hown : s.vm.findClass RL = some m.cls := findClass_of_methodNamed B.named
  have hlocks := B.notSynchronized
  have htab := vx_table (x := yL_corner) B (hts _ List.mem_cons_self)
  subst hsz
  have hD := hD0.self (sz := s.heap.size)
  generalize hAe : va_A [(x0, .inr (2, [.ref pa, .int (zi ((pn : Int))), .ref ba, .int (zi ((bn : Int))), .ref ax, .ref ay, .int (zi ((ln : Int))), .ref sp, .ref ss, .int (zi ((sn : Int))), .ref vs, .ref fr])), (pa, .inl (cQ, 6, .inr (.inr (.inr (.inr (pf)))))), (h0, .inr (1, [.ref h1, .ref h2, .int (zi ((n : Int))), .int (zi (th)), .int (zi (wc))])), (h1, .inl (cA, 12, .inl (zA (hs)))), (h2, .inl (cA, 12, .inl (zA (rs)))), (ou, .inl (cL, 1, .inr (.inl (zB (of)))))] s.heap.size = A at hD ⊢
  have hA : ∀ q : Nat, s.heap.size ≤ q → A q := fun q h => by rw [← hAe]; exact Or.inr h
  show W p l e rh_corner_0 s m args below meth c s.heap [] 0 0 _ _
  have hl := lv_entry ([.ref x0, .int (zi ((j : Int))), .int (zi (h)), .int (zi (r)), .ref ou]) (n := 6) (Nat.le_of_ble_eq_true rfl)
  rw [show entryFrame m args 6 = entryFrame m ([.ref x0, .int (zi ((j : Int))), .int (zi (h)), .int (zi (r)), .ref ou] : List Value).toArray 6 by rw [hargs], lg_entry_eq]
  generalize (lg_sl ([.ref x0, .int (zi ((j : Int))), .int (zi (h)), .int (zi (r)), .ref ou]) ++ List.replicate (6 - (lg_sl ([.ref x0, .int (zi ((j : Int))), .int (zi (h)), .int (zi (r)), .ref ou])).length) Slot.unset).toArray = ls at hl ⊢
  have hl : lv_has ls 6 [(0, .ref x0), (1, .int (zi ((j : Int)))), (2, .int (zi (h))), (3, .int (zi (r))), (4, .ref ou)] := hl
  refine lv_aload hx hb dL_corner_0 (lv_at hl 4 rfl) ?_
  refine lv_iconst (v := zi (0)) hx hb dL_corner_2 rfl ?_
  refine lv_aload_n hx hb dL_corner_3 rfl (lv_at hl 0 rfl) ?_
  refine lv_iload_n hx hb dL_corner_4 rfl (lv_at hl 1 rfl) ?_
  refine lv_iload_n hx hb dL_corner_5 rfl (lv_at hl 2 rfl) ?_
  refine lv_iload_n hx hb dL_corner_6 rfl (lv_at hl 3 rfl) ?_
  obtain ⟨H, hHe⟩ : ∃ H : Heap, H = s.heap := ⟨_, rfl⟩
  obtain ⟨locs, hlc⟩ : ∃ x : List Loc, x = [] := ⟨_, rfl⟩
  have hS : va_S A s.heap H locs := by rw [hHe, hlc]; exact va_S.rf
  have hP : va_P (dC, dI) vwCl [(x0, .inr (2, [.ref pa, .int (zi ((pn : Int))), .ref ba, .int (zi ((bn : Int))), .ref ax, .ref ay, .int (zi ((ln : Int))), .ref sp, .ref ss, .int (zi ((sn : Int))), .ref vs, .ref fr])), (pa, .inl (cQ, 6, .inr (.inr (.inr (.inr (pf)))))), (h0, .inr (1, [.ref h1, .ref h2, .int (zi ((n : Int))), .int (zi (th)), .int (zi (wc))])), (h1, .inl (cA, 12, .inl (zA (hs)))), (h2, .inl (cA, 12, .inl (zA (rs)))), (ou, .inl (cL, 1, .inr (.inl (zB (of)))))] H := by rw [hHe]; exact hP
  rw [← hHe, ← hlc]
  refine wrV (As := [.int (zi ((j : Int))), .int (zi (h)), .int (zi (r))]) (rest := [.int (zi (0)), .ref ou]) (n := 3) (ws' := [(x0, .inr (2, [.ref pa, .int (zi ((pn : Int))), .ref ba, .int (zi ((bn : Int))), .ref ax, .ref ay, .int (zi ((ln : Int))), .ref sp, .ref ss, .int (zi ((sn : Int))), .ref vs, .ref fr])), (pa, .inl (cQ, 6, .inr (.inr (.inr (.inr (pf)))))), (h0, .inr (1, [.ref h1, .ref h2, .int (zi ((n : Int))), .int (zi (th)), .int (zi (wc))])), (h1, .inl (cA, 12, .inl (zA (hs)))), (h2, .inl (cA, 12, .inl (zA (rs)))), (ou, .inl (cL, 1, .inr (.inl (zB (of)))))]) hx hb hml hown hg (c_corner_n l dC dI H.size x0 pa ba ax ay sp ss vs fr pn bn ln sn cQ pf h0 h1 h2 cA n th wc hs rs j h r hn hH hR hj hf hh hr9 hw hcl hcf) (gwV wl_L_15 wm_X2_corner we_X2_corner wi_X2 wc_X2_corner) rfl rfl (by decide +kernel) ⟨(Nat.le_of_ble_eq_true rfl), (Nat.le_of_ble_eq_true rfl)⟩ (hK.sub [0, 1] rfl) hP hD hS hA [0, 1, 2, 3, 4] rfl (by decide) [(true, 0), (true, 1), (true, 2), (true, 3), (true, 4), (false, 5)] rfl (by decide) rfl 0 rfl rfl rfl rfl hl.1 rfl (Nat.le_of_ble_eq_true rfl) dL_corner_7 ⟨Nat.zero_le _, Nat.zero_le _⟩ (fun H locs hP hD hS => ?_)
  refine zz_if_eq (tgt := 17) hx hb (by decide) dL_corner_10 (by decide) (fun _ => ?_) (fun q => absurd rfl q)
  refine lv_lconst (v := zl (0)) hx hb dL_corner_17 (by decide) ?_
  refine zz_last hx hb hK hP hD hS 5 2 rfl rfl (0) (by omega) (by omega) (by decide) dL_corner_18 (fun H locs hP hD hS => ?_)
  refine lv_goto (tgt := 34) hx hb dL_corner_19 (by decide) ?_
  refine lv_iconst (v := zi (0)) hx hb dL_corner_34 rfl ?_
  exact nw_i hx hb hr hlocks rfl (F := (fun w9 => w9 = [(x0, .inr (2, [.ref pa, .int (zi ((pn : Int))), .ref ba, .int (zi ((bn : Int))), .ref ax, .ref ay, .int (zi ((ln : Int))), .ref sp, .ref ss, .int (zi ((sn : Int))), .ref vs, .ref fr])), (pa, .inl (cQ, 6, .inr (.inr (.inr (.inr (pf)))))), (h0, .inr (1, [.ref h1, .ref h2, .int (zi ((n : Int))), .int (zi (th)), .int (zi (wc))])), (h1, .inl (cA, 12, .inl (zA (hs)))), (h2, .inl (cA, 12, .inl (zA (rs)))), (ou, .inl (cL, 1, .inr (.inl (zB (zupd of (0) (0))))))])) rfl hP hD hS dL_corner_35
abbrev rh_corner_1 : Room := { frames := 9, cells := 1, slots := 6, locals := 200 }
set_option maxHeartbeats 4000000 in
set_option maxRecDepth 100000 in
theorem h_t_corner_p (l : Launch) (hl0 : l.stackTraces = false) (dC : Nat → ClassId) (dI : Nat → Nat → Nat) (sz : Nat) (x0 pa ba ax ay sp ss vs fr : Nat) (pn bn ln sn : Nat) (cQ : ClassId) (pf : Nat → Option Nat) (i h r : Int) (hi : -2147483648 ≤ i ∧ i < 2147483648) (hbad : i < 0 ∨ 6 ≤ i ∨ pf i.toNat = none) (ou : Nat) (cL : ClassId) (of : Nat → Int) : Met l yL_corner (Cond.codeWith yL_corner cL_corner 6 (Option.some Jvm.ClassFile.FieldType.int) [((0 : Nat), (19 : Nat), (22 : Nat), (19 : Nat)), ((0 : Nat), (19 : Nat), (26 : Nat), (21 : Nat)), ((0 : Nat), (19 : Nat), (30 : Nat), (13 : Nat))] :: gw) rh_corner_1 (PcH [.ref x0, .int (zi (i)), .int (zi (h)), .int (zi (r)), .ref ou] (dC, dI) vwCl [(x0, .inr (2, [.ref pa, .int (zi ((pn : Int))), .ref ba, .int (zi ((bn : Int))), .ref ax, .ref ay, .int (zi ((ln : Int))), .ref sp, .ref ss, .int (zi ((sn : Int))), .ref vs, .ref fr])), (pa, .inl (cQ, 6, .inr (.inr (.inr (.inr (pf)))))), (ou, .inl (cL, 1, .inr (.inl (zB (of)))))] [(cQ, .object "PotVolumes$Profile"), (cL, .long)] sz) (NwQ (some (.int (zi (1)))) (dC, dI) vwCl (fun w9 => w9 = [(x0, .inr (2, [.ref pa, .int (zi ((pn : Int))), .ref ba, .int (zi ((bn : Int))), .ref ax, .ref ay, .int (zi ((ln : Int))), .ref sp, .ref ss, .int (zi ((sn : Int))), .ref vs, .ref fr])), (pa, .inl (cQ, 6, .inr (.inr (.inr (.inr (pf)))))), (ou, .inl (cL, 1, .inr (.inl (zB (of)))))]) (va_A [(x0, .inr (2, [.ref pa, .int (zi ((pn : Int))), .ref ba, .int (zi ((bn : Int))), .ref ax, .ref ay, .int (zi ((ln : Int))), .ref sp, .ref ss, .int (zi ((sn : Int))), .ref vs, .ref fr])), (pa, .inl (cQ, 6, .inr (.inr (.inr (.inr (pf)))))), (ou, .inl (cL, 1, .inr (.inl (zB (of)))))] sz)) 1 6 (va_A [(x0, .inr (2, [.ref pa, .int (zi ((pn : Int))), .ref ba, .int (zi ((bn : Int))), .ref ax, .ref ay, .int (zi ((ln : Int))), .ref sp, .ref ss, .int (zi ((sn : Int))), .ref vs, .ref fr])), (pa, .inl (cQ, 6, .inr (.inr (.inr (.inr (pf)))))), (ou, .inl (cL, 1, .inr (.inl (zB (of)))))] sz) := by
  refine va_MetW (cc := cL_corner) (maxL := 6) (ret := (Option.some Jvm.ClassFile.FieldType.int)) (hh := [((0 : Nat), (19 : Nat), (22 : Nat), (19 : Nat)), ((0 : Nat), (19 : Nat), (26 : Nat), (21 : Nat)), ((0 : Nat), (19 : Nat), (30 : Nat), (13 : Nat))]) (by decide) rfl ?_
  intro p e s m args below meth c s₁ B hml hv
  obtain ⟨hargs, hsz, hP, hK, hD0, hXA⟩ := hv
  have hx := B.exec
  have hb := B.bytes
  have hr := B.returns
  have hts := atoms_spec (ws := Cond.codeWith yL_corner cL_corner 6 (Option.some Jvm.ClassFile.FieldType.int) [((0 : Nat), (19 : Nat), (22 : Nat), (19 : Nat)), ((0 : Nat), (19 : Nat), (26 : Nat), (21 : Nat)), ((0 : Nat), (19 : Nat), (30 : Nat), (13 : Nat))] :: gw) B.pre
  have hg : ∀ w ∈ gw, w.before args s = true := fun w h => hts w (List.mem_cons_of_mem _ h)
  have hown : s.vm.findClass RL = some m.cls := findClass_of_methodNamed B.named
  have hlocks := B.notSynchronized
  have htab := vx_table (x := yL_corner) B (hts _ List.mem_cons_self)
  subst hsz
  have hD := hD0.self (sz := s.heap.size)
  generalize hAe : va_A [(x0, .inr (2, [.ref pa, .int (zi ((pn : Int))), .ref ba, .int (zi ((bn : Int))), .ref ax, .ref ay, .int (zi ((ln : Int))), .ref sp, .ref ss, .int (zi ((sn : Int))), .ref vs, .ref fr])), (pa, .inl (cQ, 6, .inr (.inr (.inr (.inr (pf)))))), (ou, .inl (cL, 1, .inr (.inl (zB (of)))))] s.heap.size = A at hD ⊢
  have hA : ∀ q : Nat, s.heap.size ≤ q → A q := fun q h => by rw [← hAe]; exact Or.inr h
  show W p l e rh_corner_1 s m args below meth c s.heap [] 0 0 _ _
  have hl := lv_entry ([.ref x0, .int (zi (i)), .int (zi (h)), .int (zi (r)), .ref ou]) (n := 6) (Nat.le_of_ble_eq_true rfl)
  rw [show entryFrame m args 6 = entryFrame m ([.ref x0, .int (zi (i)), .int (zi (h)), .int (zi (r)), .ref ou] : List Value).toArray 6 by rw [hargs], lg_entry_eq]
  generalize (lg_sl ([.ref x0, .int (zi (i)), .int (zi (h)), .int (zi (r)), .ref ou]) ++ List.replicate (6 - (lg_sl ([.ref x0, .int (zi (i)), .int (zi (h)), .int (zi (r)), .ref ou])).length) Slot.unset).toArray = ls at hl ⊢
  have hl : lv_has ls 6 [(0, .ref x0), (1, .int (zi (i))), (2, .int (zi (h))), (3, .int (zi (r))), (4, .ref ou)] := hl
  refine lv_aload hx hb dL_corner_0 (lv_at hl 4 rfl) ?_
  refine lv_iconst (v := zi (0)) hx hb dL_corner_2 rfl ?_
  refine lv_aload_n hx hb dL_corner_3 rfl (lv_at hl 0 rfl) ?_
  refine lv_iload_n hx hb dL_corner_4 rfl (lv_at hl 1 rfl) ?_
  refine lv_iload_n hx hb dL_corner_5 rfl (lv_at hl 2 rfl) ?_
  refine lv_iload_n hx hb dL_corner_6 rfl (lv_at hl 3 rfl) ?_
  refine thKV (As := [.int (zi (i)), .int (zi (h)), .int (zi (r))]) (rest := [.int (zi (0)), .ref ou]) (n := 3) hx hb hml hown hg (t_corner_p l hl0 dC dI x0 pa ba ax ay sp ss vs fr pn bn ln sn cQ pf i h r hi hbad) (gwV wl_L_15 wm_X2_corner we_X2_corner wi_X2 wc_X2_corner) rfl rfl (by decide +kernel) ⟨(Nat.le_of_ble_eq_true rfl), (Nat.le_of_ble_eq_true rfl)⟩ (hK.sub [0] rfl) (hP.sub [0, 1] rfl) hXA.1 0 rfl rfl rfl rfl hl.1 rfl (Nat.le_of_ble_eq_true rfl) dL_corner_7 ⟨(Nat.le_of_ble_eq_true rfl), (Nat.le_of_ble_eq_true rfl)⟩ (fun q9 ce H1 locs1 hcell hcv hcl hS0 => ?_)
  refine vx_catch (E := KI) (name := KI) hown [] ⟨0, 19, 22, 19⟩ [⟨0, 19, 26, 21⟩, ⟨0, 19, 30, 13⟩] htab (fun z hz => by cases hz) (by decide) (by decide) (hg _ wl_L_19) (va_Nw.use rfl (hXA.1.1 KI (by decide))) hcell hcv hcl ?_
  refine lv_astore (lv' := [(5, .ref q9), (0, .ref x0), (1, .int (zi (i))), (2, .int (zi (h))), (3, .int (zi (r))), (4, .ref ou)]) hx hb dL_corner_22 hl (by decide) rfl (fun ls hl => ?_)
  refine lv_iconst (v := zi (1)) hx hb dL_corner_24 rfl ?_
  exact nw_i hx hb hr hlocks rfl (F := (fun w9 => w9 = [(x0, .inr (2, [.ref pa, .int (zi ((pn : Int))), .ref ba, .int (zi ((bn : Int))), .ref ax, .ref ay, .int (zi ((ln : Int))), .ref sp, .ref ss, .int (zi ((sn : Int))), .ref vs, .ref fr])), (pa, .inl (cQ, 6, .inr (.inr (.inr (.inr (pf)))))), (ou, .inl (cL, 1, .inr (.inl (zB (of)))))])) rfl (thP hP hS0) hD (thS0 hS0) dL_corner_25
set_option maxHeartbeats 4000000 in
set_option maxRecDepth 100000 in
theorem h_t_corner_A (l : Launch) (hl0 : l.stackTraces = false) (dC : Nat → ClassId) (dI : Nat → Nat → Nat) (sz : Nat) (x0 pa ba ax ay sp ss vs fr : Nat) (pn bn ln sn : Nat) (cQ : ClassId) (pf : Nat → Option Nat) (h0 h1 h2 : Nat) (cA : ClassId) (n : Nat) (th wc : Int) (hs rs : Nat → Int) (j : Nat) (h r : Int) (hn : n ≤ 12) (hH : ∀ j, 0 ≤ hs j ∧ hs j ≤ 400) (hR : ∀ j, 0 ≤ rs j ∧ rs j ≤ 200) (hj : j < 6) (hf : pf j = some h0) (h_h : -2147483648 ≤ h ∧ h < 2147483648) (h_r : -2147483648 ≤ r ∧ r < 2147483648) (hbad : ¬ (0 ≤ h ∧ h ≤ 400 ∧ 0 ≤ r ∧ r ≤ 200)) (ou : Nat) (cL : ClassId) (of : Nat → Int) : Met l yL_corner (Cond.codeWith yL_corner cL_corner 6 (Option.some Jvm.ClassFile.FieldType.int) [((0 : Nat), (19 : Nat), (22 : Nat), (19 : Nat)), ((0 : Nat), (19 : Nat), (26 : Nat), (21 : Nat)), ((0 : Nat), (19 : Nat), (30 : Nat), (13 : Nat))] :: gw) rh_corner_1 (PcH [.ref x0, .int (zi ((j : Int))), .int (zi (h)), .int (zi (r)), .ref ou] (dC, dI) vwCl [(x0, .inr (2, [.ref pa, .int (zi ((pn : Int))), .ref ba, .int (zi ((bn : Int))), .ref ax, .ref ay, .int (zi ((ln : Int))), .ref sp, .ref ss, .int (zi ((sn : Int))), .ref vs, .ref fr])), (pa, .inl (cQ, 6, .inr (.inr (.inr (.inr (pf)))))), (h0, .inr (1, [.ref h1, .ref h2, .int (zi ((n : Int))), .int (zi (th)), .int (zi (wc))])), (h1, .inl (cA, 12, .inl (zA (hs)))), (h2, .inl (cA, 12, .inl (zA (rs)))), (ou, .inl (cL, 1, .inr (.inl (zB (of)))))] [(cQ, .object "PotVolumes$Profile"), (cA, .int), (cL, .long)] sz) (NwQ (some (.int (zi (2)))) (dC, dI) vwCl (fun w9 => w9 = [(x0, .inr (2, [.ref pa, .int (zi ((pn : Int))), .ref ba, .int (zi ((bn : Int))), .ref ax, .ref ay, .int (zi ((ln : Int))), .ref sp, .ref ss, .int (zi ((sn : Int))), .ref vs, .ref fr])), (pa, .inl (cQ, 6, .inr (.inr (.inr (.inr (pf)))))), (h0, .inr (1, [.ref h1, .ref h2, .int (zi ((n : Int))), .int (zi (th)), .int (zi (wc))])), (h1, .inl (cA, 12, .inl (zA (hs)))), (h2, .inl (cA, 12, .inl (zA (rs)))), (ou, .inl (cL, 1, .inr (.inl (zB (of)))))]) (va_A [(x0, .inr (2, [.ref pa, .int (zi ((pn : Int))), .ref ba, .int (zi ((bn : Int))), .ref ax, .ref ay, .int (zi ((ln : Int))), .ref sp, .ref ss, .int (zi ((sn : Int))), .ref vs, .ref fr])), (pa, .inl (cQ, 6, .inr (.inr (.inr (.inr (pf)))))), (h0, .inr (1, [.ref h1, .ref h2, .int (zi ((n : Int))), .int (zi (th)), .int (zi (wc))])), (h1, .inl (cA, 12, .inl (zA (hs)))), (h2, .inl (cA, 12, .inl (zA (rs)))), (ou, .inl (cL, 1, .inr (.inl (zB (of)))))] sz)) 1 6 (va_A [(x0, .inr (2, [.ref pa, .int (zi ((pn : Int))), .ref ba, .int (zi ((bn : Int))), .ref ax, .ref ay, .int (zi ((ln : Int))), .ref sp, .ref ss, .int (zi ((sn : Int))), .ref vs, .ref fr])), (pa, .inl (cQ, 6, .inr (.inr (.inr (.inr (pf)))))), (h0, .inr (1, [.ref h1, .ref h2, .int (zi ((n : Int))), .int (zi (th)), .int (zi (wc))])), (h1, .inl (cA, 12, .inl (zA (hs)))), (h2, .inl (cA, 12, .inl (zA (rs)))), (ou, .inl (cL, 1, .inr (.inl (zB (of)))))] sz) := by
  refine va_MetW (cc := cL_corner) (maxL := 6) (ret := (Option.some Jvm.ClassFile.FieldType.int)) (hh := [((0 : Nat), (19 : Nat), (22 : Nat), (19 : Nat)), ((0 : Nat), (19 : Nat), (26 : Nat), (21 : Nat)), ((0 : Nat), (19 : Nat), (30 : Nat), (13 : Nat))]) (by decide) rfl ?_
  intro p e s m args below meth c s₁ B hml hv
  obtain ⟨hargs, hsz, hP, hK, hD0, hXA⟩ := hv
  have hx := B.exec
  have hb := B.bytes
  have hr := B.returns
  have hts := atoms_spec (ws := Cond.codeWith yL_corner cL_corner 6 (Option.some Jvm.ClassFile.FieldType.int) [((0 : Nat), (19 : Nat), (22 : Nat), (19 : Nat)), ((0 : Nat), (19 : Nat), (26 : Nat), (21 : Nat)), ((0 : Nat), (19 : Nat), (30 : Nat), (13 : Nat))] :: gw) B.pre
  have hg : ∀ w ∈ gw, w.before args s = true := fun w h => hts w (List.mem_cons_of_mem _ h)
  have hown : s.vm.findClass RL = some m.cls := findClass_of_methodNamed B.named
  have hlocks := B.notSynchronized
  have htab := vx_table (x := yL_corner) B (hts _ List.mem_cons_self)
  subst hsz
  have hD := hD0.self (sz := s.heap.size)
  generalize hAe : va_A [(x0, .inr (2, [.ref pa, .int (zi ((pn : Int))), .ref ba, .int (zi ((bn : Int))), .ref ax, .ref ay, .int (zi ((ln : Int))), .ref sp, .ref ss, .int (zi ((sn : Int))), .ref vs, .ref fr])), (pa, .inl (cQ, 6, .inr (.inr (.inr (.inr (pf)))))), (h0, .inr (1, [.ref h1, .ref h2, .int (zi ((n : Int))), .int (zi (th)), .int (zi (wc))])), (h1, .inl (cA, 12, .inl (zA (hs)))), (h2, .inl (cA, 12, .inl (zA (rs)))), (ou, .inl (cL, 1, .inr (.inl (zB (of)))))] s.heap.size = A at hD ⊢
  have hA : ∀ q : Nat, s.heap.size ≤ q → A q := fun q h => by rw [← hAe]; exact Or.inr h
  show W p l e rh_corner_1 s m args below meth c s.heap [] 0 0 _ _
  have hl := lv_entry ([.ref x0, .int (zi ((j : Int))), .int (zi (h)), .int (zi (r)), .ref ou]) (n := 6) (Nat.le_of_ble_eq_true rfl)
  rw [show entryFrame m args 6 = entryFrame m ([.ref x0, .int (zi ((j : Int))), .int (zi (h)), .int (zi (r)), .ref ou] : List Value).toArray 6 by rw [hargs], lg_entry_eq]
  generalize (lg_sl ([.ref x0, .int (zi ((j : Int))), .int (zi (h)), .int (zi (r)), .ref ou]) ++ List.replicate (6 - (lg_sl ([.ref x0, .int (zi ((j : Int))), .int (zi (h)), .int (zi (r)), .ref ou])).length) Slot.unset).toArray = ls at hl ⊢
  have hl : lv_has ls 6 [(0, .ref x0), (1, .int (zi ((j : Int)))), (2, .int (zi (h))), (3, .int (zi (r))), (4, .ref ou)] := hl
  refine lv_aload hx hb dL_corner_0 (lv_at hl 4 rfl) ?_
  refine lv_iconst (v := zi (0)) hx hb dL_corner_2 rfl ?_
  refine lv_aload_n hx hb dL_corner_3 rfl (lv_at hl 0 rfl) ?_
  refine lv_iload_n hx hb dL_corner_4 rfl (lv_at hl 1 rfl) ?_
  refine lv_iload_n hx hb dL_corner_5 rfl (lv_at hl 2 rfl) ?_
  refine lv_iload_n hx hb dL_corner_6 rfl (lv_at hl 3 rfl) ?_
  refine thKV (As := [.int (zi ((j : Int))), .int (zi (h)), .int (zi (r))]) (rest := [.int (zi (0)), .ref ou]) (n := 3) hx hb hml hown hg (t_corner_A l hl0 dC dI x0 pa ba ax ay sp ss vs fr pn bn ln sn cQ pf h0 h1 h2 cA n th wc hs rs j h r hn hH hR hj hf h_h h_r hbad) (gwV wl_L_15 wm_X2_corner we_X2_corner wi_X2 wc_X2_corner) rfl rfl (by decide +kernel) ⟨(Nat.le_of_ble_eq_true rfl), (Nat.le_of_ble_eq_true rfl)⟩ (hK.sub [0, 1] rfl) (hP.sub [0, 1, 2, 3, 4] rfl) hXA.1 0 rfl rfl rfl rfl hl.1 rfl (Nat.le_of_ble_eq_true rfl) dL_corner_7 ⟨(Nat.le_of_ble_eq_true rfl), (Nat.le_of_ble_eq_true rfl)⟩ (fun q9 ce H1 locs1 hcell hcv hcl hS0 => ?_)
  refine vx_catch (E := KA) (name := KA) hown [⟨0, 19, 22, 19⟩] ⟨0, 19, 26, 21⟩ [⟨0, 19, 30, 13⟩] htab (fun z hz => by rcases List.mem_singleton.mp hz with rfl; exact Or.inr ⟨by decide, KI, hg _ wl_L_19, hXA.2.2.1⟩) (by decide) (by decide) (hg _ wl_L_21) (va_Nw.use rfl (hXA.1.1 KA (by decide))) hcell hcv hcl ?_
  refine lv_astore (lv' := [(5, .ref q9), (0, .ref x0), (1, .int (zi ((j : Int)))), (2, .int (zi (h))), (3, .int (zi (r))), (4, .ref ou)]) hx hb dL_corner_26 hl (by decide) rfl (fun ls hl => ?_)
  refine lv_iconst (v := zi (2)) hx hb dL_corner_28 rfl ?_
  exact nw_i hx hb hr hlocks rfl (F := (fun w9 => w9 = [(x0, .inr (2, [.ref pa, .int (zi ((pn : Int))), .ref ba, .int (zi ((bn : Int))), .ref ax, .ref ay, .int (zi ((ln : Int))), .ref sp, .ref ss, .int (zi ((sn : Int))), .ref vs, .ref fr])), (pa, .inl (cQ, 6, .inr (.inr (.inr (.inr (pf)))))), (h0, .inr (1, [.ref h1, .ref h2, .int (zi ((n : Int))), .int (zi (th)), .int (zi (wc))])), (h1, .inl (cA, 12, .inl (zA (hs)))), (h2, .inl (cA, 12, .inl (zA (rs)))), (ou, .inl (cL, 1, .inr (.inl (zB (of)))))])) rfl (thP hP hS0) hD (thS0 hS0) dL_corner_29
set_option maxHeartbeats 4000000 in
set_option maxRecDepth 100000 in
theorem h_t_corner_S (l : Launch) (hl0 : l.stackTraces = false) (dC : Nat → ClassId) (dI : Nat → Nat → Nat) (sz : Nat) (x0 pa ba ax ay sp ss vs fr : Nat) (pn bn ln sn : Nat) (cQ : ClassId) (pf : Nat → Option Nat) (h0 h1 h2 : Nat) (cA : ClassId) (n : Nat) (th wc : Int) (hs rs : Nat → Int) (j : Nat) (h r : Int) (hn : n ≤ 12) (hH : ∀ j, 0 ≤ hs j ∧ hs j ≤ 400) (hR : ∀ j, 0 ≤ rs j ∧ rs j ≤ 200) (hj : j < 6) (hf : pf j = some h0) (hh : 0 ≤ h ∧ h ≤ 400) (hr9 : 0 ≤ r ∧ r ≤ 200) (hw : wc = 0 ∨ wc = 1) (hbad : wc = 1 ∨ 12 ≤ n) (ou : Nat) (cL : ClassId) (of : Nat → Int) : Met l yL_corner (Cond.codeWith yL_corner cL_corner 6 (Option.some Jvm.ClassFile.FieldType.int) [((0 : Nat), (19 : Nat), (22 : Nat), (19 : Nat)), ((0 : Nat), (19 : Nat), (26 : Nat), (21 : Nat)), ((0 : Nat), (19 : Nat), (30 : Nat), (13 : Nat))] :: gw) rh_corner_1 (PcH [.ref x0, .int (zi ((j : Int))), .int (zi (h)), .int (zi (r)), .ref ou] (dC, dI) vwCl [(x0, .inr (2, [.ref pa, .int (zi ((pn : Int))), .ref ba, .int (zi ((bn : Int))), .ref ax, .ref ay, .int (zi ((ln : Int))), .ref sp, .ref ss, .int (zi ((sn : Int))), .ref vs, .ref fr])), (pa, .inl (cQ, 6, .inr (.inr (.inr (.inr (pf)))))), (h0, .inr (1, [.ref h1, .ref h2, .int (zi ((n : Int))), .int (zi (th)), .int (zi (wc))])), (h1, .inl (cA, 12, .inl (zA (hs)))), (h2, .inl (cA, 12, .inl (zA (rs)))), (ou, .inl (cL, 1, .inr (.inl (zB (of)))))] [(cQ, .object "PotVolumes$Profile"), (cA, .int), (cL, .long)] sz) (NwQ (some (.int (zi (3)))) (dC, dI) vwCl (fun w9 => w9 = [(x0, .inr (2, [.ref pa, .int (zi ((pn : Int))), .ref ba, .int (zi ((bn : Int))), .ref ax, .ref ay, .int (zi ((ln : Int))), .ref sp, .ref ss, .int (zi ((sn : Int))), .ref vs, .ref fr])), (pa, .inl (cQ, 6, .inr (.inr (.inr (.inr (pf)))))), (h0, .inr (1, [.ref h1, .ref h2, .int (zi ((n : Int))), .int (zi (th)), .int (zi (wc))])), (h1, .inl (cA, 12, .inl (zA (hs)))), (h2, .inl (cA, 12, .inl (zA (rs)))), (ou, .inl (cL, 1, .inr (.inl (zB (of)))))]) (va_A [(x0, .inr (2, [.ref pa, .int (zi ((pn : Int))), .ref ba, .int (zi ((bn : Int))), .ref ax, .ref ay, .int (zi ((ln : Int))), .ref sp, .ref ss, .int (zi ((sn : Int))), .ref vs, .ref fr])), (pa, .inl (cQ, 6, .inr (.inr (.inr (.inr (pf)))))), (h0, .inr (1, [.ref h1, .ref h2, .int (zi ((n : Int))), .int (zi (th)), .int (zi (wc))])), (h1, .inl (cA, 12, .inl (zA (hs)))), (h2, .inl (cA, 12, .inl (zA (rs)))), (ou, .inl (cL, 1, .inr (.inl (zB (of)))))] sz)) 1 6 (va_A [(x0, .inr (2, [.ref pa, .int (zi ((pn : Int))), .ref ba, .int (zi ((bn : Int))), .ref ax, .ref ay, .int (zi ((ln : Int))), .ref sp, .ref ss, .int (zi ((sn : Int))), .ref vs, .ref fr])), (pa, .inl (cQ, 6, .inr (.inr (.inr (.inr (pf)))))), (h0, .inr (1, [.ref h1, .ref h2, .int (zi ((n : Int))), .int (zi (th)), .int (zi (wc))])), (h1, .inl (cA, 12, .inl (zA (hs)))), (h2, .inl (cA, 12, .inl (zA (rs)))), (ou, .inl (cL, 1, .inr (.inl (zB (of)))))] sz) := by
  refine va_MetW (cc := cL_corner) (maxL := 6) (ret := (Option.some Jvm.ClassFile.FieldType.int)) (hh := [((0 : Nat), (19 : Nat), (22 : Nat), (19 : Nat)), ((0 : Nat), (19 : Nat), (26 : Nat), (21 : Nat)), ((0 : Nat), (19 : Nat), (30 : Nat), (13 : Nat))]) (by decide) rfl ?_
  intro p e s m args below meth c s₁ B hml hv
  obtain ⟨hargs, hsz, hP, hK, hD0, hXA⟩ := hv
  have hx := B.exec
  have hb := B.bytes
  have hr := B.returns
  have hts := atoms_spec (ws := Cond.codeWith yL_corner cL_corner 6 (Option.some Jvm.ClassFile.FieldType.int) [((0 : Nat), (19 : Nat), (22 : Nat), (19 : Nat)), ((0 : Nat), (19 : Nat), (26 : Nat), (21 : Nat)), ((0 : Nat), (19 : Nat), (30 : Nat), (13 : Nat))] :: gw) B.pre
  have hg : ∀ w ∈ gw, w.before args s = true := fun w h => hts w (List.mem_cons_of_mem _ h)
  have hown : s.vm.findClass RL = some m.cls := findClass_of_methodNamed B.named
  have hlocks := B.notSynchronized
  have htab := vx_table (x := yL_corner) B (hts _ List.mem_cons_self)
  subst hsz
  have hD := hD0.self (sz := s.heap.size)
  generalize hAe : va_A [(x0, .inr (2, [.ref pa, .int (zi ((pn : Int))), .ref ba, .int (zi ((bn : Int))), .ref ax, .ref ay, .int (zi ((ln : Int))), .ref sp, .ref ss, .int (zi ((sn : Int))), .ref vs, .ref fr])), (pa, .inl (cQ, 6, .inr (.inr (.inr (.inr (pf)))))), (h0, .inr (1, [.ref h1, .ref h2, .int (zi ((n : Int))), .int (zi (th)), .int (zi (wc))])), (h1, .inl (cA, 12, .inl (zA (hs)))), (h2, .inl (cA, 12, .inl (zA (rs)))), (ou, .inl (cL, 1, .inr (.inl (zB (of)))))] s.heap.size = A at hD ⊢
  have hA : ∀ q : Nat, s.heap.size ≤ q → A q := fun q h => by rw [← hAe]; exact Or.inr h
  show W p l e rh_corner_1 s m args below meth c s.heap [] 0 0 _ _
  have hl := lv_entry ([.ref x0, .int (zi ((j : Int))), .int (zi (h)), .int (zi (r)), .ref ou]) (n := 6) (Nat.le_of_ble_eq_true rfl)
  rw [show entryFrame m args 6 = entryFrame m ([.ref x0, .int (zi ((j : Int))), .int (zi (h)), .int (zi (r)), .ref ou] : List Value).toArray 6 by rw [hargs], lg_entry_eq]
  generalize (lg_sl ([.ref x0, .int (zi ((j : Int))), .int (zi (h)), .int (zi (r)), .ref ou]) ++ List.replicate (6 - (lg_sl ([.ref x0, .int (zi ((j : Int))), .int (zi (h)), .int (zi (r)), .ref ou])).length) Slot.unset).toArray = ls at hl ⊢
  have hl : lv_has ls 6 [(0, .ref x0), (1, .int (zi ((j : Int)))), (2, .int (zi (h))), (3, .int (zi (r))), (4, .ref ou)] := hl
  refine lv_aload hx hb dL_corner_0 (lv_at hl 4 rfl) ?_
  refine lv_iconst (v := zi (0)) hx hb dL_corner_2 rfl ?_
  refine lv_aload_n hx hb dL_corner_3 rfl (lv_at hl 0 rfl) ?_
  refine lv_iload_n hx hb dL_corner_4 rfl (lv_at hl 1 rfl) ?_
  refine lv_iload_n hx hb dL_corner_5 rfl (lv_at hl 2 rfl) ?_
  refine lv_iload_n hx hb dL_corner_6 rfl (lv_at hl 3 rfl) ?_
  refine thKV (As := [.int (zi ((j : Int))), .int (zi (h)), .int (zi (r))]) (rest := [.int (zi (0)), .ref ou]) (n := 3) hx hb hml hown hg (t_corner_S l hl0 dC dI x0 pa ba ax ay sp ss vs fr pn bn ln sn cQ pf h0 h1 h2 cA n th wc hs rs j h r hn hH hR hj hf hh hr9 hw hbad) (gwV wl_L_15 wm_X2_corner we_X2_corner wi_X2 wc_X2_corner) rfl rfl (by decide +kernel) ⟨(Nat.le_of_ble_eq_true rfl), (Nat.le_of_ble_eq_true rfl)⟩ (hK.sub [0, 1] rfl) (hP.sub [0, 1, 2, 3, 4] rfl) hXA.1 0 rfl rfl rfl rfl hl.1 rfl (Nat.le_of_ble_eq_true rfl) dL_corner_7 ⟨(Nat.le_of_ble_eq_true rfl), (Nat.le_of_ble_eq_true rfl)⟩ (fun q9 ce H1 locs1 hcell hcv hcl hS0 => ?_)
  refine vx_catch (E := KS) (name := KS) hown [⟨0, 19, 22, 19⟩, ⟨0, 19, 26, 21⟩] ⟨0, 19, 30, 13⟩ [] htab (mem2 (Or.inr ⟨by decide, KI, hg _ wl_L_19, hXA.2.2.2.1⟩) (Or.inr ⟨by decide, KA, hg _ wl_L_21, hXA.2.2.2.2⟩)) (by decide) (by decide) (hg _ wl_L_13) (va_Nw.use rfl (hXA.1.1 KS (by decide))) hcell hcv hcl ?_
  refine lv_astore (lv' := [(5, .ref q9), (0, .ref x0), (1, .int (zi ((j : Int)))), (2, .int (zi (h))), (3, .int (zi (r))), (4, .ref ou)]) hx hb dL_corner_30 hl (by decide) rfl (fun ls hl => ?_)
  refine lv_iconst (v := zi (3)) hx hb dL_corner_32 rfl ?_
  exact nw_i hx hb hr hlocks rfl (F := (fun w9 => w9 = [(x0, .inr (2, [.ref pa, .int (zi ((pn : Int))), .ref ba, .int (zi ((bn : Int))), .ref ax, .ref ay, .int (zi ((ln : Int))), .ref sp, .ref ss, .int (zi ((sn : Int))), .ref vs, .ref fr])), (pa, .inl (cQ, 6, .inr (.inr (.inr (.inr (pf)))))), (h0, .inr (1, [.ref h1, .ref h2, .int (zi ((n : Int))), .int (zi (th)), .int (zi (wc))])), (h1, .inl (cA, 12, .inl (zA (hs)))), (h2, .inl (cA, 12, .inl (zA (rs)))), (ou, .inl (cL, 1, .inr (.inl (zB (of)))))])) rfl (thP hP hS0) hD (thS0 hS0) dL_corner_33
abbrev rh_at_0 : Room := { frames := 9, cells := 0, slots := 0, locals := 200 }
set_option maxHeartbeats 4000000 in
set_option maxRecDepth 100000 in
theorem h_c_at (l : Launch) (dC : Nat → ClassId) (dI : Nat → Nat → Nat) (sz : Nat) (x0 pa ba ax ay sp ss vs fr : Nat) (pn bn ln sn : Nat) (cQ : ClassId) (pf : Nat → Option Nat) (h0 h1 h2 : Nat) (cA : ClassId) (n : Nat) (th wc : Int) (hs rs : Nat → Int) (j : Nat) (k what : Int) (hn : n ≤ 12) (hH : ∀ j, 0 ≤ hs j ∧ hs j ≤ 400) (hR : ∀ j, 0 ≤ rs j ∧ rs j ≤ 200) (hj : j < 6) (hf : pf j = some h0) (h_k : -2147483648 ≤ k ∧ k < 2147483648) (h_what : -2147483648 ≤ what ∧ what < 2147483648) (hwh : what = 0 ∨ what = 1) (hok : k = -1 ∨ (0 ≤ k ∧ k < n)) (ou : Nat) (cL : ClassId) (of : Nat → Int) : Met l yL_at (Cond.codeWith yL_at cL_at 6 (Option.some Jvm.ClassFile.FieldType.int) [((0 : Nat), (12 : Nat), (15 : Nat), (19 : Nat))] :: gw) rh_at_0 (PcH [.ref x0, .int (zi ((j : Int))), .int (zi (k)), .int (zi (what)), .ref ou] (dC, dI) vwCl [(x0, .inr (2, [.ref pa, .int (zi ((pn : Int))), .ref ba, .int (zi ((bn : Int))), .ref ax, .ref ay, .int (zi ((ln : Int))), .ref sp, .ref ss, .int (zi ((sn : Int))), .ref vs, .ref fr])), (pa, .inl (cQ, 6, .inr (.inr (.inr (.inr (pf)))))), (h0, .inr (1, [.ref h1, .ref h2, .int (zi ((n : Int))), .int (zi (th)), .int (zi (wc))])), (h1, .inl (cA, 12, .inl (zA (hs)))), (h2, .inl (cA, 12, .inl (zA (rs)))), (ou, .inl (cL, 1, .inr (.inl (zB (of)))))] [(cQ, .object "PotVolumes$Profile"), (cA, .int), (cL, .long)] sz) (NwQ (some (.int (zi (0)))) (dC, dI) vwCl (fun w9 => w9 = [(x0, .inr (2, [.ref pa, .int (zi ((pn : Int))), .ref ba, .int (zi ((bn : Int))), .ref ax, .ref ay, .int (zi ((ln : Int))), .ref sp, .ref ss, .int (zi ((sn : Int))), .ref vs, .ref fr])), (pa, .inl (cQ, 6, .inr (.inr (.inr (.inr (pf)))))), (h0, .inr (1, [.ref h1, .ref h2, .int (zi ((n : Int))), .int (zi (th)), .int (zi (wc))])), (h1, .inl (cA, 12, .inl (zA (hs)))), (h2, .inl (cA, 12, .inl (zA (rs)))), (ou, .inl (cL, 1, .inr (.inl (zB (zupd of (0) ((zi ((p_at n hs rs k what))).toInt))))))]) (va_A [(x0, .inr (2, [.ref pa, .int (zi ((pn : Int))), .ref ba, .int (zi ((bn : Int))), .ref ax, .ref ay, .int (zi ((ln : Int))), .ref sp, .ref ss, .int (zi ((sn : Int))), .ref vs, .ref fr])), (pa, .inl (cQ, 6, .inr (.inr (.inr (.inr (pf)))))), (h0, .inr (1, [.ref h1, .ref h2, .int (zi ((n : Int))), .int (zi (th)), .int (zi (wc))])), (h1, .inl (cA, 12, .inl (zA (hs)))), (h2, .inl (cA, 12, .inl (zA (rs)))), (ou, .inl (cL, 1, .inr (.inl (zB (of)))))] sz)) 0 0 (va_A [(x0, .inr (2, [.ref pa, .int (zi ((pn : Int))), .ref ba, .int (zi ((bn : Int))), .ref ax, .ref ay, .int (zi ((ln : Int))), .ref sp, .ref ss, .int (zi ((sn : Int))), .ref vs, .ref fr])), (pa, .inl (cQ, 6, .inr (.inr (.inr (.inr (pf)))))), (h0, .inr (1, [.ref h1, .ref h2, .int (zi ((n : Int))), .int (zi (th)), .int (zi (wc))])), (h1, .inl (cA, 12, .inl (zA (hs)))), (h2, .inl (cA, 12, .inl (zA (rs)))), (ou, .inl (cL, 1, .inr (.inl (zB (of)))))] sz) := by
  refine va_MetW (cc := cL_at) (maxL := 6) (ret := (Option.some Jvm.ClassFile.FieldType.int)) (hh := [((0 : Nat), (12 : Nat), (15 : Nat), (19 : Nat))]) (by decide) rfl ?_
  intro p e s m args below meth c s₁ B hml hv
  obtain ⟨hargs, hsz, hP, hK, hD0, hXA⟩ := hv
  have hx := B.exec
  have hb := B.bytes
  have hr := B.returns
  have hts := atoms_spec (ws := Cond.codeWith yL_at cL_at 6 (Option.some Jvm.ClassFile.FieldType.int) [((0 : Nat), (12 : Nat), (15 : Nat), (19 : Nat))] :: gw) B.pre
  have hg : ∀ w ∈ gw, w.before args s = true := fun w h => hts w (List.mem_cons_of_mem _ h)
  have hown : s.vm.findClass RL = some m.cls := findClass_of_methodNamed B.named
  have hlocks := B.notSynchronized
  have htab := vx_table (x := yL_at) B (hts _ List.mem_cons_self)
  subst hsz
  have hD := hD0.self (sz := s.heap.size)
  generalize hAe : va_A [(x0, .inr (2, [.ref pa, .int (zi ((pn : Int))), .ref ba, .int (zi ((bn : Int))), .ref ax, .ref ay, .int (zi ((ln : Int))), .ref sp, .ref ss, .int (zi ((sn : Int))), .ref vs, .ref fr])), (pa, .inl (cQ, 6, .inr (.inr (.inr (.inr (pf)))))), (h0, .inr (1, [.ref h1, .ref h2, .int (zi ((n : Int))), .int (zi (th)), .int (zi (wc))])), (h1, .inl (cA, 12, .inl (zA (hs)))), (h2, .inl (cA, 12, .inl (zA (rs)))), (ou, .inl (cL, 1, .inr (.inl (zB (of)))))] s.heap.size = A at hD ⊢
  have hA : ∀ q : Nat, s.heap.size ≤ q → A q := fun q h => by rw [← hAe]; exact Or.inr h
  show W p l e rh_at_0 s m args below meth c s.heap [] 0 0 _ _
  have hl := lv_entry ([.ref x0, .int (zi ((j : Int))), .int (zi (k)), .int (zi (what)), .ref ou]) (n := 6) (Nat.le_of_ble_eq_true rfl)
  rw [show entryFrame m args 6 = entryFrame m ([.ref x0, .int (zi ((j : Int))), .int (zi (k)), .int (zi (what)), .ref ou] : List Value).toArray 6 by rw [hargs], lg_entry_eq]
  generalize (lg_sl ([.ref x0, .int (zi ((j : Int))), .int (zi (k)), .int (zi (what)), .ref ou]) ++ List.replicate (6 - (lg_sl ([.ref x0, .int (zi ((j : Int))), .int (zi (k)), .int (zi (what)), .ref ou])).length) Slot.unset).toArray = ls at hl ⊢
  have hl : lv_has ls 6 [(0, .ref x0), (1, .int (zi ((j : Int)))), (2, .int (zi (k))), (3, .int (zi (what))), (4, .ref ou)] := hl
  refine lv_aload hx hb dL_at_0 (lv_at hl 4 rfl) ?_
  refine lv_iconst (v := zi (0)) hx hb dL_at_2 rfl ?_
  refine lv_aload_n hx hb dL_at_3 rfl (lv_at hl 0 rfl) ?_
  refine lv_iload_n hx hb dL_at_4 rfl (lv_at hl 1 rfl) ?_
  refine lv_iload_n hx hb dL_at_5 rfl (lv_at hl 2 rfl) ?_
  refine lv_iload_n hx hb dL_at_6 rfl (lv_at hl 3 rfl) ?_
  obtain ⟨H, hHe⟩ : ∃ H : Heap, H = s.heap := ⟨_, rfl⟩
  obtain ⟨locs, hlc⟩ : ∃ x : List Loc, x = [] := ⟨_, rfl⟩
  have hS : va_S A s.heap H locs := by rw [hHe, hlc]; exact va_S.rf
  have hP : va_P (dC, dI) vwCl [(x0, .inr (2, [.ref pa, .int (zi ((pn : Int))), .ref ba, .int (zi ((bn : Int))), .ref ax, .ref ay, .int (zi ((ln : Int))), .ref sp, .ref ss, .int (zi ((sn : Int))), .ref vs, .ref fr])), (pa, .inl (cQ, 6, .inr (.inr (.inr (.inr (pf)))))), (h0, .inr (1, [.ref h1, .ref h2, .int (zi ((n : Int))), .int (zi (th)), .int (zi (wc))])), (h1, .inl (cA, 12, .inl (zA (hs)))), (h2, .inl (cA, 12, .inl (zA (rs)))), (ou, .inl (cL, 1, .inr (.inl (zB (of)))))] H := by rw [hHe]; exact hP
  rw [← hHe, ← hlc]
  refine rdV (As := [.int (zi ((j : Int))), .int (zi (k)), .int (zi (what))]) (rest := [.int (zi (0)), .ref ou]) (n := 3) hx hb hml hown hg (c_at l dC dI x0 pa ba ax ay sp ss vs fr pn bn ln sn cQ pf h0 h1 h2 cA n th wc hs rs j k what hn hH hR hj hf h_k h_what hwh hok) (gwV wl_L_23 wm_X2_at we_X2_at wi_X2 wc_X2_at) rfl rfl (by decide +kernel) ⟨(Nat.le_of_ble_eq_true rfl), (Nat.le_of_ble_eq_true rfl)⟩ (hK.sub [0, 1] rfl) (hP.sub [0, 1, 2, 3, 4] rfl) 0 rfl rfl rfl rfl hl.1 rfl (Nat.le_of_ble_eq_true rfl) dL_at_7 ⟨Nat.zero_le _, Nat.zero_le _⟩ ?_
  refine zz_i2lr hx hb dL_at_10 ?_
  refine zz_last hx hb hK hP hD hS 5 2 rfl rfl (0) (by omega) (by omega) (by decide) dL_at_11 (fun H locs hP hD hS => ?_)
  refine lv_goto (tgt := 19) hx hb dL_at_12 (by decide) ?_
  refine lv_iconst (v := zi (0)) hx hb dL_at_19 rfl ?_
  exact nw_i hx hb hr hlocks rfl (F := (fun w9 => w9 = [(x0, .inr (2, [.ref pa, .int (zi ((pn : Int))), .ref ba, .int (zi ((bn : Int))), .ref ax, .ref ay, .int (zi ((ln : Int))), .ref sp, .ref ss, .int (zi ((sn : Int))), .ref vs, .ref fr])), (pa, .inl (cQ, 6, .inr (.inr (.inr (.inr (pf)))))), (h0, .inr (1, [.ref h1, .ref h2, .int (zi ((n : Int))), .int (zi (th)), .int (zi (wc))])), (h1, .inl (cA, 12, .inl (zA (hs)))), (h2, .inl (cA, 12, .inl (zA (rs)))), (ou, .inl (cL, 1, .inr (.inl (zB (zupd of (0) ((zi ((p_at n hs rs k what))).toInt))))))])) rfl hP hD hS dL_at_20
abbrev rh_at_1 : Room := { frames := 9, cells := 1, slots := 6, locals := 200 }
set_option maxHeartbeats 4000000 in
set_option maxRecDepth 100000 in
theorem h_t_at_p (l : Launch) (hl0 : l.stackTraces = false) (dC : Nat → ClassId) (dI : Nat → Nat → Nat) (sz : Nat) (x0 pa ba ax ay sp ss vs fr : Nat) (pn bn ln sn : Nat) (cQ : ClassId) (pf : Nat → Option Nat) (i k what : Int) (hi : -2147483648 ≤ i ∧ i < 2147483648) (hbad : i < 0 ∨ 6 ≤ i ∨ pf i.toNat = none) (ou : Nat) (cL : ClassId) (of : Nat → Int) : Met l yL_at (Cond.codeWith yL_at cL_at 6 (Option.some Jvm.ClassFile.FieldType.int) [((0 : Nat), (12 : Nat), (15 : Nat), (19 : Nat))] :: gw) rh_at_1 (PcH [.ref x0, .int (zi (i)), .int (zi (k)), .int (zi (what)), .ref ou] (dC, dI) vwCl [(x0, .inr (2, [.ref pa, .int (zi ((pn : Int))), .ref ba, .int (zi ((bn : Int))), .ref ax, .ref ay, .int (zi ((ln : Int))), .ref sp, .ref ss, .int (zi ((sn : Int))), .ref vs, .ref fr])), (pa, .inl (cQ, 6, .inr (.inr (.inr (.inr (pf)))))), (ou, .inl (cL, 1, .inr (.inl (zB (of)))))] [(cQ, .object "PotVolumes$Profile"), (cL, .long)] sz) (NwQ (some (.int (zi (1)))) (dC, dI) vwCl (fun w9 => w9 = [(x0, .inr (2, [.ref pa, .int (zi ((pn : Int))), .ref ba, .int (zi ((bn : Int))), .ref ax, .ref ay, .int (zi ((ln : Int))), .ref sp, .ref ss, .int (zi ((sn : Int))), .ref vs, .ref fr])), (pa, .inl (cQ, 6, .inr (.inr (.inr (.inr (pf)))))), (ou, .inl (cL, 1, .inr (.inl (zB (of)))))]) (va_A [(x0, .inr (2, [.ref pa, .int (zi ((pn : Int))), .ref ba, .int (zi ((bn : Int))), .ref ax, .ref ay, .int (zi ((ln : Int))), .ref sp, .ref ss, .int (zi ((sn : Int))), .ref vs, .ref fr])), (pa, .inl (cQ, 6, .inr (.inr (.inr (.inr (pf)))))), (ou, .inl (cL, 1, .inr (.inl (zB (of)))))] sz)) 1 6 (va_A [(x0, .inr (2, [.ref pa, .int (zi ((pn : Int))), .ref ba, .int (zi ((bn : Int))), .ref ax, .ref ay, .int (zi ((ln : Int))), .ref sp, .ref ss, .int (zi ((sn : Int))), .ref vs, .ref fr])), (pa, .inl (cQ, 6, .inr (.inr (.inr (.inr (pf)))))), (ou, .inl (cL, 1, .inr (.inl (zB (of)))))] sz) := by
  refine va_MetW (cc := cL_at) (maxL := 6) (ret := (Option.some Jvm.ClassFile.FieldType.int)) (hh := [((0 : Nat), (12 : Nat), (15 : Nat), (19 : Nat))]) (by decide) rfl ?_
  intro p e s m args below meth c s₁ B hml hv
  obtain ⟨hargs, hsz, hP, hK, hD0, hXA⟩ := hv
  have hx := B.exec
  have hb := B.bytes
  have hr := B.returns
  have hts := atoms_spec (ws := Cond.codeWith yL_at cL_at 6 (Option.some Jvm.ClassFile.FieldType.int) [((0 : Nat), (12 : Nat), (15 : Nat), (19 : Nat))] :: gw) B.pre
  have hg : ∀ w ∈ gw, w.before args s = true := fun w h => hts w (List.mem_cons_of_mem _ h)
  have hown : s.vm.findClass RL = some m.cls := findClass_of_methodNamed B.named
  have hlocks := B.notSynchronized
  have htab := vx_table (x := yL_at) B (hts _ List.mem_cons_self)
  subst hsz
  have hD := hD0.self (sz := s.heap.size)
  generalize hAe : va_A [(x0, .inr (2, [.ref pa, .int (zi ((pn : Int))), .ref ba, .int (zi ((bn : Int))), .ref ax, .ref ay, .int (zi ((ln : Int))), .ref sp, .ref ss, .int (zi ((sn : Int))), .ref vs, .ref fr])), (pa, .inl (cQ, 6, .inr (.inr (.inr (.inr (pf)))))), (ou, .inl (cL, 1, .inr (.inl (zB (of)))))] s.heap.size = A at hD ⊢
  have hA : ∀ q : Nat, s.heap.size ≤ q → A q := fun q h => by rw [← hAe]; exact Or.inr h
  show W p l e rh_at_1 s m args below meth c s.heap [] 0 0 _ _
  have hl := lv_entry ([.ref x0, .int (zi (i)), .int (zi (k)), .int (zi (what)), .ref ou]) (n := 6) (Nat.le_of_ble_eq_true rfl)
  rw [show entryFrame m args 6 = entryFrame m ([.ref x0, .int (zi (i)), .int (zi (k)), .int (zi (what)), .ref ou] : List Value).toArray 6 by rw [hargs], lg_entry_eq]
  generalize (lg_sl ([.ref x0, .int (zi (i)), .int (zi (k)), .int (zi (what)), .ref ou]) ++ List.replicate (6 - (lg_sl ([.ref x0, .int (zi (i)), .int (zi (k)), .int (zi (what)), .ref ou])).length) Slot.unset).toArray = ls at hl ⊢
  have hl : lv_has ls 6 [(0, .ref x0), (1, .int (zi (i))), (2, .int (zi (k))), (3, .int (zi (what))), (4, .ref ou)] := hl
  refine lv_aload hx hb dL_at_0 (lv_at hl 4 rfl) ?_
  refine lv_iconst (v := zi (0)) hx hb dL_at_2 rfl ?_
  refine lv_aload_n hx hb dL_at_3 rfl (lv_at hl 0 rfl) ?_
  refine lv_iload_n hx hb dL_at_4 rfl (lv_at hl 1 rfl) ?_
  refine lv_iload_n hx hb dL_at_5 rfl (lv_at hl 2 rfl) ?_
  refine lv_iload_n hx hb dL_at_6 rfl (lv_at hl 3 rfl) ?_
  refine thKV (As := [.int (zi (i)), .int (zi (k)), .int (zi (what))]) (rest := [.int (zi (0)), .ref ou]) (n := 3) hx hb hml hown hg (t_at_p l hl0 dC dI x0 pa ba ax ay sp ss vs fr pn bn ln sn cQ pf i k what hi hbad) (gwV wl_L_23 wm_X2_at we_X2_at wi_X2 wc_X2_at) rfl rfl (by decide +kernel) ⟨(Nat.le_of_ble_eq_true rfl), (Nat.le_of_ble_eq_true rfl)⟩ (hK.sub [0] rfl) (hP.sub [0, 1] rfl) hXA.1 0 rfl rfl rfl rfl hl.1 rfl (Nat.le_of_ble_eq_true rfl) dL_at_7 ⟨(Nat.le_of_ble_eq_true rfl), (Nat.le_of_ble_eq_true rfl)⟩ (fun q9 ce H1 locs1 hcell hcv hcl hS0 => ?_)
  refine vx_catch (E := KI) (name := KI) hown [] ⟨0, 12, 15, 19⟩ [] htab (fun z hz => by cases hz) (by decide) (by decide) (hg _ wl_L_19) (va_Nw.use rfl (hXA.1.1 KI (by decide))) hcell hcv hcl ?_
  refine lv_astore (lv' := [(5, .ref q9), (0, .ref x0), (1, .int (zi (i))), (2, .int (zi (k))), (3, .int (zi (what))), (4, .ref ou)]) hx hb dL_at_15 hl (by decide) rfl (fun ls hl => ?_)
  refine lv_iconst (v := zi (1)) hx hb dL_at_17 rfl ?_
  exact nw_i hx hb hr hlocks rfl (F := (fun w9 => w9 = [(x0, .inr (2, [.ref pa, .int (zi ((pn : Int))), .ref ba, .int (zi ((bn : Int))), .ref ax, .ref ay, .int (zi ((ln : Int))), .ref sp, .ref ss, .int (zi ((sn : Int))), .ref vs, .ref fr])), (pa, .inl (cQ, 6, .inr (.inr (.inr (.inr (pf)))))), (ou, .inl (cL, 1, .inr (.inl (zB (of)))))])) rfl (thP hP hS0) hD (thS0 hS0) dL_at_18
set_option maxHeartbeats 4000000 in
set_option maxRecDepth 100000 in
theorem h_t_at_w (l : Launch) (hl0 : l.stackTraces = false) (dC : Nat → ClassId) (dI : Nat → Nat → Nat) (sz : Nat) (x0 pa ba ax ay sp ss vs fr : Nat) (pn bn ln sn : Nat) (cQ : ClassId) (pf : Nat → Option Nat) (h0 h1 h2 : Nat) (cA : ClassId) (n : Nat) (th wc : Int) (hs rs : Nat → Int) (j : Nat) (k what : Int) (hn : n ≤ 12) (hH : ∀ j, 0 ≤ hs j ∧ hs j ≤ 400) (hR : ∀ j, 0 ≤ rs j ∧ rs j ≤ 200) (hj : j < 6) (hf : pf j = some h0) (h_k : -2147483648 ≤ k ∧ k < 2147483648) (h_what : -2147483648 ≤ what ∧ what < 2147483648) (hbad : ¬ (what = 0 ∨ what = 1)) (ou : Nat) (cL : ClassId) (of : Nat → Int) : Met l yL_at (Cond.codeWith yL_at cL_at 6 (Option.some Jvm.ClassFile.FieldType.int) [((0 : Nat), (12 : Nat), (15 : Nat), (19 : Nat))] :: gw) rh_at_1 (PcH [.ref x0, .int (zi ((j : Int))), .int (zi (k)), .int (zi (what)), .ref ou] (dC, dI) vwCl [(x0, .inr (2, [.ref pa, .int (zi ((pn : Int))), .ref ba, .int (zi ((bn : Int))), .ref ax, .ref ay, .int (zi ((ln : Int))), .ref sp, .ref ss, .int (zi ((sn : Int))), .ref vs, .ref fr])), (pa, .inl (cQ, 6, .inr (.inr (.inr (.inr (pf)))))), (h0, .inr (1, [.ref h1, .ref h2, .int (zi ((n : Int))), .int (zi (th)), .int (zi (wc))])), (h1, .inl (cA, 12, .inl (zA (hs)))), (h2, .inl (cA, 12, .inl (zA (rs)))), (ou, .inl (cL, 1, .inr (.inl (zB (of)))))] [(cQ, .object "PotVolumes$Profile"), (cA, .int), (cL, .long)] sz) (NwQ (some (.int (zi (1)))) (dC, dI) vwCl (fun w9 => w9 = [(x0, .inr (2, [.ref pa, .int (zi ((pn : Int))), .ref ba, .int (zi ((bn : Int))), .ref ax, .ref ay, .int (zi ((ln : Int))), .ref sp, .ref ss, .int (zi ((sn : Int))), .ref vs, .ref fr])), (pa, .inl (cQ, 6, .inr (.inr (.inr (.inr (pf)))))), (h0, .inr (1, [.ref h1, .ref h2, .int (zi ((n : Int))), .int (zi (th)), .int (zi (wc))])), (h1, .inl (cA, 12, .inl (zA (hs)))), (h2, .inl (cA, 12, .inl (zA (rs)))), (ou, .inl (cL, 1, .inr (.inl (zB (of)))))]) (va_A [(x0, .inr (2, [.ref pa, .int (zi ((pn : Int))), .ref ba, .int (zi ((bn : Int))), .ref ax, .ref ay, .int (zi ((ln : Int))), .ref sp, .ref ss, .int (zi ((sn : Int))), .ref vs, .ref fr])), (pa, .inl (cQ, 6, .inr (.inr (.inr (.inr (pf)))))), (h0, .inr (1, [.ref h1, .ref h2, .int (zi ((n : Int))), .int (zi (th)), .int (zi (wc))])), (h1, .inl (cA, 12, .inl (zA (hs)))), (h2, .inl (cA, 12, .inl (zA (rs)))), (ou, .inl (cL, 1, .inr (.inl (zB (of)))))] sz)) 1 6 (va_A [(x0, .inr (2, [.ref pa, .int (zi ((pn : Int))), .ref ba, .int (zi ((bn : Int))), .ref ax, .ref ay, .int (zi ((ln : Int))), .ref sp, .ref ss, .int (zi ((sn : Int))), .ref vs, .ref fr])), (pa, .inl (cQ, 6, .inr (.inr (.inr (.inr (pf)))))), (h0, .inr (1, [.ref h1, .ref h2, .int (zi ((n : Int))), .int (zi (th)), .int (zi (wc))])), (h1, .inl (cA, 12, .inl (zA (hs)))), (h2, .inl (cA, 12, .inl (zA (rs)))), (ou, .inl (cL, 1, .inr (.inl (zB (of)))))] sz) := by
  refine va_MetW (cc := cL_at) (maxL := 6) (ret := (Option.some Jvm.ClassFile.FieldType.int)) (hh := [((0 : Nat), (12 : Nat), (15 : Nat), (19 : Nat))]) (by decide) rfl ?_
  intro p e s m args below meth c s₁ B hml hv
  obtain ⟨hargs, hsz, hP, hK, hD0, hXA⟩ := hv
  have hx := B.exec
  have hb := B.bytes
  have hr := B.returns
  have hts := atoms_spec (ws := Cond.codeWith yL_at cL_at 6 (Option.some Jvm.ClassFile.FieldType.int) [((0 : Nat), (12 : Nat), (15 : Nat), (19 : Nat))] :: gw) B.pre
  have hg : ∀ w ∈ gw, w.before args s = true := fun w h => hts w (List.mem_cons_of_mem _ h)
  have hown : s.vm.findClass RL = some m.cls := findClass_of_methodNamed B.named
  have hlocks := B.notSynchronized
  have htab := vx_table (x := yL_at) B (hts _ List.mem_cons_self)
  subst hsz
  have hD := hD0.self (sz := s.heap.size)
  generalize hAe : va_A [(x0, .inr (2, [.ref pa, .int (zi ((pn : Int))), .ref ba, .int (zi ((bn : Int))), .ref ax, .ref ay, .int (zi ((ln : Int))), .ref sp, .ref ss, .int (zi ((sn : Int))), .ref vs, .ref fr])), (pa, .inl (cQ, 6, .inr (.inr (.inr (.inr (pf)))))), (h0, .inr (1, [.ref h1, .ref h2, .int (zi ((n : Int))), .int (zi (th)), .int (zi (wc))])), (h1, .inl (cA, 12, .inl (zA (hs)))), (h2, .inl (cA, 12, .inl (zA (rs)))), (ou, .inl (cL, 1, .inr (.inl (zB (of)))))] s.heap.size = A at hD ⊢
  have hA : ∀ q : Nat, s.heap.size ≤ q → A q := fun q h => by rw [← hAe]; exact Or.inr h
  show W p l e rh_at_1 s m args below meth c s.heap [] 0 0 _ _
  have hl := lv_entry ([.ref x0, .int (zi ((j : Int))), .int (zi (k)), .int (zi (what)), .ref ou]) (n := 6) (Nat.le_of_ble_eq_true rfl)
  rw [show entryFrame m args 6 = entryFrame m ([.ref x0, .int (zi ((j : Int))), .int (zi (k)), .int (zi (what)), .ref ou] : List Value).toArray 6 by rw [hargs], lg_entry_eq]
  generalize (lg_sl ([.ref x0, .int (zi ((j : Int))), .int (zi (k)), .int (zi (what)), .ref ou]) ++ List.replicate (6 - (lg_sl ([.ref x0, .int (zi ((j : Int))), .int (zi (k)), .int (zi (what)), .ref ou])).length) Slot.unset).toArray = ls at hl ⊢
  have hl : lv_has ls 6 [(0, .ref x0), (1, .int (zi ((j : Int)))), (2, .int (zi (k))), (3, .int (zi (what))), (4, .ref ou)] := hl
  refine lv_aload hx hb dL_at_0 (lv_at hl 4 rfl) ?_
  refine lv_iconst (v := zi (0)) hx hb dL_at_2 rfl ?_
  refine lv_aload_n hx hb dL_at_3 rfl (lv_at hl 0 rfl) ?_
  refine lv_iload_n hx hb dL_at_4 rfl (lv_at hl 1 rfl) ?_
  refine lv_iload_n hx hb dL_at_5 rfl (lv_at hl 2 rfl) ?_
  refine lv_iload_n hx hb dL_at_6 rfl (lv_at hl 3 rfl) ?_
  refine thKV (As := [.int (zi ((j : Int))), .int (zi (k)), .int (zi (what))]) (rest := [.int (zi (0)), .ref ou]) (n := 3) hx hb hml hown hg (t_at_w l hl0 dC dI x0 pa ba ax ay sp ss vs fr pn bn ln sn cQ pf h0 h1 h2 cA n th wc hs rs j k what hn hH hR hj hf h_k h_what hbad) (gwV wl_L_23 wm_X2_at we_X2_at wi_X2 wc_X2_at) rfl rfl (by decide +kernel) ⟨(Nat.le_of_ble_eq_true rfl), (Nat.le_of_ble_eq_true rfl)⟩ (hK.sub [0, 1] rfl) (hP.sub [0, 1, 2, 3, 4] rfl) hXA.1 0 rfl rfl rfl rfl hl.1 rfl (Nat.le_of_ble_eq_true rfl) dL_at_7 ⟨(Nat.le_of_ble_eq_true rfl), (Nat.le_of_ble_eq_true rfl)⟩ (fun q9 ce H1 locs1 hcell hcv hcl hS0 => ?_)
  refine vx_catch (E := KI) (name := KI) hown [] ⟨0, 12, 15, 19⟩ [] htab (fun z hz => by cases hz) (by decide) (by decide) (hg _ wl_L_19) (va_Nw.use rfl (hXA.1.1 KI (by decide))) hcell hcv hcl ?_
  refine lv_astore (lv' := [(5, .ref q9), (0, .ref x0), (1, .int (zi ((j : Int)))), (2, .int (zi (k))), (3, .int (zi (what))), (4, .ref ou)]) hx hb dL_at_15 hl (by decide) rfl (fun ls hl => ?_)
  refine lv_iconst (v := zi (1)) hx hb dL_at_17 rfl ?_
  exact nw_i hx hb hr hlocks rfl (F := (fun w9 => w9 = [(x0, .inr (2, [.ref pa, .int (zi ((pn : Int))), .ref ba, .int (zi ((bn : Int))), .ref ax, .ref ay, .int (zi ((ln : Int))), .ref sp, .ref ss, .int (zi ((sn : Int))), .ref vs, .ref fr])), (pa, .inl (cQ, 6, .inr (.inr (.inr (.inr (pf)))))), (h0, .inr (1, [.ref h1, .ref h2, .int (zi ((n : Int))), .int (zi (th)), .int (zi (wc))])), (h1, .inl (cA, 12, .inl (zA (hs)))), (h2, .inl (cA, 12, .inl (zA (rs)))), (ou, .inl (cL, 1, .inr (.inl (zB (of)))))])) rfl (thP hP hS0) hD (thS0 hS0) dL_at_18
set_option maxHeartbeats 4000000 in
set_option maxRecDepth 100000 in
theorem h_t_at_k (l : Launch) (hl0 : l.stackTraces = false) (dC : Nat → ClassId) (dI : Nat → Nat → Nat) (sz : Nat) (x0 pa ba ax ay sp ss vs fr : Nat) (pn bn ln sn : Nat) (cQ : ClassId) (pf : Nat → Option Nat) (h0 h1 h2 : Nat) (cA : ClassId) (n : Nat) (th wc : Int) (hs rs : Nat → Int) (j : Nat) (k what : Int) (hn : n ≤ 12) (hH : ∀ j, 0 ≤ hs j ∧ hs j ≤ 400) (hR : ∀ j, 0 ≤ rs j ∧ rs j ≤ 200) (hj : j < 6) (hf : pf j = some h0) (h_k : -2147483648 ≤ k ∧ k < 2147483648) (h_what : -2147483648 ≤ what ∧ what < 2147483648) (hwh : what = 0 ∨ what = 1) (hbad : k ≠ -1 ∧ ¬ (0 ≤ k ∧ k < n)) (ou : Nat) (cL : ClassId) (of : Nat → Int) : Met l yL_at (Cond.codeWith yL_at cL_at 6 (Option.some Jvm.ClassFile.FieldType.int) [((0 : Nat), (12 : Nat), (15 : Nat), (19 : Nat))] :: gw) rh_at_1 (PcH [.ref x0, .int (zi ((j : Int))), .int (zi (k)), .int (zi (what)), .ref ou] (dC, dI) vwCl [(x0, .inr (2, [.ref pa, .int (zi ((pn : Int))), .ref ba, .int (zi ((bn : Int))), .ref ax, .ref ay, .int (zi ((ln : Int))), .ref sp, .ref ss, .int (zi ((sn : Int))), .ref vs, .ref fr])), (pa, .inl (cQ, 6, .inr (.inr (.inr (.inr (pf)))))), (h0, .inr (1, [.ref h1, .ref h2, .int (zi ((n : Int))), .int (zi (th)), .int (zi (wc))])), (h1, .inl (cA, 12, .inl (zA (hs)))), (h2, .inl (cA, 12, .inl (zA (rs)))), (ou, .inl (cL, 1, .inr (.inl (zB (of)))))] [(cQ, .object "PotVolumes$Profile"), (cA, .int), (cL, .long)] sz) (NwQ (some (.int (zi (1)))) (dC, dI) vwCl (fun w9 => w9 = [(x0, .inr (2, [.ref pa, .int (zi ((pn : Int))), .ref ba, .int (zi ((bn : Int))), .ref ax, .ref ay, .int (zi ((ln : Int))), .ref sp, .ref ss, .int (zi ((sn : Int))), .ref vs, .ref fr])), (pa, .inl (cQ, 6, .inr (.inr (.inr (.inr (pf)))))), (h0, .inr (1, [.ref h1, .ref h2, .int (zi ((n : Int))), .int (zi (th)), .int (zi (wc))])), (h1, .inl (cA, 12, .inl (zA (hs)))), (h2, .inl (cA, 12, .inl (zA (rs)))), (ou, .inl (cL, 1, .inr (.inl (zB (of)))))]) (va_A [(x0, .inr (2, [.ref pa, .int (zi ((pn : Int))), .ref ba, .int (zi ((bn : Int))), .ref ax, .ref ay, .int (zi ((ln : Int))), .ref sp, .ref ss, .int (zi ((sn : Int))), .ref vs, .ref fr])), (pa, .inl (cQ, 6, .inr (.inr (.inr (.inr (pf)))))), (h0, .inr (1, [.ref h1, .ref h2, .int (zi ((n : Int))), .int (zi (th)), .int (zi (wc))])), (h1, .inl (cA, 12, .inl (zA (hs)))), (h2, .inl (cA, 12, .inl (zA (rs)))), (ou, .inl (cL, 1, .inr (.inl (zB (of)))))] sz)) 1 6 (va_A [(x0, .inr (2, [.ref pa, .int (zi ((pn : Int))), .ref ba, .int (zi ((bn : Int))), .ref ax, .ref ay, .int (zi ((ln : Int))), .ref sp, .ref ss, .int (zi ((sn : Int))), .ref vs, .ref fr])), (pa, .inl (cQ, 6, .inr (.inr (.inr (.inr (pf)))))), (h0, .inr (1, [.ref h1, .ref h2, .int (zi ((n : Int))), .int (zi (th)), .int (zi (wc))])), (h1, .inl (cA, 12, .inl (zA (hs)))), (h2, .inl (cA, 12, .inl (zA (rs)))), (ou, .inl (cL, 1, .inr (.inl (zB (of)))))] sz) := by
  refine va_MetW (cc := cL_at) (maxL := 6) (ret := (Option.some Jvm.ClassFile.FieldType.int)) (hh := [((0 : Nat), (12 : Nat), (15 : Nat), (19 : Nat))]) (by decide) rfl ?_
  intro p e s m args below meth c s₁ B hml hv
  obtain ⟨hargs, hsz, hP, hK, hD0, hXA⟩ := hv
  have hx := B.exec
  have hb := B.bytes
  have hr := B.returns
  have hts := atoms_spec (ws := Cond.codeWith yL_at cL_at 6 (Option.some Jvm.ClassFile.FieldType.int) [((0 : Nat), (12 : Nat), (15 : Nat), (19 : Nat))] :: gw) B.pre
  have hg : ∀ w ∈ gw, w.before args s = true := fun w h => hts w (List.mem_cons_of_mem _ h)
  have hown : s.vm.findClass RL = some m.cls := findClass_of_methodNamed B.named
  have hlocks := B.notSynchronized
  have htab := vx_table (x := yL_at) B (hts _ List.mem_cons_self)
  subst hsz
  have hD := hD0.self (sz := s.heap.size)
  generalize hAe : va_A [(x0, .inr (2, [.ref pa, .int (zi ((pn : Int))), .ref ba, .int (zi ((bn : Int))), .ref ax, .ref ay, .int (zi ((ln : Int))), .ref sp, .ref ss, .int (zi ((sn : Int))), .ref vs, .ref fr])), (pa, .inl (cQ, 6, .inr (.inr (.inr (.inr (pf)))))), (h0, .inr (1, [.ref h1, .ref h2, .int (zi ((n : Int))), .int (zi (th)), .int (zi (wc))])), (h1, .inl (cA, 12, .inl (zA (hs)))), (h2, .inl (cA, 12, .inl (zA (rs)))), (ou, .inl (cL, 1, .inr (.inl (zB (of)))))] s.heap.size = A at hD ⊢
  have hA : ∀ q : Nat, s.heap.size ≤ q → A q := fun q h => by rw [← hAe]; exact Or.inr h
  show W p l e rh_at_1 s m args below meth c s.heap [] 0 0 _ _
  have hl := lv_entry ([.ref x0, .int (zi ((j : Int))), .int (zi (k)), .int (zi (what)), .ref ou]) (n := 6) (Nat.le_of_ble_eq_true rfl)
  rw [show entryFrame m args 6 = entryFrame m ([.ref x0, .int (zi ((j : Int))), .int (zi (k)), .int (zi (what)), .ref ou] : List Value).toArray 6 by rw [hargs], lg_entry_eq]
  generalize (lg_sl ([.ref x0, .int (zi ((j : Int))), .int (zi (k)), .int (zi (what)), .ref ou]) ++ List.replicate (6 - (lg_sl ([.ref x0, .int (zi ((j : Int))), .int (zi (k)), .int (zi (what)), .ref ou])).length) Slot.unset).toArray = ls at hl ⊢
  have hl : lv_has ls 6 [(0, .ref x0), (1, .int (zi ((j : Int)))), (2, .int (zi (k))), (3, .int (zi (what))), (4, .ref ou)] := hl
  refine lv_aload hx hb dL_at_0 (lv_at hl 4 rfl) ?_
  refine lv_iconst (v := zi (0)) hx hb dL_at_2 rfl ?_
  refine lv_aload_n hx hb dL_at_3 rfl (lv_at hl 0 rfl) ?_
  refine lv_iload_n hx hb dL_at_4 rfl (lv_at hl 1 rfl) ?_
  refine lv_iload_n hx hb dL_at_5 rfl (lv_at hl 2 rfl) ?_
  refine lv_iload_n hx hb dL_at_6 rfl (lv_at hl 3 rfl) ?_
  refine thKV (As := [.int (zi ((j : Int))), .int (zi (k)), .int (zi (what))]) (rest := [.int (zi (0)), .ref ou]) (n := 3) hx hb hml hown hg (t_at_k l hl0 dC dI x0 pa ba ax ay sp ss vs fr pn bn ln sn cQ pf h0 h1 h2 cA n th wc hs rs j k what hn hH hR hj hf h_k h_what hwh hbad) (gwV wl_L_23 wm_X2_at we_X2_at wi_X2 wc_X2_at) rfl rfl (by decide +kernel) ⟨(Nat.le_of_ble_eq_true rfl), (Nat.le_of_ble_eq_true rfl)⟩ (hK.sub [0, 1] rfl) (hP.sub [0, 1, 2, 3, 4] rfl) hXA.1 0 rfl rfl rfl rfl hl.1 rfl (Nat.le_of_ble_eq_true rfl) dL_at_7 ⟨(Nat.le_of_ble_eq_true rfl), (Nat.le_of_ble_eq_true rfl)⟩ (fun q9 ce H1 locs1 hcell hcv hcl hS0 => ?_)
  refine vx_catch (E := KI) (name := KI) hown [] ⟨0, 12, 15, 19⟩ [] htab (fun z hz => by cases hz) (by decide) (by decide) (hg _ wl_L_19) (va_Nw.use rfl (hXA.1.1 KI (by decide))) hcell hcv hcl ?_
  refine lv_astore (lv' := [(5, .ref q9), (0, .ref x0), (1, .int (zi ((j : Int)))), (2, .int (zi (k))), (3, .int (zi (what))), (4, .ref ou)]) hx hb dL_at_15 hl (by decide) rfl (fun ls hl => ?_)
  refine lv_iconst (v := zi (1)) hx hb dL_at_17 rfl ?_
  exact nw_i hx hb hr hlocks rfl (F := (fun w9 => w9 = [(x0, .inr (2, [.ref pa, .int (zi ((pn : Int))), .ref ba, .int (zi ((bn : Int))), .ref ax, .ref ay, .int (zi ((ln : Int))), .ref sp, .ref ss, .int (zi ((sn : Int))), .ref vs, .ref fr])), (pa, .inl (cQ, 6, .inr (.inr (.inr (.inr (pf)))))), (h0, .inr (1, [.ref h1, .ref h2, .int (zi ((n : Int))), .int (zi (th)), .int (zi (wc))])), (h1, .inl (cA, 12, .inl (zA (hs)))), (h2, .inl (cA, 12, .inl (zA (rs)))), (ou, .inl (cL, 1, .inr (.inl (zB (of)))))])) rfl (thP hP hS0) hD (thS0 hS0) dL_at_18
abbrev rh_radius_0 : Room := { frames := 9, cells := 0, slots := 0, locals := 200 }
set_option maxHeartbeats 4000000 in
set_option maxRecDepth 100000 in
theorem h_c_radius (l : Launch) (dC : Nat → ClassId) (dI : Nat → Nat → Nat) (sz : Nat) (x0 pa ba ax ay sp ss vs fr : Nat) (pn bn ln sn : Nat) (cQ : ClassId) (pf : Nat → Option Nat) (h0 h1 h2 : Nat) (cA : ClassId) (n : Nat) (th wc : Int) (hs rs : Nat → Int) (j : Nat) (h : Int) (hn : n ≤ 12) (hH : ∀ j, 0 ≤ hs j ∧ hs j ≤ 400) (hR : ∀ j, 0 ≤ rs j ∧ rs j ≤ 200) (hj : j < 6) (hf : pf j = some h0) (hh : -2147483648 ≤ h ∧ h < 2147483648) (ou : Nat) (cL : ClassId) (of : Nat → Int) : Met l yL_radius (Cond.codeWith yL_radius cL_radius 5 (Option.some Jvm.ClassFile.FieldType.int) [((0 : Nat), (10 : Nat), (13 : Nat), (19 : Nat))] :: gw) rh_radius_0 (PcH [.ref x0, .int (zi ((j : Int))), .int (zi (h)), .ref ou] (dC, dI) vwCl [(x0, .inr (2, [.ref pa, .int (zi ((pn : Int))), .ref ba, .int (zi ((bn : Int))), .ref ax, .ref ay, .int (zi ((ln : Int))), .ref sp, .ref ss, .int (zi ((sn : Int))), .ref vs, .ref fr])), (pa, .inl (cQ, 6, .inr (.inr (.inr (.inr (pf)))))), (h0, .inr (1, [.ref h1, .ref h2, .int (zi ((n : Int))), .int (zi (th)), .int (zi (wc))])), (h1, .inl (cA, 12, .inl (zA (hs)))), (h2, .inl (cA, 12, .inl (zA (rs)))), (ou, .inl (cL, 1, .inr (.inl (zB (of)))))] [(cQ, .object "PotVolumes$Profile"), (cA, .int), (cL, .long)] sz) (NwQ (some (.int (zi (0)))) (dC, dI) vwCl (fun w9 => w9 = [(x0, .inr (2, [.ref pa, .int (zi ((pn : Int))), .ref ba, .int (zi ((bn : Int))), .ref ax, .ref ay, .int (zi ((ln : Int))), .ref sp, .ref ss, .int (zi ((sn : Int))), .ref vs, .ref fr])), (pa, .inl (cQ, 6, .inr (.inr (.inr (.inr (pf)))))), (h0, .inr (1, [.ref h1, .ref h2, .int (zi ((n : Int))), .int (zi (th)), .int (zi (wc))])), (h1, .inl (cA, 12, .inl (zA (hs)))), (h2, .inl (cA, 12, .inl (zA (rs)))), (ou, .inl (cL, 1, .inr (.inl (zB (zupd of (0) ((zi ((p_radius n hs rs h))).toInt))))))]) (va_A [(x0, .inr (2, [.ref pa, .int (zi ((pn : Int))), .ref ba, .int (zi ((bn : Int))), .ref ax, .ref ay, .int (zi ((ln : Int))), .ref sp, .ref ss, .int (zi ((sn : Int))), .ref vs, .ref fr])), (pa, .inl (cQ, 6, .inr (.inr (.inr (.inr (pf)))))), (h0, .inr (1, [.ref h1, .ref h2, .int (zi ((n : Int))), .int (zi (th)), .int (zi (wc))])), (h1, .inl (cA, 12, .inl (zA (hs)))), (h2, .inl (cA, 12, .inl (zA (rs)))), (ou, .inl (cL, 1, .inr (.inl (zB (of)))))] sz)) 0 0 (va_A [(x0, .inr (2, [.ref pa, .int (zi ((pn : Int))), .ref ba, .int (zi ((bn : Int))), .ref ax, .ref ay, .int (zi ((ln : Int))), .ref sp, .ref ss, .int (zi ((sn : Int))), .ref vs, .ref fr])), (pa, .inl (cQ, 6, .inr (.inr (.inr (.inr (pf)))))), (h0, .inr (1, [.ref h1, .ref h2, .int (zi ((n : Int))), .int (zi (th)), .int (zi (wc))])), (h1, .inl (cA, 12, .inl (zA (hs)))), (h2, .inl (cA, 12, .inl (zA (rs)))), (ou, .inl (cL, 1, .inr (.inl (zB (of)))))] sz) := by
  refine va_MetW (cc := cL_radius) (maxL := 5) (ret := (Option.some Jvm.ClassFile.FieldType.int)) (hh := [((0 : Nat), (10 : Nat), (13 : Nat), (19 : Nat))]) (by decide) rfl ?_
  intro p e s m args below meth c s₁ B hml hv
  obtain ⟨hargs, hsz, hP, hK, hD0, hXA⟩ := hv
  have hx := B.exec
  have hb := B.bytes
  have hr := B.returns
  have hts := atoms_spec (ws := Cond.codeWith yL_radius cL_radius 5 (Option.some Jvm.ClassFile.FieldType.int) [((0 : Nat), (10 : Nat), (13 : Nat), (19 : Nat))] :: gw) B.pre
  have hg : ∀ w ∈ gw, w.before args s = true := fun w h => hts w (List.mem_cons_of_mem _ h)
  have hown : s.vm.findClass RL = some m.cls := findClass_of_methodNamed B.named
  have hlocks := B.notSynchronized
  have htab := vx_table (x := yL_radius) B (hts _ List.mem_cons_self)
  subst hsz
  have hD := hD0.self (sz := s.heap.size)
  generalize hAe : va_A [(x0, .inr (2, [.ref pa, .int (zi ((pn : Int))), .ref ba, .int (zi ((bn : Int))), .ref ax, .ref ay, .int (zi ((ln : Int))), .ref sp, .ref ss, .int (zi ((sn : Int))), .ref vs, .ref fr])), (pa, .inl (cQ, 6, .inr (.inr (.inr (.inr (pf)))))), (h0, .inr (1, [.ref h1, .ref h2, .int (zi ((n : Int))), .int (zi (th)), .int (zi (wc))])), (h1, .inl (cA, 12, .inl (zA (hs)))), (h2, .inl (cA, 12, .inl (zA (rs)))), (ou, .inl (cL, 1, .inr (.inl (zB (of)))))] s.heap.size = A at hD ⊢
  have hA : ∀ q : Nat, s.heap.size ≤ q → A q := fun q h => by rw [← hAe]; exact Or.inr h
  show W p l e rh_radius_0 s m args below meth c s.heap [] 0 0 _ _
  have hl := lv_entry ([.ref x0, .int (zi ((j : Int))), .int (zi (h)), .ref ou]) (n := 5) (Nat.le_of_ble_eq_true rfl)
  rw [show entryFrame m args 5 = entryFrame m ([.ref x0, .int (zi ((j : Int))), .int (zi (h)), .ref ou] : List Value).toArray 5 by rw [hargs], lg_entry_eq]
  generalize (lg_sl ([.ref x0, .int (zi ((j : Int))), .int (zi (h)), .ref ou]) ++ List.replicate (5 - (lg_sl ([.ref x0, .int (zi ((j : Int))), .int (zi (h)), .ref ou])).length) Slot.unset).toArray = ls at hl ⊢
  have hl : lv_has ls 5 [(0, .ref x0), (1, .int (zi ((j : Int)))), (2, .int (zi (h))), (3, .ref ou)] := hl
  refine lv_aload_n hx hb dL_radius_0 rfl (lv_at hl 3 rfl) ?_
  refine lv_iconst (v := zi (0)) hx hb dL_radius_1 rfl ?_
  refine lv_aload_n hx hb dL_radius_2 rfl (lv_at hl 0 rfl) ?_
  refine lv_iload_n hx hb dL_radius_3 rfl (lv_at hl 1 rfl) ?_
  refine lv_iload_n hx hb dL_radius_4 rfl (lv_at hl 2 rfl) ?_
  obtain ⟨H, hHe⟩ : ∃ H : Heap, H = s.heap := ⟨_, rfl⟩
  obtain ⟨locs, hlc⟩ : ∃ x : List Loc, x = [] := ⟨_, rfl⟩
  have hS : va_S A s.heap H locs := by rw [hHe, hlc]; exact va_S.rf
  have hP : va_P (dC, dI) vwCl [(x0, .inr (2, [.ref pa, .int (zi ((pn : Int))), .ref ba, .int (zi ((bn : Int))), .ref ax, .ref ay, .int (zi ((ln : Int))), .ref sp, .ref ss, .int (zi ((sn : Int))), .ref vs, .ref fr])), (pa, .inl (cQ, 6, .inr (.inr (.inr (.inr (pf)))))), (h0, .inr (1, [.ref h1, .ref h2, .int (zi ((n : Int))), .int (zi (th)), .int (zi (wc))])), (h1, .inl (cA, 12, .inl (zA (hs)))), (h2, .inl (cA, 12, .inl (zA (rs)))), (ou, .inl (cL, 1, .inr (.inl (zB (of)))))] H := by rw [hHe]; exact hP
  rw [← hHe, ← hlc]
  refine rdV (As := [.int (zi ((j : Int))), .int (zi (h))]) (rest := [.int (zi (0)), .ref ou]) (n := 2) hx hb hml hown hg (c_radius l dC dI x0 pa ba ax ay sp ss vs fr pn bn ln sn cQ pf h0 h1 h2 cA n th wc hs rs j h hn hH hR hj hf hh) (gwV wl_L_27 wm_X2_radius we_X2_radius wi_X2 wc_X2_radius) rfl rfl (by decide +kernel) ⟨(Nat.le_of_ble_eq_true rfl), (Nat.le_of_ble_eq_true rfl)⟩ (hK.sub [0, 1] rfl) (hP.sub [0, 1, 2, 3, 4] rfl) 0 rfl rfl rfl rfl hl.1 rfl (Nat.le_of_ble_eq_true rfl) dL_radius_5 ⟨Nat.zero_le _, Nat.zero_le _⟩ ?_
  refine zz_i2lr hx hb dL_radius_8 ?_
  refine zz_last hx hb hK hP hD hS 5 2 rfl rfl (0) (by omega) (by omega) (by decide) dL_radius_9 (fun H locs hP hD hS => ?_)
  refine lv_goto (tgt := 17) hx hb dL_radius_10 (by decide) ?_
  refine lv_iconst (v := zi (0)) hx hb dL_radius_17 rfl ?_
  exact nw_i hx hb hr hlocks rfl (F := (fun w9 => w9 = [(x0, .inr (2, [.ref pa, .int (zi ((pn : Int))), .ref ba, .int (zi ((bn : Int))), .ref ax, .ref ay, .int (zi ((ln : Int))), .ref sp, .ref ss, .int (zi ((sn : Int))), .ref vs, .ref fr])), (pa, .inl (cQ, 6, .inr (.inr (.inr (.inr (pf)))))), (h0, .inr (1, [.ref h1, .ref h2, .int (zi ((n : Int))), .int (zi (th)), .int (zi (wc))])), (h1, .inl (cA, 12, .inl (zA (hs)))), (h2, .inl (cA, 12, .inl (zA (rs)))), (ou, .inl (cL, 1, .inr (.inl (zB (zupd of (0) ((zi ((p_radius n hs rs h))).toInt))))))])) rfl hP hD hS dL_radius_18
abbrev rh_radius_1 : Room := { frames := 9, cells := 1, slots := 6, locals := 200 }
set_option maxHeartbeats 4000000 in
set_option maxRecDepth 100000 in
theorem h_t_radius_p (l : Launch) (hl0 : l.stackTraces = false) (dC : Nat → ClassId) (dI : Nat → Nat → Nat) (sz : Nat) (x0 pa ba ax ay sp ss vs fr : Nat) (pn bn ln sn : Nat) (cQ : ClassId) (pf : Nat → Option Nat) (i h : Int) (hi : -2147483648 ≤ i ∧ i < 2147483648) (hbad : i < 0 ∨ 6 ≤ i ∨ pf i.toNat = none) (ou : Nat) (cL : ClassId) (of : Nat → Int) : Met l yL_radius (Cond.codeWith yL_radius cL_radius 5 (Option.some Jvm.ClassFile.FieldType.int) [((0 : Nat), (10 : Nat), (13 : Nat), (19 : Nat))] :: gw) rh_radius_1 (PcH [.ref x0, .int (zi (i)), .int (zi (h)), .ref ou] (dC, dI) vwCl [(x0, .inr (2, [.ref pa, .int (zi ((pn : Int))), .ref ba, .int (zi ((bn : Int))), .ref ax, .ref ay, .int (zi ((ln : Int))), .ref sp, .ref ss, .int (zi ((sn : Int))), .ref vs, .ref fr])), (pa, .inl (cQ, 6, .inr (.inr (.inr (.inr (pf)))))), (ou, .inl (cL, 1, .inr (.inl (zB (of)))))] [(cQ, .object "PotVolumes$Profile"), (cL, .long)] sz) (NwQ (some (.int (zi (1)))) (dC, dI) vwCl (fun w9 => w9 = [(x0, .inr (2, [.ref pa, .int (zi ((pn : Int))), .ref ba, .int (zi ((bn : Int))), .ref ax, .ref ay, .int (zi ((ln : Int))), .ref sp, .ref ss, .int (zi ((sn : Int))), .ref vs, .ref fr])), (pa, .inl (cQ, 6, .inr (.inr (.inr (.inr (pf)))))), (ou, .inl (cL, 1, .inr (.inl (zB (of)))))]) (va_A [(x0, .inr (2, [.ref pa, .int (zi ((pn : Int))), .ref ba, .int (zi ((bn : Int))), .ref ax, .ref ay, .int (zi ((ln : Int))), .ref sp, .ref ss, .int (zi ((sn : Int))), .ref vs, .ref fr])), (pa, .inl (cQ, 6, .inr (.inr (.inr (.inr (pf)))))), (ou, .inl (cL, 1, .inr (.inl (zB (of)))))] sz)) 1 6 (va_A [(x0, .inr (2, [.ref pa, .int (zi ((pn : Int))), .ref ba, .int (zi ((bn : Int))), .ref ax, .ref ay, .int (zi ((ln : Int))), .ref sp, .ref ss, .int (zi ((sn : Int))), .ref vs, .ref fr])), (pa, .inl (cQ, 6, .inr (.inr (.inr (.inr (pf)))))), (ou, .inl (cL, 1, .inr (.inl (zB (of)))))] sz) := by
  refine va_MetW (cc := cL_radius) (maxL := 5) (ret := (Option.some Jvm.ClassFile.FieldType.int)) (hh := [((0 : Nat), (10 : Nat), (13 : Nat), (19 : Nat))]) (by decide) rfl ?_
  intro p e s m args below meth c s₁ B hml hv
  obtain ⟨hargs, hsz, hP, hK, hD0, hXA⟩ := hv
  have hx := B.exec
  have hb := B.bytes
  have hr := B.returns
  have hts := atoms_spec (ws := Cond.codeWith yL_radius cL_radius 5 (Option.some Jvm.ClassFile.FieldType.int) [((0 : Nat), (10 : Nat), (13 : Nat), (19 : Nat))] :: gw) B.pre
  have hg : ∀ w ∈ gw, w.before args s = true := fun w h => hts w (List.mem_cons_of_mem _ h)
  have hown : s.vm.findClass RL = some m.cls := findClass_of_methodNamed B.named
  have hlocks := B.notSynchronized
  have htab := vx_table (x := yL_radius) B (hts _ List.mem_cons_self)
  subst hsz
  have hD := hD0.self (sz := s.heap.size)
  generalize hAe : va_A [(x0, .inr (2, [.ref pa, .int (zi ((pn : Int))), .ref ba, .int (zi ((bn : Int))), .ref ax, .ref ay, .int (zi ((ln : Int))), .ref sp, .ref ss, .int (zi ((sn : Int))), .ref vs, .ref fr])), (pa, .inl (cQ, 6, .inr (.inr (.inr (.inr (pf)))))), (ou, .inl (cL, 1, .inr (.inl (zB (of)))))] s.heap.size = A at hD ⊢
  have hA : ∀ q : Nat, s.heap.size ≤ q → A q := fun q h => by rw [← hAe]; exact Or.inr h
  show W p l e rh_radius_1 s m args below meth c s.heap [] 0 0 _ _
  have hl := lv_entry ([.ref x0, .int (zi (i)), .int (zi (h)), .ref ou]) (n := 5) (Nat.le_of_ble_eq_true rfl)
  rw [show entryFrame m args 5 = entryFrame m ([.ref x0, .int (zi (i)), .int (zi (h)), .ref ou] : List Value).toArray 5 by rw [hargs], lg_entry_eq]
  generalize (lg_sl ([.ref x0, .int (zi (i)), .int (zi (h)), .ref ou]) ++ List.replicate (5 - (lg_sl ([.ref x0, .int (zi (i)), .int (zi (h)), .ref ou])).length) Slot.unset).toArray = ls at hl ⊢
  have hl : lv_has ls 5 [(0, .ref x0), (1, .int (zi (i))), (2, .int (zi (h))), (3, .ref ou)] := hl
  refine lv_aload_n hx hb dL_radius_0 rfl (lv_at hl 3 rfl) ?_
  refine lv_iconst (v := zi (0)) hx hb dL_radius_1 rfl ?_
  refine lv_aload_n hx hb dL_radius_2 rfl (lv_at hl 0 rfl) ?_
  refine lv_iload_n hx hb dL_radius_3 rfl (lv_at hl 1 rfl) ?_
  refine lv_iload_n hx hb dL_radius_4 rfl (lv_at hl 2 rfl) ?_
  refine thKV (As := [.int (zi (i)), .int (zi (h))]) (rest := [.int (zi (0)), .ref ou]) (n := 2) hx hb hml hown hg (t_radius_p l hl0 dC dI x0 pa ba ax ay sp ss vs fr pn bn ln sn cQ pf i h hi hbad) (gwV wl_L_27 wm_X2_radius we_X2_radius wi_X2 wc_X2_radius) rfl rfl (by decide +kernel) ⟨(Nat.le_of_ble_eq_true rfl), (Nat.le_of_ble_eq_true rfl)⟩ (hK.sub [0] rfl) (hP.sub [0, 1] rfl) hXA.1 0 rfl rfl rfl rfl hl.1 rfl (Nat.le_of_ble_eq_true rfl) dL_radius_5 ⟨(Nat.le_of_ble_eq_true rfl), (Nat.le_of_ble_eq_true rfl)⟩ (fun q9 ce H1 locs1 hcell hcv hcl hS0 => ?_)
  refine vx_catch (E := KI) (name := KI) hown [] ⟨0, 10, 13, 19⟩ [] htab (fun z hz => by cases hz) (by decide) (by decide) (hg _ wl_L_19) (va_Nw.use rfl (hXA.1.1 KI (by decide))) hcell hcv hcl ?_
  refine lv_astore (lv' := [(4, .ref q9), (0, .ref x0), (1, .int (zi (i))), (2, .int (zi (h))), (3, .ref ou)]) hx hb dL_radius_13 hl (by decide) rfl (fun ls hl => ?_)
  refine lv_iconst (v := zi (1)) hx hb dL_radius_15 rfl ?_
  exact nw_i hx hb hr hlocks rfl (F := (fun w9 => w9 = [(x0, .inr (2, [.ref pa, .int (zi ((pn : Int))), .ref ba, .int (zi ((bn : Int))), .ref ax, .ref ay, .int (zi ((ln : Int))), .ref sp, .ref ss, .int (zi ((sn : Int))), .ref vs, .ref fr])), (pa, .inl (cQ, 6, .inr (.inr (.inr (.inr (pf)))))), (ou, .inl (cL, 1, .inr (.inl (zB (of)))))])) rfl (thP hP hS0) hD (thS0 hS0) dL_radius_16
abbrev rh_volume_0 : Room := { frames := 9, cells := 0, slots := 0, locals := 200 }
set_option maxHeartbeats 4000000 in
set_option maxRecDepth 100000 in
theorem h_c_volume (l : Launch) (dC : Nat → ClassId) (dI : Nat → Nat → Nat) (sz : Nat) (x0 pa ba ax ay sp ss vs fr : Nat) (pn bn ln sn : Nat) (cQ : ClassId) (pf : Nat → Option Nat) (h0 h1 h2 : Nat) (cA : ClassId) (n : Nat) (th wc : Int) (hs rs : Nat → Int) (j : Nat) (a b to part : Int) (hn : n ≤ 12) (hH : ∀ j, 0 ≤ hs j ∧ hs j ≤ 400) (hR : ∀ j, 0 ≤ rs j ∧ rs j ≤ 200) (hj : j < 6) (hf : pf j = some h0) (h_to : -2147483648 ≤ to ∧ to < 2147483648) (hp9 : part = 0 ∨ part = 1) (hok : p_oks n hs rs 0 0 to) (ou : Nat) (cL : ClassId) (of : Nat → Int) : Met l yL_volume (Cond.codeWith yL_volume cL_volume 6 (Option.some Jvm.ClassFile.FieldType.int) [((0 : Nat), (11 : Nat), (14 : Nat), (19 : Nat))] :: gw) rh_volume_0 (PcH [.ref x0, .int (zi ((j : Int))), .int (zi (to)), .int (zi (part)), .ref ou] (dC, dI) vwCl [(x0, .inr (2, [.ref pa, .int (zi ((pn : Int))), .ref ba, .int (zi ((bn : Int))), .ref ax, .ref ay, .int (zi ((ln : Int))), .ref sp, .ref ss, .int (zi ((sn : Int))), .ref vs, .ref fr])), (pa, .inl (cQ, 6, .inr (.inr (.inr (.inr (pf)))))), (h0, .inr (1, [.ref h1, .ref h2, .int (zi ((n : Int))), .int (zi (th)), .int (zi (wc))])), (h1, .inl (cA, 12, .inl (zA (hs)))), (h2, .inl (cA, 12, .inl (zA (rs)))), (fr, .inr (0, [.long (zl (a)), .long (zl (b))])), (ou, .inl (cL, 1, .inr (.inl (zB (of)))))] [(cQ, .object "PotVolumes$Profile"), (cA, .int), (cL, .long)] sz) (NwQ (some (.int (zi (0)))) (dC, dI) vwCl (fun w9 => w9 = [(x0, .inr (2, [.ref pa, .int (zi ((pn : Int))), .ref ba, .int (zi ((bn : Int))), .ref ax, .ref ay, .int (zi ((ln : Int))), .ref sp, .ref ss, .int (zi ((sn : Int))), .ref vs, .ref fr])), (pa, .inl (cQ, 6, .inr (.inr (.inr (.inr (pf)))))), (h0, .inr (1, [.ref h1, .ref h2, .int (zi ((n : Int))), .int (zi (th)), .int (zi (wc))])), (h1, .inl (cA, 12, .inl (zA (hs)))), (h2, .inl (cA, 12, .inl (zA (rs)))), (fr, .inr (0, [.long (zl ((((p_sum hs rs 0 0 to (n - 1)).1 : Nat) : Int))), .long (zl ((((p_sum hs rs 0 0 to (n - 1)).2 : Nat) : Int)))])), (ou, .inl (cL, 1, .inr (.inl (zB (zupd of (0) ((if part = 0 then (((p_sum hs rs 0 0 to (n - 1)).1 : Nat) : Int) else (((p_sum hs rs 0 0 to (n - 1)).2 : Nat) : Int))))))))]) (va_A [(x0, .inr (2, [.ref pa, .int (zi ((pn : Int))), .ref ba, .int (zi ((bn : Int))), .ref ax, .ref ay, .int (zi ((ln : Int))), .ref sp, .ref ss, .int (zi ((sn : Int))), .ref vs, .ref fr])), (pa, .inl (cQ, 6, .inr (.inr (.inr (.inr (pf)))))), (h0, .inr (1, [.ref h1, .ref h2, .int (zi ((n : Int))), .int (zi (th)), .int (zi (wc))])), (h1, .inl (cA, 12, .inl (zA (hs)))), (h2, .inl (cA, 12, .inl (zA (rs)))), (fr, .inr (0, [.long (zl (a)), .long (zl (b))])), (ou, .inl (cL, 1, .inr (.inl (zB (of)))))] sz)) 0 0 (va_A [(x0, .inr (2, [.ref pa, .int (zi ((pn : Int))), .ref ba, .int (zi ((bn : Int))), .ref ax, .ref ay, .int (zi ((ln : Int))), .ref sp, .ref ss, .int (zi ((sn : Int))), .ref vs, .ref fr])), (pa, .inl (cQ, 6, .inr (.inr (.inr (.inr (pf)))))), (h0, .inr (1, [.ref h1, .ref h2, .int (zi ((n : Int))), .int (zi (th)), .int (zi (wc))])), (h1, .inl (cA, 12, .inl (zA (hs)))), (h2, .inl (cA, 12, .inl (zA (rs)))), (fr, .inr (0, [.long (zl (a)), .long (zl (b))])), (ou, .inl (cL, 1, .inr (.inl (zB (of)))))] sz) := by
  refine va_MetW (cc := cL_volume) (maxL := 6) (ret := (Option.some Jvm.ClassFile.FieldType.int)) (hh := [((0 : Nat), (11 : Nat), (14 : Nat), (19 : Nat))]) (by decide) rfl ?_
  intro p e s m args below meth c s₁ B hml hv
  obtain ⟨hargs, hsz, hP, hK, hD0, hXA⟩ := hv
  have hx := B.exec
  have hb := B.bytes
  have hr := B.returns
  have hts := atoms_spec (ws := Cond.codeWith yL_volume cL_volume 6 (Option.some Jvm.ClassFile.FieldType.int) [((0 : Nat), (11 : Nat), (14 : Nat), (19 : Nat))] :: gw) B.pre
  have hg : ∀ w ∈ gw, w.before args s = true := fun w h => hts w (List.mem_cons_of_mem _ h)
  have hown : s.vm.findClass RL = some m.cls := findClass_of_methodNamed B.named
  have hlocks := B.notSynchronized
  have htab := vx_table (x := yL_volume) B (hts _ List.mem_cons_self)
  subst hsz
  have hD := hD0.self (sz := s.heap.size)
  generalize hAe : va_A [(x0, .inr (2, [.ref pa, .int (zi ((pn : Int))), .ref ba, .int (zi ((bn : Int))), .ref ax, .ref ay, .int (zi ((ln : Int))), .ref sp, .ref ss, .int (zi ((sn : Int))), .ref vs, .ref fr])), (pa, .inl (cQ, 6, .inr (.inr (.inr (.inr (pf)))))), (h0, .inr (1, [.ref h1, .ref h2, .int (zi ((n : Int))), .int (zi (th)), .int (zi (wc))])), (h1, .inl (cA, 12, .inl (zA (hs)))), (h2, .inl (cA, 12, .inl (zA (rs)))), (fr, .inr (0, [.long (zl (a)), .long (zl (b))])), (ou, .inl (cL, 1, .inr (.inl (zB (of)))))] s.heap.size = A at hD ⊢
  have hA : ∀ q : Nat, s.heap.size ≤ q → A q := fun q h => by rw [← hAe]; exact Or.inr h
  show W p l e rh_volume_0 s m args below meth c s.heap [] 0 0 _ _
  have hl := lv_entry ([.ref x0, .int (zi ((j : Int))), .int (zi (to)), .int (zi (part)), .ref ou]) (n := 6) (Nat.le_of_ble_eq_true rfl)
  rw [show entryFrame m args 6 = entryFrame m ([.ref x0, .int (zi ((j : Int))), .int (zi (to)), .int (zi (part)), .ref ou] : List Value).toArray 6 by rw [hargs], lg_entry_eq]
  generalize (lg_sl ([.ref x0, .int (zi ((j : Int))), .int (zi (to)), .int (zi (part)), .ref ou]) ++ List.replicate (6 - (lg_sl ([.ref x0, .int (zi ((j : Int))), .int (zi (to)), .int (zi (part)), .ref ou])).length) Slot.unset).toArray = ls at hl ⊢
  have hl : lv_has ls 6 [(0, .ref x0), (1, .int (zi ((j : Int)))), (2, .int (zi (to))), (3, .int (zi (part))), (4, .ref ou)] := hl
  refine lv_aload hx hb dL_volume_0 (lv_at hl 4 rfl) ?_
  refine lv_iconst (v := zi (0)) hx hb dL_volume_2 rfl ?_
  refine lv_aload_n hx hb dL_volume_3 rfl (lv_at hl 0 rfl) ?_
  refine lv_iload_n hx hb dL_volume_4 rfl (lv_at hl 1 rfl) ?_
  refine lv_iload_n hx hb dL_volume_5 rfl (lv_at hl 2 rfl) ?_
  refine lv_iload_n hx hb dL_volume_6 rfl (lv_at hl 3 rfl) ?_
  obtain ⟨H, hHe⟩ : ∃ H : Heap, H = s.heap := ⟨_, rfl⟩
  obtain ⟨locs, hlc⟩ : ∃ x : List Loc, x = [] := ⟨_, rfl⟩
  have hS : va_S A s.heap H locs := by rw [hHe, hlc]; exact va_S.rf
  have hP : va_P (dC, dI) vwCl [(x0, .inr (2, [.ref pa, .int (zi ((pn : Int))), .ref ba, .int (zi ((bn : Int))), .ref ax, .ref ay, .int (zi ((ln : Int))), .ref sp, .ref ss, .int (zi ((sn : Int))), .ref vs, .ref fr])), (pa, .inl (cQ, 6, .inr (.inr (.inr (.inr (pf)))))), (h0, .inr (1, [.ref h1, .ref h2, .int (zi ((n : Int))), .int (zi (th)), .int (zi (wc))])), (h1, .inl (cA, 12, .inl (zA (hs)))), (h2, .inl (cA, 12, .inl (zA (rs)))), (fr, .inr (0, [.long (zl (a)), .long (zl (b))])), (ou, .inl (cL, 1, .inr (.inl (zB (of)))))] H := by rw [hHe]; exact hP
  rw [← hHe, ← hlc]
  refine wrV (As := [.int (zi ((j : Int))), .int (zi (to)), .int (zi (part))]) (rest := [.int (zi (0)), .ref ou]) (n := 3) (ws' := [(x0, .inr (2, [.ref pa, .int (zi ((pn : Int))), .ref ba, .int (zi ((bn : Int))), .ref ax, .ref ay, .int (zi ((ln : Int))), .ref sp, .ref ss, .int (zi ((sn : Int))), .ref vs, .ref fr])), (pa, .inl (cQ, 6, .inr (.inr (.inr (.inr (pf)))))), (h0, .inr (1, [.ref h1, .ref h2, .int (zi ((n : Int))), .int (zi (th)), .int (zi (wc))])), (h1, .inl (cA, 12, .inl (zA (hs)))), (h2, .inl (cA, 12, .inl (zA (rs)))), (fr, .inr (0, [.long (zl ((((p_sum hs rs 0 0 to (n - 1)).1 : Nat) : Int))), .long (zl ((((p_sum hs rs 0 0 to (n - 1)).2 : Nat) : Int)))])), (ou, .inl (cL, 1, .inr (.inl (zB (of)))))]) hx hb hml hown hg (c_volume l dC dI H.size x0 pa ba ax ay sp ss vs fr pn bn ln sn cQ pf h0 h1 h2 cA n th wc hs rs j a b to part hn hH hR hj hf h_to hp9 hok) (gwV wl_L_31 wm_X2_volume we_X2_volume wi_X2 wc_X2_volume) rfl rfl (by decide +kernel) ⟨(Nat.le_of_ble_eq_true rfl), (Nat.le_of_ble_eq_true rfl)⟩ (hK.sub [0, 1] rfl) hP hD hS hA [0, 1, 2, 3, 4, 5] rfl (by decide) [(true, 0), (true, 1), (true, 2), (true, 3), (true, 4), (true, 5), (false, 6)] rfl (by decide) rfl 0 rfl rfl rfl rfl hl.1 rfl (Nat.le_of_ble_eq_true rfl) dL_volume_7 ⟨Nat.zero_le _, Nat.zero_le _⟩ (fun H locs hP hD hS => ?_)
  refine zz_last hx hb hK hP hD hS 6 2 rfl rfl (0) (by omega) (by omega) (by decide) dL_volume_10 (fun H locs hP hD hS => ?_)
  refine lv_goto (tgt := 18) hx hb dL_volume_11 (by decide) ?_
  refine lv_iconst (v := zi (0)) hx hb dL_volume_18 rfl ?_
  exact nw_i hx hb hr hlocks rfl (F := (fun w9 => w9 = [(x0, .inr (2, [.ref pa, .int (zi ((pn : Int))), .ref ba, .int (zi ((bn : Int))), .ref ax, .ref ay, .int (zi ((ln : Int))), .ref sp, .ref ss, .int (zi ((sn : Int))), .ref vs, .ref fr])), (pa, .inl (cQ, 6, .inr (.inr (.inr (.inr (pf)))))), (h0, .inr (1, [.ref h1, .ref h2, .int (zi ((n : Int))), .int (zi (th)), .int (zi (wc))])), (h1, .inl (cA, 12, .inl (zA (hs)))), (h2, .inl (cA, 12, .inl (zA (rs)))), (fr, .inr (0, [.long (zl ((((p_sum hs rs 0 0 to (n - 1)).1 : Nat) : Int))), .long (zl ((((p_sum hs rs 0 0 to (n - 1)).2 : Nat) : Int)))])), (ou, .inl (cL, 1, .inr (.inl (zB (zupd of (0) ((if part = 0 then (((p_sum hs rs 0 0 to (n - 1)).1 : Nat) : Int) else (((p_sum hs rs 0 0 to (n - 1)).2 : Nat) : Int))))))))])) rfl hP hD hS dL_volume_19
abbrev rh_volume_1 : Room := { frames := 9, cells := 1, slots := 6, locals := 200 }
set_option maxHeartbeats 4000000 in
set_option maxRecDepth 100000 in
theorem h_t_volume_p (l : Launch) (hl0 : l.stackTraces = false) (dC : Nat → ClassId) (dI : Nat → Nat → Nat) (sz : Nat) (x0 pa ba ax ay sp ss vs fr : Nat) (pn bn ln sn : Nat) (cQ : ClassId) (pf : Nat → Option Nat) (i h part : Int) (hi : -2147483648 ≤ i ∧ i < 2147483648) (hbad : i < 0 ∨ 6 ≤ i ∨ pf i.toNat = none) (ou : Nat) (cL : ClassId) (of : Nat → Int) : Met l yL_volume (Cond.codeWith yL_volume cL_volume 6 (Option.some Jvm.ClassFile.FieldType.int) [((0 : Nat), (11 : Nat), (14 : Nat), (19 : Nat))] :: gw) rh_volume_1 (PcH [.ref x0, .int (zi (i)), .int (zi (h)), .int (zi (part)), .ref ou] (dC, dI) vwCl [(x0, .inr (2, [.ref pa, .int (zi ((pn : Int))), .ref ba, .int (zi ((bn : Int))), .ref ax, .ref ay, .int (zi ((ln : Int))), .ref sp, .ref ss, .int (zi ((sn : Int))), .ref vs, .ref fr])), (pa, .inl (cQ, 6, .inr (.inr (.inr (.inr (pf)))))), (ou, .inl (cL, 1, .inr (.inl (zB (of)))))] [(cQ, .object "PotVolumes$Profile"), (cL, .long)] sz) (NwQ (some (.int (zi (1)))) (dC, dI) vwCl (fun w9 => w9 = [(x0, .inr (2, [.ref pa, .int (zi ((pn : Int))), .ref ba, .int (zi ((bn : Int))), .ref ax, .ref ay, .int (zi ((ln : Int))), .ref sp, .ref ss, .int (zi ((sn : Int))), .ref vs, .ref fr])), (pa, .inl (cQ, 6, .inr (.inr (.inr (.inr (pf)))))), (ou, .inl (cL, 1, .inr (.inl (zB (of)))))]) (va_A [(x0, .inr (2, [.ref pa, .int (zi ((pn : Int))), .ref ba, .int (zi ((bn : Int))), .ref ax, .ref ay, .int (zi ((ln : Int))), .ref sp, .ref ss, .int (zi ((sn : Int))), .ref vs, .ref fr])), (pa, .inl (cQ, 6, .inr (.inr (.inr (.inr (pf)))))), (ou, .inl (cL, 1, .inr (.inl (zB (of)))))] sz)) 1 6 (va_A [(x0, .inr (2, [.ref pa, .int (zi ((pn : Int))), .ref ba, .int (zi ((bn : Int))), .ref ax, .ref ay, .int (zi ((ln : Int))), .ref sp, .ref ss, .int (zi ((sn : Int))), .ref vs, .ref fr])), (pa, .inl (cQ, 6, .inr (.inr (.inr (.inr (pf)))))), (ou, .inl (cL, 1, .inr (.inl (zB (of)))))] sz) := by
  refine va_MetW (cc := cL_volume) (maxL := 6) (ret := (Option.some Jvm.ClassFile.FieldType.int)) (hh := [((0 : Nat), (11 : Nat), (14 : Nat), (19 : Nat))]) (by decide) rfl ?_
  intro p e s m args below meth c s₁ B hml hv
  obtain ⟨hargs, hsz, hP, hK, hD0, hXA⟩ := hv
  have hx := B.exec
  have hb := B.bytes
  have hr := B.returns
  have hts := atoms_spec (ws := Cond.codeWith yL_volume cL_volume 6 (Option.some Jvm.ClassFile.FieldType.int) [((0 : Nat), (11 : Nat), (14 : Nat), (19 : Nat))] :: gw) B.pre
  have hg : ∀ w ∈ gw, w.before args s = true := fun w h => hts w (List.mem_cons_of_mem _ h)
  have hown : s.vm.findClass RL = some m.cls := findClass_of_methodNamed B.named
  have hlocks := B.notSynchronized
  have htab := vx_table (x := yL_volume) B (hts _ List.mem_cons_self)
  subst hsz
  have hD := hD0.self (sz := s.heap.size)
  generalize hAe : va_A [(x0, .inr (2, [.ref pa, .int (zi ((pn : Int))), .ref ba, .int (zi ((bn : Int))), .ref ax, .ref ay, .int (zi ((ln : Int))), .ref sp, .ref ss, .int (zi ((sn : Int))), .ref vs, .ref fr])), (pa, .inl (cQ, 6, .inr (.inr (.inr (.inr (pf)))))), (ou, .inl (cL, 1, .inr (.inl (zB (of)))))] s.heap.size = A at hD ⊢
  have hA : ∀ q : Nat, s.heap.size ≤ q → A q := fun q h => by rw [← hAe]; exact Or.inr h
  show W p l e rh_volume_1 s m args below meth c s.heap [] 0 0 _ _
  have hl := lv_entry ([.ref x0, .int (zi (i)), .int (zi (h)), .int (zi (part)), .ref ou]) (n := 6) (Nat.le_of_ble_eq_true rfl)
  rw [show entryFrame m args 6 = entryFrame m ([.ref x0, .int (zi (i)), .int (zi (h)), .int (zi (part)), .ref ou] : List Value).toArray 6 by rw [hargs], lg_entry_eq]
  generalize (lg_sl ([.ref x0, .int (zi (i)), .int (zi (h)), .int (zi (part)), .ref ou]) ++ List.replicate (6 - (lg_sl ([.ref x0, .int (zi (i)), .int (zi (h)), .int (zi (part)), .ref ou])).length) Slot.unset).toArray = ls at hl ⊢
  have hl : lv_has ls 6 [(0, .ref x0), (1, .int (zi (i))), (2, .int (zi (h))), (3, .int (zi (part))), (4, .ref ou)] := hl
  refine lv_aload hx hb dL_volume_0 (lv_at hl 4 rfl) ?_
  refine lv_iconst (v := zi (0)) hx hb dL_volume_2 rfl ?_
  refine lv_aload_n hx hb dL_volume_3 rfl (lv_at hl 0 rfl) ?_
  refine lv_iload_n hx hb dL_volume_4 rfl (lv_at hl 1 rfl) ?_
  refine lv_iload_n hx hb dL_volume_5 rfl (lv_at hl 2 rfl) ?_
  refine lv_iload_n hx hb dL_volume_6 rfl (lv_at hl 3 rfl) ?_
  refine thKV (As := [.int (zi (i)), .int (zi (h)), .int (zi (part))]) (rest := [.int (zi (0)), .ref ou]) (n := 3) hx hb hml hown hg (t_volume_p l hl0 dC dI x0 pa ba ax ay sp ss vs fr pn bn ln sn cQ pf i h part hi hbad) (gwV wl_L_31 wm_X2_volume we_X2_volume wi_X2 wc_X2_volume) rfl rfl (by decide +kernel) ⟨(Nat.le_of_ble_eq_true rfl), (Nat.le_of_ble_eq_true rfl)⟩ (hK.sub [0] rfl) (hP.sub [0, 1] rfl) hXA.1 0 rfl rfl rfl rfl hl.1 rfl (Nat.le_of_ble_eq_true rfl) dL_volume_7 ⟨(Nat.le_of_ble_eq_true rfl), (Nat.le_of_ble_eq_true rfl)⟩ (fun q9 ce H1 locs1 hcell hcv hcl hS0 => ?_)
  refine vx_catch (E := KI) (name := KI) hown [] ⟨0, 11, 14, 19⟩ [] htab (fun z hz => by cases hz) (by decide) (by decide) (hg _ wl_L_19) (va_Nw.use rfl (hXA.1.1 KI (by decide))) hcell hcv hcl ?_
  refine lv_astore (lv' := [(5, .ref q9), (0, .ref x0), (1, .int (zi (i))), (2, .int (zi (h))), (3, .int (zi (part))), (4, .ref ou)]) hx hb dL_volume_14 hl (by decide) rfl (fun ls hl => ?_)
  refine lv_iconst (v := zi (1)) hx hb dL_volume_16 rfl ?_
  exact nw_i hx hb hr hlocks rfl (F := (fun w9 => w9 = [(x0, .inr (2, [.ref pa, .int (zi ((pn : Int))), .ref ba, .int (zi ((bn : Int))), .ref ax, .ref ay, .int (zi ((ln : Int))), .ref sp, .ref ss, .int (zi ((sn : Int))), .ref vs, .ref fr])), (pa, .inl (cQ, 6, .inr (.inr (.inr (.inr (pf)))))), (ou, .inl (cL, 1, .inr (.inl (zB (of)))))])) rfl (thP hP hS0) hD (thS0 hS0) dL_volume_17
set_option maxHeartbeats 4000000 in
set_option maxRecDepth 100000 in
theorem h_t_volume_w (l : Launch) (hl0 : l.stackTraces = false) (dC : Nat → ClassId) (dI : Nat → Nat → Nat) (sz : Nat) (x0 pa ba ax ay sp ss vs fr : Nat) (pn bn ln sn : Nat) (cQ : ClassId) (pf : Nat → Option Nat) (h0 h1 h2 : Nat) (cA : ClassId) (n : Nat) (th wc : Int) (hs rs : Nat → Int) (j : Nat) (to part : Int) (hn : n ≤ 12) (hH : ∀ j, 0 ≤ hs j ∧ hs j ≤ 400) (hR : ∀ j, 0 ≤ rs j ∧ rs j ≤ 200) (hj : j < 6) (hf : pf j = some h0) (h_part : -2147483648 ≤ part ∧ part < 2147483648) (hbad : ¬ (part = 0 ∨ part = 1)) (ou : Nat) (cL : ClassId) (of : Nat → Int) : Met l yL_volume (Cond.codeWith yL_volume cL_volume 6 (Option.some Jvm.ClassFile.FieldType.int) [((0 : Nat), (11 : Nat), (14 : Nat), (19 : Nat))] :: gw) rh_volume_1 (PcH [.ref x0, .int (zi ((j : Int))), .int (zi (to)), .int (zi (part)), .ref ou] (dC, dI) vwCl [(x0, .inr (2, [.ref pa, .int (zi ((pn : Int))), .ref ba, .int (zi ((bn : Int))), .ref ax, .ref ay, .int (zi ((ln : Int))), .ref sp, .ref ss, .int (zi ((sn : Int))), .ref vs, .ref fr])), (pa, .inl (cQ, 6, .inr (.inr (.inr (.inr (pf)))))), (h0, .inr (1, [.ref h1, .ref h2, .int (zi ((n : Int))), .int (zi (th)), .int (zi (wc))])), (h1, .inl (cA, 12, .inl (zA (hs)))), (h2, .inl (cA, 12, .inl (zA (rs)))), (ou, .inl (cL, 1, .inr (.inl (zB (of)))))] [(cQ, .object "PotVolumes$Profile"), (cA, .int), (cL, .long)] sz) (NwQ (some (.int (zi (1)))) (dC, dI) vwCl (fun w9 => w9 = [(x0, .inr (2, [.ref pa, .int (zi ((pn : Int))), .ref ba, .int (zi ((bn : Int))), .ref ax, .ref ay, .int (zi ((ln : Int))), .ref sp, .ref ss, .int (zi ((sn : Int))), .ref vs, .ref fr])), (pa, .inl (cQ, 6, .inr (.inr (.inr (.inr (pf)))))), (h0, .inr (1, [.ref h1, .ref h2, .int (zi ((n : Int))), .int (zi (th)), .int (zi (wc))])), (h1, .inl (cA, 12, .inl (zA (hs)))), (h2, .inl (cA, 12, .inl (zA (rs)))), (ou, .inl (cL, 1, .inr (.inl (zB (of)))))]) (va_A [(x0, .inr (2, [.ref pa, .int (zi ((pn : Int))), .ref ba, .int (zi ((bn : Int))), .ref ax, .ref ay, .int (zi ((ln : Int))), .ref sp, .ref ss, .int (zi ((sn : Int))), .ref vs, .ref fr])), (pa, .inl (cQ, 6, .inr (.inr (.inr (.inr (pf)))))), (h0, .inr (1, [.ref h1, .ref h2, .int (zi ((n : Int))), .int (zi (th)), .int (zi (wc))])), (h1, .inl (cA, 12, .inl (zA (hs)))), (h2, .inl (cA, 12, .inl (zA (rs)))), (ou, .inl (cL, 1, .inr (.inl (zB (of)))))] sz)) 1 6 (va_A [(x0, .inr (2, [.ref pa, .int (zi ((pn : Int))), .ref ba, .int (zi ((bn : Int))), .ref ax, .ref ay, .int (zi ((ln : Int))), .ref sp, .ref ss, .int (zi ((sn : Int))), .ref vs, .ref fr])), (pa, .inl (cQ, 6, .inr (.inr (.inr (.inr (pf)))))), (h0, .inr (1, [.ref h1, .ref h2, .int (zi ((n : Int))), .int (zi (th)), .int (zi (wc))])), (h1, .inl (cA, 12, .inl (zA (hs)))), (h2, .inl (cA, 12, .inl (zA (rs)))), (ou, .inl (cL, 1, .inr (.inl (zB (of)))))] sz) := by
  refine va_MetW (cc := cL_volume) (maxL := 6) (ret := (Option.some Jvm.ClassFile.FieldType.int)) (hh := [((0 : Nat), (11 : Nat), (14 : Nat), (19 : Nat))]) (by decide) rfl ?_
  intro p e s m args below meth c s₁ B hml hv
  obtain ⟨hargs, hsz, hP, hK, hD0, hXA⟩ := hv
  have hx := B.exec
  have hb := B.bytes
  have hr := B.returns
  have hts := atoms_spec (ws := Cond.codeWith yL_volume cL_volume 6 (Option.some Jvm.ClassFile.FieldType.int) [((0 : Nat), (11 : Nat), (14 : Nat), (19 : Nat))] :: gw) B.pre
  have hg : ∀ w ∈ gw, w.before args s = true := fun w h => hts w (List.mem_cons_of_mem _ h)
  have hown : s.vm.findClass RL = some m.cls := findClass_of_methodNamed B.named
  have hlocks := B.notSynchronized
  have htab := vx_table (x := yL_volume) B (hts _ List.mem_cons_self)
  subst hsz
  have hD := hD0.self (sz := s.heap.size)
  generalize hAe : va_A [(x0, .inr (2, [.ref pa, .int (zi ((pn : Int))), .ref ba, .int (zi ((bn : Int))), .ref ax, .ref ay, .int (zi ((ln : Int))), .ref sp, .ref ss, .int (zi ((sn : Int))), .ref vs, .ref fr])), (pa, .inl (cQ, 6, .inr (.inr (.inr (.inr (pf)))))), (h0, .inr (1, [.ref h1, .ref h2, .int (zi ((n : Int))), .int (zi (th)), .int (zi (wc))])), (h1, .inl (cA, 12, .inl (zA (hs)))), (h2, .inl (cA, 12, .inl (zA (rs)))), (ou, .inl (cL, 1, .inr (.inl (zB (of)))))] s.heap.size = A at hD ⊢
  have hA : ∀ q : Nat, s.heap.size ≤ q → A q := fun q h => by rw [← hAe]; exact Or.inr h
  show W p l e rh_volume_1 s m args below meth c s.heap [] 0 0 _ _
  have hl := lv_entry ([.ref x0, .int (zi ((j : Int))), .int (zi (to)), .int (zi (part)), .ref ou]) (n := 6) (Nat.le_of_ble_eq_true rfl)
  rw [show entryFrame m args 6 = entryFrame m ([.ref x0, .int (zi ((j : Int))), .int (zi (to)), .int (zi (part)), .ref ou] : List Value).toArray 6 by rw [hargs], lg_entry_eq]
  generalize (lg_sl ([.ref x0, .int (zi ((j : Int))), .int (zi (to)), .int (zi (part)), .ref ou]) ++ List.replicate (6 - (lg_sl ([.ref x0, .int (zi ((j : Int))), .int (zi (to)), .int (zi (part)), .ref ou])).length) Slot.unset).toArray = ls at hl ⊢
  have hl : lv_has ls 6 [(0, .ref x0), (1, .int (zi ((j : Int)))), (2, .int (zi (to))), (3, .int (zi (part))), (4, .ref ou)] := hl
  refine lv_aload hx hb dL_volume_0 (lv_at hl 4 rfl) ?_
  refine lv_iconst (v := zi (0)) hx hb dL_volume_2 rfl ?_
  refine lv_aload_n hx hb dL_volume_3 rfl (lv_at hl 0 rfl) ?_
  refine lv_iload_n hx hb dL_volume_4 rfl (lv_at hl 1 rfl) ?_
  refine lv_iload_n hx hb dL_volume_5 rfl (lv_at hl 2 rfl) ?_
  refine lv_iload_n hx hb dL_volume_6 rfl (lv_at hl 3 rfl) ?_
  refine thKV (As := [.int (zi ((j : Int))), .int (zi (to)), .int (zi (part))]) (rest := [.int (zi (0)), .ref ou]) (n := 3) hx hb hml hown hg (t_volume_w l hl0 dC dI x0 pa ba ax ay sp ss vs fr pn bn ln sn cQ pf h0 h1 h2 cA n th wc hs rs j to part hn hH hR hj hf h_part hbad) (gwV wl_L_31 wm_X2_volume we_X2_volume wi_X2 wc_X2_volume) rfl rfl (by decide +kernel) ⟨(Nat.le_of_ble_eq_true rfl), (Nat.le_of_ble_eq_true rfl)⟩ (hK.sub [0, 1] rfl) (hP.sub [0, 1, 2, 3, 4] rfl) hXA.1 0 rfl rfl rfl rfl hl.1 rfl (Nat.le_of_ble_eq_true rfl) dL_volume_7 ⟨(Nat.le_of_ble_eq_true rfl), (Nat.le_of_ble_eq_true rfl)⟩ (fun q9 ce H1 locs1 hcell hcv hcl hS0 => ?_)
  refine vx_catch (E := KI) (name := KI) hown [] ⟨0, 11, 14, 19⟩ [] htab (fun z hz => by cases hz) (by decide) (by decide) (hg _ wl_L_19) (va_Nw.use rfl (hXA.1.1 KI (by decide))) hcell hcv hcl ?_
  refine lv_astore (lv' := [(5, .ref q9), (0, .ref x0), (1, .int (zi ((j : Int)))), (2, .int (zi (to))), (3, .int (zi (part))), (4, .ref ou)]) hx hb dL_volume_14 hl (by decide) rfl (fun ls hl => ?_)
  refine lv_iconst (v := zi (1)) hx hb dL_volume_16 rfl ?_
  exact nw_i hx hb hr hlocks rfl (F := (fun w9 => w9 = [(x0, .inr (2, [.ref pa, .int (zi ((pn : Int))), .ref ba, .int (zi ((bn : Int))), .ref ax, .ref ay, .int (zi ((ln : Int))), .ref sp, .ref ss, .int (zi ((sn : Int))), .ref vs, .ref fr])), (pa, .inl (cQ, 6, .inr (.inr (.inr (.inr (pf)))))), (h0, .inr (1, [.ref h1, .ref h2, .int (zi ((n : Int))), .int (zi (th)), .int (zi (wc))])), (h1, .inl (cA, 12, .inl (zA (hs)))), (h2, .inl (cA, 12, .inl (zA (rs)))), (ou, .inl (cL, 1, .inr (.inl (zB (of)))))])) rfl (thP hP hS0) hD (thS0 hS0) dL_volume_17
