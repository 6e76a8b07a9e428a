def QF : Array Value → State → Outcome → State → Prop := fun _ _ _ _ => False
def XK (K : String) : String → State → State → Prop := fun E st t => E = K ∧ va_F (fun _ => False) st t
abbrev ThM (l : Launch) (y : MethodName) (bytes : ByteArray) (maxL : Nat) (ret : Option FieldType) (rm : Room) (Pc : Array Value → State → Prop) (K : String) : Prop := vx_Met l y (Cond.code y bytes maxL ret :: gw) rm Pc QF (XK K) 1 6 (fun _ => False)
abbrev nmE : List String := ["java/lang/RuntimeException", "java/lang/Exception"]
abbrev KI : String := "java/lang/IndexOutOfBoundsException"
abbrev KA : String := "java/lang/IllegalArgumentException"
abbrev KS : String := "java/lang/IllegalStateException"
abbrev xstr : List Nat := [47, 186, 59, 62, 68, 188, 83, 114, 135, 141, 146, 148, 153, 190, 171, 176, 184]
def xE (U : State) : Prop :=
  (∀ C ∈ [KI, KA, KS], va_Nw (.castable C C) U) ∧ (∀ C ∈ ["java/lang/RuntimeException", "java/lang/Exception", "java/lang/Throwable"], va_Nw (.declares ⟨C, "<init>", "(Ljava/lang/String;)V"⟩) U) ∧
  (∀ k ∈ xstr, ∃ (tx : String) (a : Nat), vk_R "PotVolumes" k tx a U) ∧
  vx_Zq Bundle.tN "UNASSIGNED_STACK" Bundle.steD (fun _ => False) U U.heap ∧ vx_Zq Bundle.tN "SUPPRESSED_SENTINEL" Bundle.listD (fun _ => False) U U.heap
theorem xE.to {s U : State} (h : xE s) (hW : s.WarmedH U.vm) (hk : ∀ q : Nat, q < s.heap.size → U.heap[q]? = s.heap[q]?) : xE U := by
  obtain ⟨h1, h2, h3, h4, h5⟩ := h
  refine ⟨fun C hC => va_Nw.warmC hW (h1 C hC), fun C hC => va_Nw.warmD hW (h2 C hC), fun k hk9 => ?_, ?_, ?_⟩
  · obtain ⟨tx, a, h⟩ := h3 k hk9
    exact ⟨tx, a, vk_R.warm hW h⟩
  · exact vx_Zq.moved hW.alike (h4.kept (fun a ha _ => hk a ha))
  · exact vx_Zq.moved hW.alike (h5.kept (fun a ha _ => hk a ha))
set_option maxRecDepth 20000 in
theorem xh_ot : (∀ w ∈ Cond.classLink "PotVolumes" 81 KI :: Cond.initialized KI :: vx_atS "PotVolumes" 85 KI nmE, vx_ot w = true) ∧ (∀ w ∈ Cond.classLink "PotVolumes" 57 KA :: Cond.initialized KA :: vx_atS "PotVolumes" 61 KA nmE, vx_ot w = true) ∧ (∀ w ∈ Cond.classLink "PotVolumes" 45 KS :: Cond.initialized KS :: vx_atS "PotVolumes" 49 KS nmE, vx_ot w = true) := by
  refine ⟨?_, ?_, ?_⟩ <;> decide +kernel
abbrev xB (K : String) : List Cond := [.castable K K, .declares ⟨"java/lang/RuntimeException", "<init>", "(Ljava/lang/String;)V"⟩, .declares ⟨"java/lang/Exception", "<init>", "(Ljava/lang/String;)V"⟩, .declares ⟨"java/lang/Throwable", "<init>", "(Ljava/lang/String;)V"⟩]
set_option maxRecDepth 20000 in
theorem xh_no : (∀ w ∈ (vx_atS "PotVolumes" 85 KI nmE).filter (fun w => !goodWord w), w ∈ xB KI) ∧ (∀ w ∈ (vx_atS "PotVolumes" 61 KA nmE).filter (fun w => !goodWord w), w ∈ xB KA) ∧ (∀ w ∈ (vx_atS "PotVolumes" 49 KS nmE).filter (fun w => !goodWord w), w ∈ xB KS) := by
  refine ⟨?_, ?_, ?_⟩ <;> decide +kernel
set_option maxRecDepth 20000 in
theorem xh_gI : ∀ w ∈ (vx_atS "PotVolumes" 85 KI nmE).filter goodWord, w ∈ gw := by decide +kernel
set_option maxRecDepth 20000 in
theorem xh_gA : ∀ w ∈ (vx_atS "PotVolumes" 61 KA nmE).filter goodWord, w ∈ gw := by decide +kernel
set_option maxRecDepth 20000 in
theorem xh_gS : ∀ w ∈ (vx_atS "PotVolumes" 49 KS nmE).filter goodWord, w ∈ gw := by decide +kernel
theorem xh_B {K : String} {args : Array Value} {s : State} (hE : xE s) (hK : K ∈ [KI, KA, KS]) : ∀ w ∈ xB K, w.before args s = true :=
  vx_c (va_Nw.use rfl (hE.1 K hK)) (vx_c (va_Nw.use rfl (hE.2.1 _ (by decide))) (vx_c (va_Nw.use rfl (hE.2.1 _ (by decide))) (vx_c (va_Nw.use rfl (hE.2.1 _ (by decide))) vx_n)))
theorem xh_I {args : Array Value} {s : State} (hg : ∀ w ∈ gw, w.before args s = true) (hE : xE s) : ∀ w ∈ vx_atS "PotVolumes" 85 KI nmE, w.before args s = true := vx_hat (fun w h => hg w (xh_gI w h)) xh_no.1 (xh_B hE (by decide))
theorem xh_A {args : Array Value} {s : State} (hg : ∀ w ∈ gw, w.before args s = true) (hE : xE s) : ∀ w ∈ vx_atS "PotVolumes" 61 KA nmE, w.before args s = true := vx_hat (fun w h => hg w (xh_gA w h)) xh_no.2.1 (xh_B hE (by decide))
theorem xh_S {args : Array Value} {s : State} (hg : ∀ w ∈ gw, w.before args s = true) (hE : xE s) : ∀ w ∈ vx_atS "PotVolumes" 49 KS nmE, w.before args s = true := vx_hat (fun w h => hg w (xh_gS w h)) xh_no.2.2 (xh_B hE (by decide))
/-- a start of a method that may throw -/
abbrev PcT (av : List Value) (D : va_G) (cl : List vw_C) (ws : va_W) (tys : List (ClassId × FieldType)) : Array Value → State → Prop := va_Pc av (fun U => va_P D cl ws U.heap ∧ va_K D cl tys U ∧ xE U)
abbrev PcE (av : List Value) : Array Value → State → Prop := va_Pc av (fun U => xE U)
section TH
variable {p : Program} {l : Launch} {e : Env} {R : Room} {s : State} {m : MethodId} {args : Array Value} {below : List Frame} {meth : Method} {c : Code} {H : Heap} {locs : List Loc} {cells slots : Nat} {Q : State → Prop} {pc : Nat} {ls : Array Slot} {rest st0 As : List Value} {cc bytes : ByteArray} {D : va_G} {cl : List vw_C} {ws : va_W} {tys : List (ClassId × FieldType)} {nL maxL idx n : Nat} {own C : String} {y : MethodName} {ret : Option FieldType} {rm : Room} {b : Nat}
theorem thr {K : String} {ik is ic : Nat} (hx : p.tables.exec = Jvm.exec) (hb : c.code = cc) (hl0 : l.stackTraces = false) (hown : s.vm.findClass RX2 = some m.cls) (hE : xE s) (hK : Bundle.fit K = true)
    (hk : (Cond.classLink "PotVolumes" ik K).before args s = true) (hini : (Cond.initialized K).before args s = true) (hs : is ∈ xstr) (hat : ∀ w ∈ vx_atS "PotVolumes" ic K nmE, w.before args s = true) (hgood : ∀ w ∈ Cond.classLink "PotVolumes" ik K :: Cond.initialized K :: vx_atS "PotVolumes" ic K nmE, vx_ot w = true)
    (hml : c.maxLocals = nL) (hsize : ls.size = nL) (d0 : decode cc pc = .ok (.new ik, 3)) (d3 : decode cc (pc + 3) = .ok (.dup, 1)) (d4 : decode cc (pc + 4) = .ok (.ldc is, 2)) (d6 : decode cc (pc + 6) = .ok (.invokespecial ic, 3)) (d9 : decode cc (pc + 9) = .ok (.athrow, 1))
    (hno : ∀ x ∈ c.exceptionTable.toList, False) (hlocks : meth.locks = false) (hRf : 5 < R.frames) (hRl : (rest.map fun v => v.category).sum + 82 ≤ R.locals) (hRc : 1 ≤ R.cells) (hRs : 6 ≤ R.slots) :
    W p l e R s m args below meth c s.heap [] 0 0 (vx_MQ below QF (XK K) args s 1 6 (fun _ => False)) (F0 m pc ls rest) := by
  obtain ⟨tx, sa, hstr⟩ := hE.2.2.1 is hs
  exact vx_throwS (A := fun _ => False) (names := nmE) hx hb hl0 hown hK (by decide +kernel) hk hini hstr hat hgood hE.2.2.2.1 hE.2.2.2.2 va_S.rf (hsize.trans hml.symm) d0 d3 d4 d6 d9 (fun x h => (hno x h).elim) hRf hRl (by omega) (by omega) hlocks
    (fun t hv h1 h2 => ⟨rfl, h1, fun q hq _ => h2 q hq⟩) (fun z h => by cases h) (by omega) (by omega)
theorem thGo {K : String} {Pc : Array Value → State → Prop} {av : Array Value} (hr : vx_Run p l e R s m args below meth c s.heap [] 0 0 1 6 (F0 m pc ls st0) rest (QF av) (XK K) (fun _ => False)) (hno : ∀ x ∈ c.exceptionTable.toList, False) (hlocks : meth.locks = false) :
    W p l e R s m args below meth c s.heap [] 0 0 (vx_MQ below QF (XK K) args s 1 6 (fun _ => False)) (F0 m pc ls st0) := by
  intro T hT X
  rcases hr T hT X with ⟨v, st₀, t, T', L, h0, X', hL, e1, e2, hq, st⟩ | ⟨q, st₀, t, T', L, E, ce, h0, X', hL, e1, e2, ⟨hEK, hF⟩, hce, hcv, hcl, st⟩
  · exact hq.elim
  · subst hEK
    have hF9 : va_F (fun _ => False) s t := ⟨by have := hF.1; rw [h0] at this; exact this, fun q hq hn => by have := hF.2 q (by rw [h0]; exact hq) hn; rw [h0] at this; exact this⟩
    obtain ⟨t2, a1, b1⟩ := vx_out (E := E) (ls := ls) (rest := rest) (pc := pc) (H := T'.heap) (Qc := QF) (XC := XK E) (free := fun _ => False) (mc := 1) (ms := 6) (fun x h => (hno x h).elim) hlocks (by rw [e1]; exact hce) hcv hcl (fun t3 h3 h4 => ⟨rfl, by rw [h3, e1]; exact hF9.1, fun q h5 h6 => by rw [h3, e1]; exact hF9.2 q h5 h6⟩) (fun z hz => hL z (by simpa using hz)) (Nat.le_refl _) (Nat.le_refl _) T' rfl X'
    exact ⟨t2, st.trans a1, b1⟩
theorem thV {K : String} (hx : p.tables.exec = Jvm.exec) (hb : c.code = cc) (hml : c.maxLocals = nL) (hown : s.vm.findClass own = some m.cls) (hg : ∀ w ∈ gw, w.before args s = true)
    (hM : ThM l y bytes maxL ret rm (PcT (.ref b :: As) D cl ws tys) K) (hG : GoodIn gw (wsV own idx C y (Cond.code y bytes maxL ret :: gw))) (hrc : rm.cells = 1) (hrs : rm.slots = 6)
    (hd : y.cls = C ∧ y.cls ≠ "java/lang/invoke/MethodHandle" ∧ y.cls ≠ "java/lang/invoke/VarHandle" ∧ (parseMethodDescriptor y.desc).map (fun d => d.parameters.length) = some n) (hR : rm.frames + 1 ≤ R.frames ∧ 8 + (maxL + 11) + rm.locals ≤ R.locals)
    (hK : va_K D cl tys s) (hP : va_P D cl ws s.heap) (hE : xE s) {ci : Nat} (q0 : Nat) {fs : List Value} {r : vw_C} (he : ws[q0]? = some (b, .inr (ci, fs))) (hc : cl[ci]? = some r) (hC : r.1 = C)
    (hn : As.length = n) (hsize : ls.size = nL) (hst : st0 = As.reverse ++ .ref b :: rest) (hW : (rest.map fun v => v.category).sum ≤ 8) (hdg : decode cc pc = .ok (.invokevirtual idx, 3)) (hf : 1 ≤ R.cells ∧ 6 ≤ R.slots) (hno : ∀ x ∈ c.exceptionTable.toList, False) (hlocks : meth.locks = false) :
    W p l e R s m args below meth c s.heap [] 0 0 (vx_MQ below QF (XK K) args s 1 6 (fun _ => False)) (F0 m pc ls st0) := by
  subst hst
  subst hC
  refine thGo (Pc := fun _ _ => True) (vx_runV (As := As) (rest := rest) ⟨hx, hb, hml, hown, hg⟩ hM (cwV n hg hG rfl hrc hrs hd hR) ⟨fun a U g mk q => ⟨q.1, q.2.1, va_K.moved (u := U) (U := U.calling g mk a) (Vm.Alike.refl U.vm) q.2.2.1, q.2.2.2.to (State.WarmedH.refl U) (fun _ _ => rfl)⟩, va_recv hK hP (ci := ci) (q0 := q0) hc he, fun U hU hW => ⟨rfl, by rw [hU]; exact hP, va_K.moved hW.alike hK, hE.to hW (fun q _ => by rw [hU])⟩⟩ rfl hn hsize rfl (lv_room hW) hdg (by omega)) hno hlocks
theorem thS {K : String} (hx : p.tables.exec = Jvm.exec) (hb : c.code = cc) (hml : c.maxLocals = nL) (hown : s.vm.findClass own = some m.cls) (hg : ∀ w ∈ gw, w.before args s = true)
    (hM : ThM l y bytes maxL ret rm (PcE As) K) (hG : GoodIn gw (wsS own idx y (Cond.code y bytes maxL ret :: gw))) (hrc : rm.cells = 1) (hrs : rm.slots = 6)
    (hd : y.cls = own ∧ y.cls ≠ "java/lang/invoke/MethodHandle" ∧ y.cls ≠ "java/lang/invoke/VarHandle" ∧ (parseMethodDescriptor y.desc).map (fun d => d.parameters.length) = some n) (hR : rm.frames + 1 ≤ R.frames ∧ 8 + (maxL + 11) + rm.locals ≤ R.locals)
    (hE : xE s) (hn : As.length = n) (hsize : ls.size = nL) (hst : st0 = As.reverse ++ rest) (hW : (rest.map fun v => v.category).sum ≤ 8) (hdg : decode cc pc = .ok (.invokestatic idx, 3)) (hf : 1 ≤ R.cells ∧ 6 ≤ R.slots) (hno : ∀ x ∈ c.exceptionTable.toList, False) (hlocks : meth.locks = false) :
    W p l e R s m args below meth c s.heap [] 0 0 (vx_MQ below QF (XK K) args s 1 6 (fun _ => False)) (F0 m pc ls st0) := by
  subst hst
  refine thGo (Pc := fun _ _ => True) (vx_runS (As := As) (rest := rest) ⟨hx, hb, hml, hown, hg⟩ hM (cwS n hg hG rfl hrc hrs hd hR) ⟨fun a U g mk q => ⟨q.1, q.2.to (State.WarmedH.refl U) (fun _ _ => rfl)⟩, fun U hU hW => ⟨rfl, hE.to hW (fun q _ => by rw [hU])⟩⟩ rfl hn hsize rfl (lv_room hW) hdg (by omega)) hno hlocks
theorem rd_v (hx : p.tables.exec = Jvm.exec) (hb : c.code = cc) (hr : meth.sig.returnType = none) (hlocks : meth.locks = false) (hdg : decode cc pc = .ok (.return_, 1)) : W p l e R s m args below meth c s.heap [] cells slots (MQ below (RdQ none) args s cells slots (fun _ => False)) (F0 m pc ls []) :=
  W.vret hx hb hr (fun t ht hW => ⟨rfl, ht⟩) (fun q h => by cases h) hdg hlocks
theorem rd_a {v : Nat} {C : String} (hx : p.tables.exec = Jvm.exec) (hb : c.code = cc) (hr : meth.sig.returnType = some (.object C)) (hlocks : meth.locks = false) (hdg : decode cc pc = .ok (.areturn, 1)) : W p l e R s m args below meth c s.heap [] cells slots (MQ below (RdQ (some (.ref v))) args s cells slots (fun _ => False)) (F0 m pc ls [.ref v]) :=
  W.aret hx hb hr (Or.inl ⟨_, rfl⟩) (Or.inr ⟨_, rfl⟩) (fun t ht hW => ⟨rfl, ht⟩) (fun q h => by cases h) hdg hlocks
theorem zz_rfS {o : Option Nat} {a : Nat} (h : o = some a) (k : W p l e R s m args below meth c H locs cells slots Q (F0 m pc ls (.ref a :: rest))) : W p l e R s m args below meth c H locs cells slots Q (F0 m pc ls (va_rf o :: rest)) := by
  subst h; exact k
theorem zz_rfN {o : Option Nat} (h : o = none) (k : W p l e R s m args below meth c H locs cells slots Q (F0 m pc ls (.null :: rest))) : W p l e R s m args below meth c H locs cells slots Q (F0 m pc ls (va_rf o :: rest)) := by
  subst h; exact k
end TH
