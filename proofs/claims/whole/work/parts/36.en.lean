theorem lt1 {w : Cond} {k : Nat} (h : tables_1_1[k]? = some w) : w ∈ lw_tbl := List.mem_append_right _ (show w ∈ tables_1 from (List.mem_append_left _ (List.mem_of_getElem? h)))
theorem lt2 {w : Cond} {k : Nat} (h : tables_1_2[k]? = some w) : w ∈ lw_tbl := List.mem_append_right _ (show w ∈ tables_1 from (List.mem_append_right _ (List.mem_append_left _ (List.mem_of_getElem? h))))
theorem lt3 {w : Cond} {k : Nat} (h : tables_1_3[k]? = some w) : w ∈ lw_tbl := List.mem_append_right _ (show w ∈ tables_1 from (List.mem_append_right _ (List.mem_append_right _ (List.mem_append_left _ (List.mem_of_getElem? h)))))
theorem lt4 {w : Cond} {k : Nat} (h : tables_1_4[k]? = some w) : w ∈ lw_tbl := List.mem_append_right _ (show w ∈ tables_1 from (List.mem_append_right _ (List.mem_append_right _ (List.mem_append_right _ (List.mem_of_getElem? h)))))
theorem xs_at {args : Array Value} {s : State} {c2 : ClassId} {k : Nat} {tx : String} (hown : s.vm.findClass "PotVolumes" = some c2) (h : (Cond.stringRef "PotVolumes" k tx).before args s = true) : ∃ (tx : String) (a : Nat), vk_R "PotVolumes" k tx a s := by
  obtain ⟨_, _, _, a, _, _, _, _, _, hev⟩ := Cond.stringRef_spec hown h
  exact ⟨tx, a, vk_R.of h hev⟩
set_option maxRecDepth 20000 in
theorem xE_at {args : Array Value} {s : State} {c2 : ClassId} (hown : s.vm.findClass "PotVolumes" = some c2) (hts : ∀ w ∈ lw_tbl, w.before args s = true) (hU : (Cond.isRef (.static Bundle.tN "UNASSIGNED_STACK" Bundle.steD)).before args s = true) (hN : (Cond.isRef (.static Bundle.tN "SUPPRESSED_SENTINEL" Bundle.listD)).before args s = true) : xE s :=
  ⟨(List.forall_mem_cons.mpr ⟨va_Nw.of rfl (hts _ (lt1 (k := 193) rfl)), List.forall_mem_cons.mpr ⟨va_Nw.of rfl (hts _ (lt1 (k := 209) rfl)), List.forall_mem_cons.mpr ⟨va_Nw.of rfl (hts _ (lt1 (k := 87) rfl)), fun _ h => absurd h List.not_mem_nil⟩⟩⟩),
   (List.forall_mem_cons.mpr ⟨va_Nw.of rfl (hts _ (lt1 (k := 89) rfl)), List.forall_mem_cons.mpr ⟨va_Nw.of rfl (hts _ (lt1 (k := 91) rfl)), List.forall_mem_cons.mpr ⟨va_Nw.of rfl (hts _ (lt1 (k := 93) rfl)), fun _ h => absurd h List.not_mem_nil⟩⟩⟩),
   (List.forall_mem_cons.mpr ⟨xs_at hown (hts _ (lt1 (k := 126) rfl)), List.forall_mem_cons.mpr ⟨xs_at hown (hts _ (lt1 (k := 200) rfl)), List.forall_mem_cons.mpr ⟨xs_at hown (hts _ (lt1 (k := 216) rfl)), List.forall_mem_cons.mpr ⟨xs_at hown (hts _ (lt1 (k := 223) rfl)), List.forall_mem_cons.mpr ⟨xs_at hown (hts _ (lt1 (k := 228) rfl)), List.forall_mem_cons.mpr ⟨xs_at hown (hts _ (lt2 (k := 8) rfl)), List.forall_mem_cons.mpr ⟨xs_at hown (hts _ (lt2 (k := 9) rfl)), List.forall_mem_cons.mpr ⟨xs_at hown (hts _ (lt2 (k := 114) rfl)), List.forall_mem_cons.mpr ⟨xs_at hown (hts _ (lt2 (k := 156) rfl)), List.forall_mem_cons.mpr ⟨xs_at hown (hts _ (lt2 (k := 169) rfl)), List.forall_mem_cons.mpr ⟨xs_at hown (hts _ (lt2 (k := 170) rfl)), List.forall_mem_cons.mpr ⟨xs_at hown (hts _ (lt2 (k := 185) rfl)), List.forall_mem_cons.mpr ⟨xs_at hown (hts _ (lt2 (k := 186) rfl)), List.forall_mem_cons.mpr ⟨xs_at hown (hts _ (lt2 (k := 198) rfl)), List.forall_mem_cons.mpr ⟨xs_at hown (hts _ (lt2 (k := 234) rfl)), List.forall_mem_cons.mpr ⟨xs_at hown (hts _ (lt2 (k := 235) rfl)), List.forall_mem_cons.mpr ⟨xs_at hown (hts _ (lt3 (k := 22) rfl)), fun _ h => absurd h List.not_mem_nil⟩⟩⟩⟩⟩⟩⟩⟩⟩⟩⟩⟩⟩⟩⟩⟩⟩),
   vx_Zqof (hts _ (lt1 (k := 112) rfl)) (hts _ (lt1 (k := 4) rfl)) hU (fun _ _ h => h), vx_Zqof (hts _ (lt1 (k := 114) rfl)) (hts _ (lt1 (k := 4) rfl)) hN (fun _ _ h => h)⟩
theorem xN_at {args : Array Value} {s : State} (hts : ∀ w ∈ lw_tbl, w.before args s = true) : xN s := ⟨va_Nw.of rfl (hts _ (lt1 (k := 24) rfl)), va_Nw.of rfl (hts _ (lt1 (k := 154) rfl)), va_AO.of (hts _ (lt1 (k := 21) rfl))⟩
theorem nar_at {args : Array Value} {s : State} (hgv : (Jvm.Cond.and given_1 narrow_1).before args s = true) : ((Cond.isRef (.static Bundle.tN "UNASSIGNED_STACK" Bundle.steD)).before args s = true ∧ (Cond.isRef (.static Bundle.tN "SUPPRESSED_SENTINEL" Bundle.listD)).before args s = true) ∧ xC s := by
  have hs := flat_of_before _ hgv
  exact ⟨⟨hs _ (by decide +kernel), hs _ (by decide +kernel)⟩, va_Nc.of (hs _ (by decide +kernel)), va_Nc.of (hs _ (by decide +kernel)), va_Nc.of (hs _ (by decide +kernel))⟩
theorem arr_at {args : Array Value} {s : State} {ty : FieldType} (hty : ∀ (U : State) (cA : ClassId), U.vm.findClass ("[" ++ ty.toString) = some cA → va_RA U cA ty) (h : (Cond.arrayClass ty).before args s = true) : ∃ cA : ClassId, ArrOfT s cA ty ∧ va_RA s cA ty := by
  obtain ⟨c, k, comp, h1, h2, h3⟩ := Cond.arrayClass_spec h
  exact ⟨c, fun n z => ⟨fun k h => (by cases h), k, h2, comp, h3⟩, hty s c h1⟩
theorem arr_over {C : String} {s : State} (h : va_AO C s) : ∃ cA : ClassId, ArrOfT s cA (.object C) ∧ va_RA s cA (.object C) := by
  obtain ⟨comp, c, k, h1, h2, h3, h4, h5⟩ := Cond.arrayOver_spec h
  exact ⟨c, fun n z => ⟨fun k h => (by cases h), k, h3, comp, h4⟩, k, comp, h3, h4, h1, h5⟩
theorem Inv.zero : Inv [] 0 0 0 0 (fun _ => none) (fun _ => 0) (fun _ => 0) (fun _ => 0) (fun _ => 0) (fun _ => 0) (fun _ => 0) (fun _ => 0) (fun _ => 0) (fun _ => 0) (fun _ => 0) (fun _ => 0) :=
  ⟨⟨rfl, by decide, fun j => rfl, fun j r h => by simp at h, fun j _ _ => ⟨rfl, rfl, rfl, fun _ _ => rfl, fun _ _ => rfl⟩⟩,
   ⟨by decide, fun _ => ⟨Int.le_refl _, by show (0 : Int) ≤ 1000000000; decide⟩⟩,
   ⟨by decide, fun _ => ⟨by show (-200 : Int) ≤ 0; decide, by show (0 : Int) ≤ 200; decide⟩, fun _ => ⟨by show (-200 : Int) ≤ 0; decide, by show (0 : Int) ≤ 200; decide⟩⟩,
   ⟨by decide, fun _ => ⟨Int.le_refl _, by show (0 : Int) ≤ 5; decide⟩, fun _ => ⟨Int.le_refl _, by show (0 : Int) ≤ 1000; decide⟩, fun _ => ⟨Int.le_refl _, by show (0 : Int) ≤ 1000; decide⟩⟩⟩
def R_law : String := "PotVolumesLaw"
def lw_P (b : Addr) (xs : List Int32) (args : Array Value) (s : State) : Prop := args = #[.ref b] ∧ s.IntsAt b xs ∧ xs.length ≤ 2048 ∧ (Jvm.Cond.and given_1 narrow_1).before args s = true
def lw_Q (_ : Array Value) (s : State) (o : Outcome) (t : State) : Prop := o = .returned (some (.int 1)) ∧ Framed s o t [] 601024 7293033
def lw_Z (below : List Frame) (a : Array Value) (s : State) : State → Prop := fun t => ∃ o, t.status = .running ∧ Ended t below o ∧ lw_Q a s o t
/-- the law's own end, with 1 on the stack, nothing written that was there before, its room as the claim has it -/
theorem lw_ret {p : Program} {l : Launch} {e : Env} {s : State} {m : MethodId} {below : List Frame} {meth : Method} {c : Code} {b : Nat} (hx : p.tables.exec = Jvm.exec) (hb : c.code = code) (hr : meth.sig.returnType = ret) (hlocks : meth.locks = false) {pc : Nat} {H : Heap} {ls : Array Slot} (hdg : decode code pc = .ok (.ireturn, 1)) : W p l e room_1 s m #[Value.ref b] below meth c H [] 601024 7293033 (lw_Z below #[Value.ref b] s) (F0 m pc ls [.int 1]) := by
  intro T hT X
  obtain ⟨fs, hret, hrun, hended, hW, hframe⟩ := X.leave (v := some (.int 1)) (hlocks := hlocks) (fun h => by rw [hr] at h; cases h)
  have hmeth' : T.vm.method? m = some meth := X.method'
  refine ⟨T.setFrames fs, ?_, .returned (some (.int 1)), hrun, hended, rfl, ⟨_, rfl⟩, hW, hframe⟩
  jvm_step X.here [X.here.top, hx, hb, hdg, hmeth', hr, ret, narrow_b1]
  (try refine ⟨rfl, ?_⟩); (try refine ⟨rfl, ?_⟩)
  first | (intro acts; rw [hret _ acts rfl rfl rfl]) | rw [hret _ _ rfl rfl rfl]
  exact Steps.refl _
/-- what holds at the law's entry: the machine, the code, the tables' words (any of lw_tbl by 'hts w (by decide +kernel)'), the script of L ints xs at the cell b, what the Statement gives of the start (any of its parts by flat_of_before) -/
def lw_At (p : Program) (s : State) (m : MethodId) (meth : Method) (c : Code) (b L : Nat) (xs : Nat → Int32) : Prop :=
  p.tables.exec = Jvm.exec ∧ c.code = code ∧ meth.sig.returnType = ret ∧ c.maxLocals = 8 ∧ s.vm.findClass R_law = some m.cls ∧ (∀ w ∈ lw_tbl, w.before #[Value.ref b] s = true) ∧ va_X b L xs s s.heap ∧ b < s.heap.size ∧ meth.locks = false ∧ (Jvm.Cond.and given_1 narrow_1).before #[Value.ref b] s = true
