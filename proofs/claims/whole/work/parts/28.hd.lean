abbrev rh_curve_0 : Room := { frames := 9, cells := 0, slots := 0, locals := 200 }
set_option maxHeartbeats 4000000 in
set_option maxRecDepth 100000 in
theorem h_c_curve (l : Launch) (dC : Nat → ClassId) (dI : Nat → Nat → Nat) (sz : Nat) (x0 pa ba ax ay sp ss vs fr : Nat) (pn bn ln sn : Nat) (cA : ClassId) (xs ys : Nat → Int) (a b : Int) (hl3 : 3 ≤ ln ∧ ln ≤ 20) (hX : ∀ j, -200 ≤ xs j ∧ xs j ≤ 200) (hY : ∀ j, -200 ≤ ys j ∧ ys j ≤ 200) (ou : Nat) (cL : ClassId) (of : Nat → Int) : Met l yL_curve (Cond.codeWith yL_curve cL_curve 3 (Option.some Jvm.ClassFile.FieldType.int) [((0 : Nat), (8 : Nat), (11 : Nat), (13 : Nat))] :: gw) rh_curve_0 (PcH [.ref x0, .ref ou] (dC, dI) vwCl [(x0, .inr (2, [.ref pa, .int (zi ((pn : Int))), .ref ba, .int (zi ((bn : Int))), .ref ax, .ref ay, .int (zi ((ln : Int))), .ref sp, .ref ss, .int (zi ((sn : Int))), .ref vs, .ref fr])), (ax, .inl (cA, 20, .inl (zA (xs)))), (ay, .inl (cA, 20, .inl (zA (ys)))), (fr, .inr (0, [.long (zl (a)), .long (zl (b))])), (ou, .inl (cL, 1, .inr (.inl (zB (of)))))] [(cA, .int), (cL, .long)] sz) (NwQ (some (.int (zi (0)))) (dC, dI) vwCl (fun w9 => w9 = [(x0, .inr (2, [.ref pa, .int (zi ((pn : Int))), .ref ba, .int (zi ((bn : Int))), .ref ax, .ref ay, .int (zi ((ln : Int))), .ref sp, .ref ss, .int (zi ((sn : Int))), .ref vs, .ref fr])), (ax, .inl (cA, 20, .inl (zA (xs)))), (ay, .inl (cA, 20, .inl (zA (ys)))), (fr, .inr (0, [.long (zl ((((c_cir xs ys ln).1 : Nat) : Int))), .long (zl ((((c_cir xs ys ln).2 : Nat) : Int)))])), (ou, .inl (cL, 1, .inr (.inl (zB (zupd of (0) ((zi (((r_rt ((c_cir xs ys ln).1 / (c_cir xs ys ln).2) 27 0 : Nat) : Int))).toInt))))))]) (va_A [(x0, .inr (2, [.ref pa, .int (zi ((pn : Int))), .ref ba, .int (zi ((bn : Int))), .ref ax, .ref ay, .int (zi ((ln : Int))), .ref sp, .ref ss, .int (zi ((sn : Int))), .ref vs, .ref fr])), (ax, .inl (cA, 20, .inl (zA (xs)))), (ay, .inl (cA, 20, .inl (zA (ys)))), (fr, .inr (0, [.long (zl (a)), .long (zl (b))])), (ou, .inl (cL, 1, .inr (.inl (zB (of)))))] sz)) 0 0 (va_A [(x0, .inr (2, [.ref pa, .int (zi ((pn : Int))), .ref ba, .int (zi ((bn : Int))), .ref ax, .ref ay, .int (zi ((ln : Int))), .ref sp, .ref ss, .int (zi ((sn : Int))), .ref vs, .ref fr])), (ax, .inl (cA, 20, .inl (zA (xs)))), (ay, .inl (cA, 20, .inl (zA (ys)))), (fr, .inr (0, [.long (zl (a)), .long (zl (b))])), (ou, .inl (cL, 1, .inr (.inl (zB (of)))))] sz) := by
  refine va_MetW (cc := cL_curve) (maxL := 3) (ret := (Option.some Jvm.ClassFile.FieldType.int)) (hh := [((0 : Nat), (8 : Nat), (11 : Nat), (13 : Nat))]) (by decide) rfl ?_
  intro p e s m args below meth c s₁ B hml hv
  obtain ⟨hargs, hsz, hP, hK, hD0, hXA⟩ := hv
  have hx := B.exec
  have hb := B.bytes
  have hr := B.returns
  have hts := atoms_spec (ws := Cond.codeWith yL_curve cL_curve 3 (Option.some Jvm.ClassFile.FieldType.int) [((0 : Nat), (8 : Nat), (11 : Nat), (13 : Nat))] :: gw) B.pre
  have hg : ∀ w ∈ gw, w.before args s = true := fun w h => hts w (List.mem_cons_of_mem _ h)
  have hown : s.vm.findClass RL = some m.cls := findClass_of_methodNamed B.named
  have hlocks := B.notSynchronized
  have htab := vx_table (x := yL_curve) B (hts _ List.mem_cons_self)
  subst hsz
  have hD := hD0.self (sz := s.heap.size)
  generalize hAe : va_A [(x0, .inr (2, [.ref pa, .int (zi ((pn : Int))), .ref ba, .int (zi ((bn : Int))), .ref ax, .ref ay, .int (zi ((ln : Int))), .ref sp, .ref ss, .int (zi ((sn : Int))), .ref vs, .ref fr])), (ax, .inl (cA, 20, .inl (zA (xs)))), (ay, .inl (cA, 20, .inl (zA (ys)))), (fr, .inr (0, [.long (zl (a)), .long (zl (b))])), (ou, .inl (cL, 1, .inr (.inl (zB (of)))))] s.heap.size = A at hD ⊢
  have hA : ∀ q : Nat, s.heap.size ≤ q → A q := fun q h => by rw [← hAe]; exact Or.inr h
  show W p l e rh_curve_0 s m args below meth c s.heap [] 0 0 _ _
  have hl := lv_entry ([.ref x0, .ref ou]) (n := 3) (Nat.le_of_ble_eq_true rfl)
  rw [show entryFrame m args 3 = entryFrame m ([.ref x0, .ref ou] : List Value).toArray 3 by rw [hargs], lg_entry_eq]
  generalize (lg_sl ([.ref x0, .ref ou]) ++ List.replicate (3 - (lg_sl ([.ref x0, .ref ou])).length) Slot.unset).toArray = ls at hl ⊢
  have hl : lv_has ls 3 [(0, .ref x0), (1, .ref ou)] := hl
  refine lv_aload_n hx hb dL_curve_0 rfl (lv_at hl 1 rfl) ?_
  refine lv_iconst (v := zi (0)) hx hb dL_curve_1 rfl ?_
  refine lv_aload_n hx hb dL_curve_2 rfl (lv_at hl 0 rfl) ?_
  obtain ⟨H, hHe⟩ : ∃ H : Heap, H = s.heap := ⟨_, rfl⟩
  obtain ⟨locs, hlc⟩ : ∃ x : List Loc, x = [] := ⟨_, rfl⟩
  have hS : va_S A s.heap H locs := by rw [hHe, hlc]; exact va_S.rf
  have hP : va_P (dC, dI) vwCl [(x0, .inr (2, [.ref pa, .int (zi ((pn : Int))), .ref ba, .int (zi ((bn : Int))), .ref ax, .ref ay, .int (zi ((ln : Int))), .ref sp, .ref ss, .int (zi ((sn : Int))), .ref vs, .ref fr])), (ax, .inl (cA, 20, .inl (zA (xs)))), (ay, .inl (cA, 20, .inl (zA (ys)))), (fr, .inr (0, [.long (zl (a)), .long (zl (b))])), (ou, .inl (cL, 1, .inr (.inl (zB (of)))))] H := by rw [hHe]; exact hP
  rw [← hHe, ← hlc]
  refine wrV (As := []) (rest := [.int (zi (0)), .ref ou]) (n := 0) (ws' := [(x0, .inr (2, [.ref pa, .int (zi ((pn : Int))), .ref ba, .int (zi ((bn : Int))), .ref ax, .ref ay, .int (zi ((ln : Int))), .ref sp, .ref ss, .int (zi ((sn : Int))), .ref vs, .ref fr])), (ax, .inl (cA, 20, .inl (zA (xs)))), (ay, .inl (cA, 20, .inl (zA (ys)))), (fr, .inr (0, [.long (zl ((((c_cir xs ys ln).1 : Nat) : Int))), .long (zl ((((c_cir xs ys ln).2 : Nat) : Int)))])), (ou, .inl (cL, 1, .inr (.inl (zB (of)))))]) hx hb hml hown hg (c_curve l dC dI H.size x0 pa ba ax ay sp ss vs fr pn bn ln sn cA xs ys a b hl3 hX hY) (gwV wl_L_69 wm_X2_curve we_X2_curve wi_X2 wc_X2_curve) rfl rfl (by decide +kernel) ⟨(Nat.le_of_ble_eq_true rfl), (Nat.le_of_ble_eq_true rfl)⟩ (hK.sub [0] rfl) hP hD hS hA [0, 1, 2, 3] rfl (by decide) [(true, 0), (true, 1), (true, 2), (true, 3), (false, 4)] rfl (by decide) rfl 0 rfl rfl rfl rfl hl.1 rfl (Nat.le_of_ble_eq_true rfl) dL_curve_3 ⟨Nat.zero_le _, Nat.zero_le _⟩ (fun H locs hP hD hS => ?_)
  refine zz_i2lr hx hb dL_curve_6 ?_
  refine zz_last hx hb hK hP hD hS 4 1 rfl rfl (0) (by omega) (by omega) (by decide) dL_curve_7 (fun H locs hP hD hS => ?_)
  refine lv_goto (tgt := 14) hx hb dL_curve_8 (by decide) ?_
  refine lv_iconst (v := zi (0)) hx hb dL_curve_14 rfl ?_
  exact nw_i hx hb hr hlocks rfl (F := (fun w9 => w9 = [(x0, .inr (2, [.ref pa, .int (zi ((pn : Int))), .ref ba, .int (zi ((bn : Int))), .ref ax, .ref ay, .int (zi ((ln : Int))), .ref sp, .ref ss, .int (zi ((sn : Int))), .ref vs, .ref fr])), (ax, .inl (cA, 20, .inl (zA (xs)))), (ay, .inl (cA, 20, .inl (zA (ys)))), (fr, .inr (0, [.long (zl ((((c_cir xs ys ln).1 : Nat) : Int))), .long (zl ((((c_cir xs ys ln).2 : Nat) : Int)))])), (ou, .inl (cL, 1, .inr (.inl (zB (zupd of (0) ((zi (((r_rt ((c_cir xs ys ln).1 / (c_cir xs ys ln).2) 27 0 : Nat) : Int))).toInt))))))])) rfl hP hD hS dL_curve_15
abbrev rh_curve_1 : Room := { frames := 9, cells := 1, slots := 6, locals := 200 }
set_option maxHeartbeats 4000000 in
set_option maxRecDepth 100000 in
theorem h_t_curve_S (l : Launch) (hl0 : l.stackTraces = false) (dC : Nat → ClassId) (dI : Nat → Nat → Nat) (sz : Nat) (x0 pa ba ax ay sp ss vs fr : Nat) (pn bn ln sn : Nat) (hln : ln ≤ 20) (hbad : ¬ 3 ≤ ln) (ou : Nat) (cL : ClassId) (of : Nat → Int) : Met l yL_curve (Cond.codeWith yL_curve cL_curve 3 (Option.some Jvm.ClassFile.FieldType.int) [((0 : Nat), (8 : Nat), (11 : Nat), (13 : Nat))] :: gw) rh_curve_1 (PcH [.ref x0, .ref ou] (dC, dI) vwCl [(x0, .inr (2, [.ref pa, .int (zi ((pn : Int))), .ref ba, .int (zi ((bn : Int))), .ref ax, .ref ay, .int (zi ((ln : Int))), .ref sp, .ref ss, .int (zi ((sn : Int))), .ref vs, .ref fr])), (ou, .inl (cL, 1, .inr (.inl (zB (of)))))] [(cL, .long)] sz) (NwQ (some (.int (zi (1)))) (dC, dI) vwCl (fun w9 => w9 = [(x0, .inr (2, [.ref pa, .int (zi ((pn : Int))), .ref ba, .int (zi ((bn : Int))), .ref ax, .ref ay, .int (zi ((ln : Int))), .ref sp, .ref ss, .int (zi ((sn : Int))), .ref vs, .ref fr])), (ou, .inl (cL, 1, .inr (.inl (zB (of)))))]) (va_A [(x0, .inr (2, [.ref pa, .int (zi ((pn : Int))), .ref ba, .int (zi ((bn : Int))), .ref ax, .ref ay, .int (zi ((ln : Int))), .ref sp, .ref ss, .int (zi ((sn : Int))), .ref vs, .ref fr])), (ou, .inl (cL, 1, .inr (.inl (zB (of)))))] sz)) 1 6 (va_A [(x0, .inr (2, [.ref pa, .int (zi ((pn : Int))), .ref ba, .int (zi ((bn : Int))), .ref ax, .ref ay, .int (zi ((ln : Int))), .ref sp, .ref ss, .int (zi ((sn : Int))), .ref vs, .ref fr])), (ou, .inl (cL, 1, .inr (.inl (zB (of)))))] sz) := by
  refine va_MetW (cc := cL_curve) (maxL := 3) (ret := (Option.some Jvm.ClassFile.FieldType.int)) (hh := [((0 : Nat), (8 : Nat), (11 : Nat), (13 : Nat))]) (by decide) rfl ?_
  intro p e s m args below meth c s₁ B hml hv
  obtain ⟨hargs, hsz, hP, hK, hD0, hXA⟩ := hv
  have hx := B.exec
  have hb := B.bytes
  have hr := B.returns
  have hts := atoms_spec (ws := Cond.codeWith yL_curve cL_curve 3 (Option.some Jvm.ClassFile.FieldType.int) [((0 : Nat), (8 : Nat), (11 : Nat), (13 : Nat))] :: gw) B.pre
  have hg : ∀ w ∈ gw, w.before args s = true := fun w h => hts w (List.mem_cons_of_mem _ h)
  have hown : s.vm.findClass RL = some m.cls := findClass_of_methodNamed B.named
  have hlocks := B.notSynchronized
  have htab := vx_table (x := yL_curve) B (hts _ List.mem_cons_self)
  subst hsz
  have hD := hD0.self (sz := s.heap.size)
  generalize hAe : va_A [(x0, .inr (2, [.ref pa, .int (zi ((pn : Int))), .ref ba, .int (zi ((bn : Int))), .ref ax, .ref ay, .int (zi ((ln : Int))), .ref sp, .ref ss, .int (zi ((sn : Int))), .ref vs, .ref fr])), (ou, .inl (cL, 1, .inr (.inl (zB (of)))))] s.heap.size = A at hD ⊢
  have hA : ∀ q : Nat, s.heap.size ≤ q → A q := fun q h => by rw [← hAe]; exact Or.inr h
  show W p l e rh_curve_1 s m args below meth c s.heap [] 0 0 _ _
  have hl := lv_entry ([.ref x0, .ref ou]) (n := 3) (Nat.le_of_ble_eq_true rfl)
  rw [show entryFrame m args 3 = entryFrame m ([.ref x0, .ref ou] : List Value).toArray 3 by rw [hargs], lg_entry_eq]
  generalize (lg_sl ([.ref x0, .ref ou]) ++ List.replicate (3 - (lg_sl ([.ref x0, .ref ou])).length) Slot.unset).toArray = ls at hl ⊢
  have hl : lv_has ls 3 [(0, .ref x0), (1, .ref ou)] := hl
  refine lv_aload_n hx hb dL_curve_0 rfl (lv_at hl 1 rfl) ?_
  refine lv_iconst (v := zi (0)) hx hb dL_curve_1 rfl ?_
  refine lv_aload_n hx hb dL_curve_2 rfl (lv_at hl 0 rfl) ?_
  refine thKV (As := []) (rest := [.int (zi (0)), .ref ou]) (n := 0) hx hb hml hown hg (t_curve_S l hl0 dC dI x0 pa ba ax ay sp ss vs fr pn bn ln sn hln hbad) (gwV wl_L_69 wm_X2_curve we_X2_curve wi_X2 wc_X2_curve) rfl rfl (by decide +kernel) ⟨(Nat.le_of_ble_eq_true rfl), (Nat.le_of_ble_eq_true rfl)⟩ (hK.sub [] rfl) (hP.sub [0] rfl) hXA.1 0 rfl rfl rfl rfl hl.1 rfl (Nat.le_of_ble_eq_true rfl) dL_curve_3 ⟨(Nat.le_of_ble_eq_true rfl), (Nat.le_of_ble_eq_true rfl)⟩ (fun q9 ce H1 locs1 hcell hcv hcl hS0 => ?_)
  refine vx_catch (E := KS) (name := KS) hown [] ⟨0, 8, 11, 13⟩ [] htab (fun z hz => by cases hz) (by decide) (by decide) (hg _ wl_L_13) (va_Nw.use rfl (hXA.1.1 KS (by decide))) hcell hcv hcl ?_
  refine lv_astore_n (lv' := [(2, .ref q9), (0, .ref x0), (1, .ref ou)]) hx hb dL_curve_11 rfl hl (by decide) rfl (fun ls hl => ?_)
  refine lv_iconst (v := zi (1)) hx hb dL_curve_12 rfl ?_
  exact nw_i hx hb hr hlocks rfl (F := (fun w9 => w9 = [(x0, .inr (2, [.ref pa, .int (zi ((pn : Int))), .ref ba, .int (zi ((bn : Int))), .ref ax, .ref ay, .int (zi ((ln : Int))), .ref sp, .ref ss, .int (zi ((sn : Int))), .ref vs, .ref fr])), (ou, .inl (cL, 1, .inr (.inl (zB (of)))))])) rfl (thP hP hS0) hD (thS0 hS0) dL_curve_13
abbrev rh_sherd_0 : Room := { frames := 9, cells := 0, slots := 0, locals := 200 }
set_option maxHeartbeats 4000000 in
set_option maxRecDepth 100000 in
theorem h_c_sherd (l : Launch) (dC : Nat → ClassId) (dI : Nat → Nat → Nat) (sz : Nat) (x0 pa ba ax ay sp ss vs fr : Nat) (pn bn ln sn : Nat) (cA : ClassId) (spf ssf : Nat → Int) (q v : Int) (hsn : sn < 60) (hP9 : ∀ j, 0 ≤ spf j ∧ spf j ≤ 5) (hS9 : ∀ j, 0 ≤ ssf j ∧ ssf j ≤ 1000) (hpn : pn ≤ 6) (hq : 0 ≤ q ∧ q < pn) (hv9 : 1 ≤ v ∧ v ≤ 1000) (ou : Nat) (cL : ClassId) (of : Nat → Int) : Met l yL_sherd (Cond.codeWith yL_sherd cL_sherd 5 (Option.some Jvm.ClassFile.FieldType.int) [((0 : Nat), (10 : Nat), (13 : Nat), (19 : Nat)), ((0 : Nat), (10 : Nat), (17 : Nat), (21 : Nat)), ((0 : Nat), (10 : Nat), (21 : Nat), (13 : Nat))] :: gw) rh_sherd_0 (PcH [.ref x0, .int (zi (q)), .int (zi (v)), .ref ou] (dC, dI) vwCl [(x0, .inr (2, [.ref pa, .int (zi ((pn : Int))), .ref ba, .int (zi ((bn : Int))), .ref ax, .ref ay, .int (zi ((ln : Int))), .ref sp, .ref ss, .int (zi ((sn : Int))), .ref vs, .ref fr])), (sp, .inl (cA, 60, .inl (zA (spf)))), (ss, .inl (cA, 60, .inl (zA (ssf)))), (ou, .inl (cL, 1, .inr (.inl (zB (of)))))] [(cA, .int), (cL, .long)] sz) (NwQ (some (.int (zi (0)))) (dC, dI) vwCl (fun w9 => w9 = [(x0, .inr (2, [.ref pa, .int (zi ((pn : Int))), .ref ba, .int (zi ((bn : Int))), .ref ax, .ref ay, .int (zi ((ln : Int))), .ref sp, .ref ss, .int (zi (((sn + 1 : Nat) : Int))), .ref vs, .ref fr])), (sp, .inl (cA, 60, .inl (zA (zupd spf (sn) (q))))), (ss, .inl (cA, 60, .inl (zA (zupd ssf (sn) (v))))), (ou, .inl (cL, 1, .inr (.inl (zB (zupd of (0) ((zi ((s_sum (zupd spf (sn) (q)) (zupd ssf (sn) (v)) q (sn + 1)))).toInt))))))]) (va_A [(x0, .inr (2, [.ref pa, .int (zi ((pn : Int))), .ref ba, .int (zi ((bn : Int))), .ref ax, .ref ay, .int (zi ((ln : Int))), .ref sp, .ref ss, .int (zi ((sn : Int))), .ref vs, .ref fr])), (sp, .inl (cA, 60, .inl (zA (spf)))), (ss, .inl (cA, 60, .inl (zA (ssf)))), (ou, .inl (cL, 1, .inr (.inl (zB (of)))))] sz)) 0 0 (va_A [(x0, .inr (2, [.ref pa, .int (zi ((pn : Int))), .ref ba, .int (zi ((bn : Int))), .ref ax, .ref ay, .int (zi ((ln : Int))), .ref sp, .ref ss, .int (zi ((sn : Int))), .ref vs, .ref fr])), (sp, .inl (cA, 60, .inl (zA (spf)))), (ss, .inl (cA, 60, .inl (zA (ssf)))), (ou, .inl (cL, 1, .inr (.inl (zB (of)))))] sz) := by
  refine va_MetW (cc := cL_sherd) (maxL := 5) (ret := (Option.some Jvm.ClassFile.FieldType.int)) (hh := [((0 : Nat), (10 : Nat), (13 : Nat), (19 : Nat)), ((0 : Nat), (10 : Nat), (17 : Nat), (21 : Nat)), ((0 : Nat), (10 : Nat), (21 : Nat), (13 : Nat))]) (by decide) rfl ?_
  intro p e s m args below meth c s₁ B hml hv
  obtain ⟨hargs, hsz, hP, hK, hD0, hXA⟩ := hv
  have hx := B.exec
  have hb := B.bytes
  have hr := B.returns
  have hts := atoms_spec (ws := Cond.codeWith yL_sherd cL_sherd 5 (Option.some Jvm.ClassFile.FieldType.int) [((0 : Nat), (10 : Nat), (13 : Nat), (19 : Nat)), ((0 : Nat), (10 : Nat), (17 : Nat), (21 : Nat)), ((0 : Nat), (10 : Nat), (21 : Nat), (13 : Nat))] :: gw) B.pre
  have hg : ∀ w ∈ gw, w.before args s = true := fun w h => hts w (List.mem_cons_of_mem _ h)
  have hown : s.vm.findClass RL = some m.cls := findClass_of_methodNamed B.named
  have hlocks := B.notSynchronized
  have htab := vx_table (x := yL_sherd) B (hts _ List.mem_cons_self)
  subst hsz
  have hD := hD0.self (sz := s.heap.size)
  generalize hAe : va_A [(x0, .inr (2, [.ref pa, .int (zi ((pn : Int))), .ref ba, .int (zi ((bn : Int))), .ref ax, .ref ay, .int (zi ((ln : Int))), .ref sp, .ref ss, .int (zi ((sn : Int))), .ref vs, .ref fr])), (sp, .inl (cA, 60, .inl (zA (spf)))), (ss, .inl (cA, 60, .inl (zA (ssf)))), (ou, .inl (cL, 1, .inr (.inl (zB (of)))))] s.heap.size = A at hD ⊢
  have hA : ∀ q : Nat, s.heap.size ≤ q → A q := fun q h => by rw [← hAe]; exact Or.inr h
  show W p l e rh_sherd_0 s m args below meth c s.heap [] 0 0 _ _
  have hl := lv_entry ([.ref x0, .int (zi (q)), .int (zi (v)), .ref ou]) (n := 5) (Nat.le_of_ble_eq_true rfl)
  rw [show entryFrame m args 5 = entryFrame m ([.ref x0, .int (zi (q)), .int (zi (v)), .ref ou] : List Value).toArray 5 by rw [hargs], lg_entry_eq]
  generalize (lg_sl ([.ref x0, .int (zi (q)), .int (zi (v)), .ref ou]) ++ List.replicate (5 - (lg_sl ([.ref x0, .int (zi (q)), .int (zi (v)), .ref ou])).length) Slot.unset).toArray = ls at hl ⊢
  have hl : lv_has ls 5 [(0, .ref x0), (1, .int (zi (q))), (2, .int (zi (v))), (3, .ref ou)] := hl
  refine lv_aload_n hx hb dL_sherd_0 rfl (lv_at hl 3 rfl) ?_
  refine lv_iconst (v := zi (0)) hx hb dL_sherd_1 rfl ?_
  refine lv_aload_n hx hb dL_sherd_2 rfl (lv_at hl 0 rfl) ?_
  refine lv_iload_n hx hb dL_sherd_3 rfl (lv_at hl 1 rfl) ?_
  refine lv_iload_n hx hb dL_sherd_4 rfl (lv_at hl 2 rfl) ?_
  obtain ⟨H, hHe⟩ : ∃ H : Heap, H = s.heap := ⟨_, rfl⟩
  obtain ⟨locs, hlc⟩ : ∃ x : List Loc, x = [] := ⟨_, rfl⟩
  have hS : va_S A s.heap H locs := by rw [hHe, hlc]; exact va_S.rf
  have hP : va_P (dC, dI) vwCl [(x0, .inr (2, [.ref pa, .int (zi ((pn : Int))), .ref ba, .int (zi ((bn : Int))), .ref ax, .ref ay, .int (zi ((ln : Int))), .ref sp, .ref ss, .int (zi ((sn : Int))), .ref vs, .ref fr])), (sp, .inl (cA, 60, .inl (zA (spf)))), (ss, .inl (cA, 60, .inl (zA (ssf)))), (ou, .inl (cL, 1, .inr (.inl (zB (of)))))] H := by rw [hHe]; exact hP
  rw [← hHe, ← hlc]
  refine wrV (As := [.int (zi (q)), .int (zi (v))]) (rest := [.int (zi (0)), .ref ou]) (n := 2) (ws' := [(x0, .inr (2, [.ref pa, .int (zi ((pn : Int))), .ref ba, .int (zi ((bn : Int))), .ref ax, .ref ay, .int (zi ((ln : Int))), .ref sp, .ref ss, .int (zi (((sn + 1 : Nat) : Int))), .ref vs, .ref fr])), (sp, .inl (cA, 60, .inl (zA (zupd spf (sn) (q))))), (ss, .inl (cA, 60, .inl (zA (zupd ssf (sn) (v))))), (ou, .inl (cL, 1, .inr (.inl (zB (of)))))]) hx hb hml hown hg (c_sherd l dC dI H.size x0 pa ba ax ay sp ss vs fr pn bn ln sn cA spf ssf q v hsn hP9 hS9 hpn hq hv9) (gwV wl_L_72 wm_X2_sherd we_X2_sherd wi_X2 wc_X2_sherd) rfl rfl (by decide +kernel) ⟨(Nat.le_of_ble_eq_true rfl), (Nat.le_of_ble_eq_true rfl)⟩ (hK.sub [0] rfl) hP hD hS hA [0, 1, 2] rfl (by decide) [(true, 0), (true, 1), (true, 2), (false, 3)] rfl (by decide) rfl 0 rfl rfl rfl rfl hl.1 rfl (Nat.le_of_ble_eq_true rfl) dL_sherd_5 ⟨Nat.zero_le _, Nat.zero_le _⟩ (fun H locs hP hD hS => ?_)
  refine zz_i2lr hx hb dL_sherd_8 ?_
  refine zz_last hx hb hK hP hD hS 3 1 rfl rfl (0) (by omega) (by omega) (by decide) dL_sherd_9 (fun H locs hP hD hS => ?_)
  refine lv_goto (tgt := 25) hx hb dL_sherd_10 (by decide) ?_
  refine lv_iconst (v := zi (0)) hx hb dL_sherd_25 rfl ?_
  exact nw_i hx hb hr hlocks rfl (F := (fun w9 => w9 = [(x0, .inr (2, [.ref pa, .int (zi ((pn : Int))), .ref ba, .int (zi ((bn : Int))), .ref ax, .ref ay, .int (zi ((ln : Int))), .ref sp, .ref ss, .int (zi (((sn + 1 : Nat) : Int))), .ref vs, .ref fr])), (sp, .inl (cA, 60, .inl (zA (zupd spf (sn) (q))))), (ss, .inl (cA, 60, .inl (zA (zupd ssf (sn) (v))))), (ou, .inl (cL, 1, .inr (.inl (zB (zupd of (0) ((zi ((s_sum (zupd spf (sn) (q)) (zupd ssf (sn) (v)) q (sn + 1)))).toInt))))))])) rfl hP hD hS dL_sherd_26
abbrev rh_sherd_1 : Room := { frames := 9, cells := 1, slots := 6, locals := 200 }
set_option maxHeartbeats 4000000 in
set_option maxRecDepth 100000 in
theorem h_t_sherd_p (l : Launch) (hl0 : l.stackTraces = false) (dC : Nat → ClassId) (dI : Nat → Nat → Nat) (sz : Nat) (x0 pa ba ax ay sp ss vs fr : Nat) (pn bn ln sn : Nat) (q v : Int) (hpn : pn ≤ 6) (h_q : -2147483648 ≤ q ∧ q < 2147483648) (hbad : ¬ (0 ≤ q ∧ q < pn)) (ou : Nat) (cL : ClassId) (of : Nat → Int) : Met l yL_sherd (Cond.codeWith yL_sherd cL_sherd 5 (Option.some Jvm.ClassFile.FieldType.int) [((0 : Nat), (10 : Nat), (13 : Nat), (19 : Nat)), ((0 : Nat), (10 : Nat), (17 : Nat), (21 : Nat)), ((0 : Nat), (10 : Nat), (21 : Nat), (13 : Nat))] :: gw) rh_sherd_1 (PcH [.ref x0, .int (zi (q)), .int (zi (v)), .ref ou] (dC, dI) vwCl [(x0, .inr (2, [.ref pa, .int (zi ((pn : Int))), .ref ba, .int (zi ((bn : Int))), .ref ax, .ref ay, .int (zi ((ln : Int))), .ref sp, .ref ss, .int (zi ((sn : Int))), .ref vs, .ref fr])), (ou, .inl (cL, 1, .inr (.inl (zB (of)))))] [(cL, .long)] sz) (NwQ (some (.int (zi (1)))) (dC, dI) vwCl (fun w9 => w9 = [(x0, .inr (2, [.ref pa, .int (zi ((pn : Int))), .ref ba, .int (zi ((bn : Int))), .ref ax, .ref ay, .int (zi ((ln : Int))), .ref sp, .ref ss, .int (zi ((sn : Int))), .ref vs, .ref fr])), (ou, .inl (cL, 1, .inr (.inl (zB (of)))))]) (va_A [(x0, .inr (2, [.ref pa, .int (zi ((pn : Int))), .ref ba, .int (zi ((bn : Int))), .ref ax, .ref ay, .int (zi ((ln : Int))), .ref sp, .ref ss, .int (zi ((sn : Int))), .ref vs, .ref fr])), (ou, .inl (cL, 1, .inr (.inl (zB (of)))))] sz)) 1 6 (va_A [(x0, .inr (2, [.ref pa, .int (zi ((pn : Int))), .ref ba, .int (zi ((bn : Int))), .ref ax, .ref ay, .int (zi ((ln : Int))), .ref sp, .ref ss, .int (zi ((sn : Int))), .ref vs, .ref fr])), (ou, .inl (cL, 1, .inr (.inl (zB (of)))))] sz) := by
  refine va_MetW (cc := cL_sherd) (maxL := 5) (ret := (Option.some Jvm.ClassFile.FieldType.int)) (hh := [((0 : Nat), (10 : Nat), (13 : Nat), (19 : Nat)), ((0 : Nat), (10 : Nat), (17 : Nat), (21 : Nat)), ((0 : Nat), (10 : Nat), (21 : Nat), (13 : Nat))]) (by decide) rfl ?_
  intro p e s m args below meth c s₁ B hml hv
  obtain ⟨hargs, hsz, hP, hK, hD0, hXA⟩ := hv
  have hx := B.exec
  have hb := B.bytes
  have hr := B.returns
  have hts := atoms_spec (ws := Cond.codeWith yL_sherd cL_sherd 5 (Option.some Jvm.ClassFile.FieldType.int) [((0 : Nat), (10 : Nat), (13 : Nat), (19 : Nat)), ((0 : Nat), (10 : Nat), (17 : Nat), (21 : Nat)), ((0 : Nat), (10 : Nat), (21 : Nat), (13 : Nat))] :: gw) B.pre
  have hg : ∀ w ∈ gw, w.before args s = true := fun w h => hts w (List.mem_cons_of_mem _ h)
  have hown : s.vm.findClass RL = some m.cls := findClass_of_methodNamed B.named
  have hlocks := B.notSynchronized
  have htab := vx_table (x := yL_sherd) B (hts _ List.mem_cons_self)
  subst hsz
  have hD := hD0.self (sz := s.heap.size)
  generalize hAe : va_A [(x0, .inr (2, [.ref pa, .int (zi ((pn : Int))), .ref ba, .int (zi ((bn : Int))), .ref ax, .ref ay, .int (zi ((ln : Int))), .ref sp, .ref ss, .int (zi ((sn : Int))), .ref vs, .ref fr])), (ou, .inl (cL, 1, .inr (.inl (zB (of)))))] s.heap.size = A at hD ⊢
  have hA : ∀ q : Nat, s.heap.size ≤ q → A q := fun q h => by rw [← hAe]; exact Or.inr h
  show W p l e rh_sherd_1 s m args below meth c s.heap [] 0 0 _ _
  have hl := lv_entry ([.ref x0, .int (zi (q)), .int (zi (v)), .ref ou]) (n := 5) (Nat.le_of_ble_eq_true rfl)
  rw [show entryFrame m args 5 = entryFrame m ([.ref x0, .int (zi (q)), .int (zi (v)), .ref ou] : List Value).toArray 5 by rw [hargs], lg_entry_eq]
  generalize (lg_sl ([.ref x0, .int (zi (q)), .int (zi (v)), .ref ou]) ++ List.replicate (5 - (lg_sl ([.ref x0, .int (zi (q)), .int (zi (v)), .ref ou])).length) Slot.unset).toArray = ls at hl ⊢
  have hl : lv_has ls 5 [(0, .ref x0), (1, .int (zi (q))), (2, .int (zi (v))), (3, .ref ou)] := hl
  refine lv_aload_n hx hb dL_sherd_0 rfl (lv_at hl 3 rfl) ?_
  refine lv_iconst (v := zi (0)) hx hb dL_sherd_1 rfl ?_
  refine lv_aload_n hx hb dL_sherd_2 rfl (lv_at hl 0 rfl) ?_
  refine lv_iload_n hx hb dL_sherd_3 rfl (lv_at hl 1 rfl) ?_
  refine lv_iload_n hx hb dL_sherd_4 rfl (lv_at hl 2 rfl) ?_
  refine thKV (As := [.int (zi (q)), .int (zi (v))]) (rest := [.int (zi (0)), .ref ou]) (n := 2) hx hb hml hown hg (t_sherd_p l hl0 dC dI x0 pa ba ax ay sp ss vs fr pn bn ln sn q v hpn h_q hbad) (gwV wl_L_72 wm_X2_sherd we_X2_sherd wi_X2 wc_X2_sherd) rfl rfl (by decide +kernel) ⟨(Nat.le_of_ble_eq_true rfl), (Nat.le_of_ble_eq_true rfl)⟩ (hK.sub [] rfl) (hP.sub [0] rfl) hXA.1 0 rfl rfl rfl rfl hl.1 rfl (Nat.le_of_ble_eq_true rfl) dL_sherd_5 ⟨(Nat.le_of_ble_eq_true rfl), (Nat.le_of_ble_eq_true rfl)⟩ (fun q9 ce H1 locs1 hcell hcv hcl hS0 => ?_)
  refine vx_catch (E := KI) (name := KI) hown [] ⟨0, 10, 13, 19⟩ [⟨0, 10, 17, 21⟩, ⟨0, 10, 21, 13⟩] htab (fun z hz => by cases hz) (by decide) (by decide) (hg _ wl_L_19) (va_Nw.use rfl (hXA.1.1 KI (by decide))) hcell hcv hcl ?_
  refine lv_astore (lv' := [(4, .ref q9), (0, .ref x0), (1, .int (zi (q))), (2, .int (zi (v))), (3, .ref ou)]) hx hb dL_sherd_13 hl (by decide) rfl (fun ls hl => ?_)
  refine lv_iconst (v := zi (1)) hx hb dL_sherd_15 rfl ?_
  exact nw_i hx hb hr hlocks rfl (F := (fun w9 => w9 = [(x0, .inr (2, [.ref pa, .int (zi ((pn : Int))), .ref ba, .int (zi ((bn : Int))), .ref ax, .ref ay, .int (zi ((ln : Int))), .ref sp, .ref ss, .int (zi ((sn : Int))), .ref vs, .ref fr])), (ou, .inl (cL, 1, .inr (.inl (zB (of)))))])) rfl (thP hP hS0) hD (thS0 hS0) dL_sherd_16
set_option maxHeartbeats 4000000 in
set_option maxRecDepth 100000 in
theorem h_t_sherd_A (l : Launch) (hl0 : l.stackTraces = false) (dC : Nat → ClassId) (dI : Nat → Nat → Nat) (sz : Nat) (x0 pa ba ax ay sp ss vs fr : Nat) (pn bn ln sn : Nat) (q v : Int) (hpn : pn ≤ 6) (hq : 0 ≤ q ∧ q < pn) (h_v : -2147483648 ≤ v ∧ v < 2147483648) (hbad : ¬ (1 ≤ v ∧ v ≤ 1000)) (ou : Nat) (cL : ClassId) (of : Nat → Int) : Met l yL_sherd (Cond.codeWith yL_sherd cL_sherd 5 (Option.some Jvm.ClassFile.FieldType.int) [((0 : Nat), (10 : Nat), (13 : Nat), (19 : Nat)), ((0 : Nat), (10 : Nat), (17 : Nat), (21 : Nat)), ((0 : Nat), (10 : Nat), (21 : Nat), (13 : Nat))] :: gw) rh_sherd_1 (PcH [.ref x0, .int (zi (q)), .int (zi (v)), .ref ou] (dC, dI) vwCl [(x0, .inr (2, [.ref pa, .int (zi ((pn : Int))), .ref ba, .int (zi ((bn : Int))), .ref ax, .ref ay, .int (zi ((ln : Int))), .ref sp, .ref ss, .int (zi ((sn : Int))), .ref vs, .ref fr])), (ou, .inl (cL, 1, .inr (.inl (zB (of)))))] [(cL, .long)] sz) (NwQ (some (.int (zi (2)))) (dC, dI) vwCl (fun w9 => w9 = [(x0, .inr (2, [.ref pa, .int (zi ((pn : Int))), .ref ba, .int (zi ((bn : Int))), .ref ax, .ref ay, .int (zi ((ln : Int))), .ref sp, .ref ss, .int (zi ((sn : Int))), .ref vs, .ref fr])), (ou, .inl (cL, 1, .inr (.inl (zB (of)))))]) (va_A [(x0, .inr (2, [.ref pa, .int (zi ((pn : Int))), .ref ba, .int (zi ((bn : Int))), .ref ax, .ref ay, .int (zi ((ln : Int))), .ref sp, .ref ss, .int (zi ((sn : Int))), .ref vs, .ref fr])), (ou, .inl (cL, 1, .inr (.inl (zB (of)))))] sz)) 1 6 (va_A [(x0, .inr (2, [.ref pa, .int (zi ((pn : Int))), .ref ba, .int (zi ((bn : Int))), .ref ax, .ref ay, .int (zi ((ln : Int))), .ref sp, .ref ss, .int (zi ((sn : Int))), .ref vs, .ref fr])), (ou, .inl (cL, 1, .inr (.inl (zB (of)))))] sz) := by
  refine va_MetW (cc := cL_sherd) (maxL := 5) (ret := (Option.some Jvm.ClassFile.FieldType.int)) (hh := [((0 : Nat), (10 : Nat), (13 : Nat), (19 : Nat)), ((0 : Nat), (10 : Nat), (17 : Nat), (21 : Nat)), ((0 : Nat), (10 : Nat), (21 : Nat), (13 : Nat))]) (by decide) rfl ?_
  intro p e s m args below meth c s₁ B hml hv
  obtain ⟨hargs, hsz, hP, hK, hD0, hXA⟩ := hv
  have hx := B.exec
  have hb := B.bytes
  have hr := B.returns
  have hts := atoms_spec (ws := Cond.codeWith yL_sherd cL_sherd 5 (Option.some Jvm.ClassFile.FieldType.int) [((0 : Nat), (10 : Nat), (13 : Nat), (19 : Nat)), ((0 : Nat), (10 : Nat), (17 : Nat), (21 : Nat)), ((0 : Nat), (10 : Nat), (21 : Nat), (13 : Nat))] :: gw) B.pre
  have hg : ∀ w ∈ gw, w.before args s = true := fun w h => hts w (List.mem_cons_of_mem _ h)
  have hown : s.vm.findClass RL = some m.cls := findClass_of_methodNamed B.named
  have hlocks := B.notSynchronized
  have htab := vx_table (x := yL_sherd) B (hts _ List.mem_cons_self)
  subst hsz
  have hD := hD0.self (sz := s.heap.size)
  generalize hAe : va_A [(x0, .inr (2, [.ref pa, .int (zi ((pn : Int))), .ref ba, .int (zi ((bn : Int))), .ref ax, .ref ay, .int (zi ((ln : Int))), .ref sp, .ref ss, .int (zi ((sn : Int))), .ref vs, .ref fr])), (ou, .inl (cL, 1, .inr (.inl (zB (of)))))] s.heap.size = A at hD ⊢
  have hA : ∀ q : Nat, s.heap.size ≤ q → A q := fun q h => by rw [← hAe]; exact Or.inr h
  show W p l e rh_sherd_1 s m args below meth c s.heap [] 0 0 _ _
  have hl := lv_entry ([.ref x0, .int (zi (q)), .int (zi (v)), .ref ou]) (n := 5) (Nat.le_of_ble_eq_true rfl)
  rw [show entryFrame m args 5 = entryFrame m ([.ref x0, .int (zi (q)), .int (zi (v)), .ref ou] : List Value).toArray 5 by rw [hargs], lg_entry_eq]
  generalize (lg_sl ([.ref x0, .int (zi (q)), .int (zi (v)), .ref ou]) ++ List.replicate (5 - (lg_sl ([.ref x0, .int (zi (q)), .int (zi (v)), .ref ou])).length) Slot.unset).toArray = ls at hl ⊢
  have hl : lv_has ls 5 [(0, .ref x0), (1, .int (zi (q))), (2, .int (zi (v))), (3, .ref ou)] := hl
  refine lv_aload_n hx hb dL_sherd_0 rfl (lv_at hl 3 rfl) ?_
  refine lv_iconst (v := zi (0)) hx hb dL_sherd_1 rfl ?_
  refine lv_aload_n hx hb dL_sherd_2 rfl (lv_at hl 0 rfl) ?_
  refine lv_iload_n hx hb dL_sherd_3 rfl (lv_at hl 1 rfl) ?_
  refine lv_iload_n hx hb dL_sherd_4 rfl (lv_at hl 2 rfl) ?_
  refine thKV (As := [.int (zi (q)), .int (zi (v))]) (rest := [.int (zi (0)), .ref ou]) (n := 2) hx hb hml hown hg (t_sherd_A l hl0 dC dI x0 pa ba ax ay sp ss vs fr pn bn ln sn q v hpn hq h_v hbad) (gwV wl_L_72 wm_X2_sherd we_X2_sherd wi_X2 wc_X2_sherd) rfl rfl (by decide +kernel) ⟨(Nat.le_of_ble_eq_true rfl), (Nat.le_of_ble_eq_true rfl)⟩ (hK.sub [] rfl) (hP.sub [0] rfl) hXA.1 0 rfl rfl rfl rfl hl.1 rfl (Nat.le_of_ble_eq_true rfl) dL_sherd_5 ⟨(Nat.le_of_ble_eq_true rfl), (Nat.le_of_ble_eq_true rfl)⟩ (fun q9 ce H1 locs1 hcell hcv hcl hS0 => ?_)
  refine vx_catch (E := KA) (name := KA) hown [⟨0, 10, 13, 19⟩] ⟨0, 10, 17, 21⟩ [⟨0, 10, 21, 13⟩] htab (fun z hz => by rcases List.mem_singleton.mp hz with rfl; exact Or.inr ⟨by decide, KI, hg _ wl_L_19, hXA.2.2.1⟩) (by decide) (by decide) (hg _ wl_L_21) (va_Nw.use rfl (hXA.1.1 KA (by decide))) hcell hcv hcl ?_
  refine lv_astore (lv' := [(4, .ref q9), (0, .ref x0), (1, .int (zi (q))), (2, .int (zi (v))), (3, .ref ou)]) hx hb dL_sherd_17 hl (by decide) rfl (fun ls hl => ?_)
  refine lv_iconst (v := zi (2)) hx hb dL_sherd_19 rfl ?_
  exact nw_i hx hb hr hlocks rfl (F := (fun w9 => w9 = [(x0, .inr (2, [.ref pa, .int (zi ((pn : Int))), .ref ba, .int (zi ((bn : Int))), .ref ax, .ref ay, .int (zi ((ln : Int))), .ref sp, .ref ss, .int (zi ((sn : Int))), .ref vs, .ref fr])), (ou, .inl (cL, 1, .inr (.inl (zB (of)))))])) rfl (thP hP hS0) hD (thS0 hS0) dL_sherd_20
set_option maxHeartbeats 4000000 in
set_option maxRecDepth 100000 in
theorem h_t_sherd_S (l : Launch) (hl0 : l.stackTraces = false) (dC : Nat → ClassId) (dI : Nat → Nat → Nat) (sz : Nat) (x0 pa ba ax ay sp ss vs fr : Nat) (pn bn ln sn : Nat) (q v : Int) (hpn : pn ≤ 6) (hq : 0 ≤ q ∧ q < pn) (hv : 1 ≤ v ∧ v ≤ 1000) (hsn : sn ≤ 60) (hbad : sn = 60) (ou : Nat) (cL : ClassId) (of : Nat → Int) : Met l yL_sherd (Cond.codeWith yL_sherd cL_sherd 5 (Option.some Jvm.ClassFile.FieldType.int) [((0 : Nat), (10 : Nat), (13 : Nat), (19 : Nat)), ((0 : Nat), (10 : Nat), (17 : Nat), (21 : Nat)), ((0 : Nat), (10 : Nat), (21 : Nat), (13 : Nat))] :: gw) rh_sherd_1 (PcH [.ref x0, .int (zi (q)), .int (zi (v)), .ref ou] (dC, dI) vwCl [(x0, .inr (2, [.ref pa, .int (zi ((pn : Int))), .ref ba, .int (zi ((bn : Int))), .ref ax, .ref ay, .int (zi ((ln : Int))), .ref sp, .ref ss, .int (zi ((sn : Int))), .ref vs, .ref fr])), (ou, .inl (cL, 1, .inr (.inl (zB (of)))))] [(cL, .long)] sz) (NwQ (some (.int (zi (3)))) (dC, dI) vwCl (fun w9 => w9 = [(x0, .inr (2, [.ref pa, .int (zi ((pn : Int))), .ref ba, .int (zi ((bn : Int))), .ref ax, .ref ay, .int (zi ((ln : Int))), .ref sp, .ref ss, .int (zi ((sn : Int))), .ref vs, .ref fr])), (ou, .inl (cL, 1, .inr (.inl (zB (of)))))]) (va_A [(x0, .inr (2, [.ref pa, .int (zi ((pn : Int))), .ref ba, .int (zi ((bn : Int))), .ref ax, .ref ay, .int (zi ((ln : Int))), .ref sp, .ref ss, .int (zi ((sn : Int))), .ref vs, .ref fr])), (ou, .inl (cL, 1, .inr (.inl (zB (of)))))] sz)) 1 6 (va_A [(x0, .inr (2, [.ref pa, .int (zi ((pn : Int))), .ref ba, .int (zi ((bn : Int))), .ref ax, .ref ay, .int (zi ((ln : Int))), .ref sp, .ref ss, .int (zi ((sn : Int))), .ref vs, .ref fr])), (ou, .inl (cL, 1, .inr (.inl (zB (of)))))] sz) := by
  refine va_MetW (cc := cL_sherd) (maxL := 5) (ret := (Option.some Jvm.ClassFile.FieldType.int)) (hh := [((0 : Nat), (10 : Nat), (13 : Nat), (19 : Nat)), ((0 : Nat), (10 : Nat), (17 : Nat), (21 : Nat)), ((0 : Nat), (10 : Nat), (21 : Nat), (13 : Nat))]) (by decide) rfl ?_
  intro p e s m args below meth c s₁ B hml hv
  obtain ⟨hargs, hsz, hP, hK, hD0, hXA⟩ := hv
  have hx := B.exec
  have hb := B.bytes
  have hr := B.returns
  have hts := atoms_spec (ws := Cond.codeWith yL_sherd cL_sherd 5 (Option.some Jvm.ClassFile.FieldType.int) [((0 : Nat), (10 : Nat), (13 : Nat), (19 : Nat)), ((0 : Nat), (10 : Nat), (17 : Nat), (21 : Nat)), ((0 : Nat), (10 : Nat), (21 : Nat), (13 : Nat))] :: gw) B.pre
  have hg : ∀ w ∈ gw, w.before args s = true := fun w h => hts w (List.mem_cons_of_mem _ h)
  have hown : s.vm.findClass RL = some m.cls := findClass_of_methodNamed B.named
  have hlocks := B.notSynchronized
  have htab := vx_table (x := yL_sherd) B (hts _ List.mem_cons_self)
  subst hsz
  have hD := hD0.self (sz := s.heap.size)
  generalize hAe : va_A [(x0, .inr (2, [.ref pa, .int (zi ((pn : Int))), .ref ba, .int (zi ((bn : Int))), .ref ax, .ref ay, .int (zi ((ln : Int))), .ref sp, .ref ss, .int (zi ((sn : Int))), .ref vs, .ref fr])), (ou, .inl (cL, 1, .inr (.inl (zB (of)))))] s.heap.size = A at hD ⊢
  have hA : ∀ q : Nat, s.heap.size ≤ q → A q := fun q h => by rw [← hAe]; exact Or.inr h
  show W p l e rh_sherd_1 s m args below meth c s.heap [] 0 0 _ _
  have hl := lv_entry ([.ref x0, .int (zi (q)), .int (zi (v)), .ref ou]) (n := 5) (Nat.le_of_ble_eq_true rfl)
  rw [show entryFrame m args 5 = entryFrame m ([.ref x0, .int (zi (q)), .int (zi (v)), .ref ou] : List Value).toArray 5 by rw [hargs], lg_entry_eq]
  generalize (lg_sl ([.ref x0, .int (zi (q)), .int (zi (v)), .ref ou]) ++ List.replicate (5 - (lg_sl ([.ref x0, .int (zi (q)), .int (zi (v)), .ref ou])).length) Slot.unset).toArray = ls at hl ⊢
  have hl : lv_has ls 5 [(0, .ref x0), (1, .int (zi (q))), (2, .int (zi (v))), (3, .ref ou)] := hl
  refine lv_aload_n hx hb dL_sherd_0 rfl (lv_at hl 3 rfl) ?_
  refine lv_iconst (v := zi (0)) hx hb dL_sherd_1 rfl ?_
  refine lv_aload_n hx hb dL_sherd_2 rfl (lv_at hl 0 rfl) ?_
  refine lv_iload_n hx hb dL_sherd_3 rfl (lv_at hl 1 rfl) ?_
  refine lv_iload_n hx hb dL_sherd_4 rfl (lv_at hl 2 rfl) ?_
  refine thKV (As := [.int (zi (q)), .int (zi (v))]) (rest := [.int (zi (0)), .ref ou]) (n := 2) hx hb hml hown hg (t_sherd_S l hl0 dC dI x0 pa ba ax ay sp ss vs fr pn bn ln sn q v hpn hq hv hsn hbad) (gwV wl_L_72 wm_X2_sherd we_X2_sherd wi_X2 wc_X2_sherd) rfl rfl (by decide +kernel) ⟨(Nat.le_of_ble_eq_true rfl), (Nat.le_of_ble_eq_true rfl)⟩ (hK.sub [] rfl) (hP.sub [0] rfl) hXA.1 0 rfl rfl rfl rfl hl.1 rfl (Nat.le_of_ble_eq_true rfl) dL_sherd_5 ⟨(Nat.le_of_ble_eq_true rfl), (Nat.le_of_ble_eq_true rfl)⟩ (fun q9 ce H1 locs1 hcell hcv hcl hS0 => ?_)
  refine vx_catch (E := KS) (name := KS) hown [⟨0, 10, 13, 19⟩, ⟨0, 10, 17, 21⟩] ⟨0, 10, 21, 13⟩ [] htab (mem2 (Or.inr ⟨by decide, KI, hg _ wl_L_19, hXA.2.2.2.1⟩) (Or.inr ⟨by decide, KA, hg _ wl_L_21, hXA.2.2.2.2⟩)) (by decide) (by decide) (hg _ wl_L_13) (va_Nw.use rfl (hXA.1.1 KS (by decide))) hcell hcv hcl ?_
  refine lv_astore (lv' := [(4, .ref q9), (0, .ref x0), (1, .int (zi (q))), (2, .int (zi (v))), (3, .ref ou)]) hx hb dL_sherd_21 hl (by decide) rfl (fun ls hl => ?_)
  refine lv_iconst (v := zi (3)) hx hb dL_sherd_23 rfl ?_
  exact nw_i hx hb hr hlocks rfl (F := (fun w9 => w9 = [(x0, .inr (2, [.ref pa, .int (zi ((pn : Int))), .ref ba, .int (zi ((bn : Int))), .ref ax, .ref ay, .int (zi ((ln : Int))), .ref sp, .ref ss, .int (zi ((sn : Int))), .ref vs, .ref fr])), (ou, .inl (cL, 1, .inr (.inl (zB (of)))))])) rfl (thP hP hS0) hD (thS0 hS0) dL_sherd_24
abbrev rh_vessels_0 : Room := { frames := 9, cells := 0, slots := 0, locals := 200 }
set_option maxHeartbeats 4000000 in
set_option maxRecDepth 100000 in
theorem h_c_vessels_0 (l : Launch) (dC : Nat → ClassId) (dI : Nat → Nat → Nat) (sz : Nat) (x0 pa ba ax ay sp ss vs fr : Nat) (pn bn ln sn : Nat) (cA : ClassId) (spf ssf : Nat → Int) (q how : Int) (hsn : sn ≤ 60) (hP9 : ∀ j, 0 ≤ spf j ∧ spf j ≤ 5) (hS9 : ∀ j, 0 ≤ ssf j ∧ ssf j ≤ 1000) (hpn : pn ≤ 6) (hq : 0 ≤ q ∧ q < pn) (h0 : how = 0) (ou : Nat) (cL : ClassId) (of : Nat → Int) : Met l yL_vessels (Cond.codeWith yL_vessels cL_vessels 5 (Option.some Jvm.ClassFile.FieldType.int) [((0 : Nat), (10 : Nat), (13 : Nat), (19 : Nat))] :: gw) rh_vessels_0 (PcH [.ref x0, .int (zi (q)), .int (zi (how)), .ref ou] (dC, dI) vwCl [(x0, .inr (2, [.ref pa, .int (zi ((pn : Int))), .ref ba, .int (zi ((bn : Int))), .ref ax, .ref ay, .int (zi ((ln : Int))), .ref sp, .ref ss, .int (zi ((sn : Int))), .ref vs, .ref fr])), (sp, .inl (cA, 60, .inl (zA (spf)))), (ss, .inl (cA, 60, .inl (zA (ssf)))), (ou, .inl (cL, 1, .inr (.inl (zB (of)))))] [(cA, .int), (cL, .long)] sz) (NwQ (some (.int (zi (0)))) (dC, dI) vwCl (fun w9 => w9 = [(x0, .inr (2, [.ref pa, .int (zi ((pn : Int))), .ref ba, .int (zi ((bn : Int))), .ref ax, .ref ay, .int (zi ((ln : Int))), .ref sp, .ref ss, .int (zi ((sn : Int))), .ref vs, .ref fr])), (sp, .inl (cA, 60, .inl (zA (spf)))), (ss, .inl (cA, 60, .inl (zA (ssf)))), (ou, .inl (cL, 1, .inr (.inl (zB (zupd of (0) ((zi ((Int.tdiv (s_sum spf ssf q sn + 999) 1000))).toInt))))))]) (va_A [(x0, .inr (2, [.ref pa, .int (zi ((pn : Int))), .ref ba, .int (zi ((bn : Int))), .ref ax, .ref ay, .int (zi ((ln : Int))), .ref sp, .ref ss, .int (zi ((sn : Int))), .ref vs, .ref fr])), (sp, .inl (cA, 60, .inl (zA (spf)))), (ss, .inl (cA, 60, .inl (zA (ssf)))), (ou, .inl (cL, 1, .inr (.inl (zB (of)))))] sz)) 0 0 (va_A [(x0, .inr (2, [.ref pa, .int (zi ((pn : Int))), .ref ba, .int (zi ((bn : Int))), .ref ax, .ref ay, .int (zi ((ln : Int))), .ref sp, .ref ss, .int (zi ((sn : Int))), .ref vs, .ref fr])), (sp, .inl (cA, 60, .inl (zA (spf)))), (ss, .inl (cA, 60, .inl (zA (ssf)))), (ou, .inl (cL, 1, .inr (.inl (zB (of)))))] sz) := by
  refine va_MetW (cc := cL_vessels) (maxL := 5) (ret := (Option.some Jvm.ClassFile.FieldType.int)) (hh := [((0 : Nat), (10 : Nat), (13 : Nat), (19 : Nat))]) (by decide) rfl ?_
  intro p e s m args below meth c s₁ B hml hv
  obtain ⟨hargs, hsz, hP, hK, hD0, hXA⟩ := hv
  have hx := B.exec
  have hb := B.bytes
  have hr := B.returns
  have hts := atoms_spec (ws := Cond.codeWith yL_vessels cL_vessels 5 (Option.some Jvm.ClassFile.FieldType.int) [((0 : Nat), (10 : Nat), (13 : Nat), (19 : Nat))] :: gw) B.pre
  have hg : ∀ w ∈ gw, w.before args s = true := fun w h => hts w (List.mem_cons_of_mem _ h)
  have hown : s.vm.findClass RL = some m.cls := findClass_of_methodNamed B.named
  have hlocks := B.notSynchronized
  have htab := vx_table (x := yL_vessels) B (hts _ List.mem_cons_self)
  subst hsz
  have hD := hD0.self (sz := s.heap.size)
  generalize hAe : va_A [(x0, .inr (2, [.ref pa, .int (zi ((pn : Int))), .ref ba, .int (zi ((bn : Int))), .ref ax, .ref ay, .int (zi ((ln : Int))), .ref sp, .ref ss, .int (zi ((sn : Int))), .ref vs, .ref fr])), (sp, .inl (cA, 60, .inl (zA (spf)))), (ss, .inl (cA, 60, .inl (zA (ssf)))), (ou, .inl (cL, 1, .inr (.inl (zB (of)))))] s.heap.size = A at hD ⊢
  have hA : ∀ q : Nat, s.heap.size ≤ q → A q := fun q h => by rw [← hAe]; exact Or.inr h
  show W p l e rh_vessels_0 s m args below meth c s.heap [] 0 0 _ _
  have hl := lv_entry ([.ref x0, .int (zi (q)), .int (zi (how)), .ref ou]) (n := 5) (Nat.le_of_ble_eq_true rfl)
  rw [show entryFrame m args 5 = entryFrame m ([.ref x0, .int (zi (q)), .int (zi (how)), .ref ou] : List Value).toArray 5 by rw [hargs], lg_entry_eq]
  generalize (lg_sl ([.ref x0, .int (zi (q)), .int (zi (how)), .ref ou]) ++ List.replicate (5 - (lg_sl ([.ref x0, .int (zi (q)), .int (zi (how)), .ref ou])).length) Slot.unset).toArray = ls at hl ⊢
  have hl : lv_has ls 5 [(0, .ref x0), (1, .int (zi (q))), (2, .int (zi (how))), (3, .ref ou)] := hl
  refine lv_aload_n hx hb dL_vessels_0 rfl (lv_at hl 3 rfl) ?_
  refine lv_iconst (v := zi (0)) hx hb dL_vessels_1 rfl ?_
  refine lv_aload_n hx hb dL_vessels_2 rfl (lv_at hl 0 rfl) ?_
  refine lv_iload_n hx hb dL_vessels_3 rfl (lv_at hl 1 rfl) ?_
  refine lv_iload_n hx hb dL_vessels_4 rfl (lv_at hl 2 rfl) ?_
  obtain ⟨H, hHe⟩ : ∃ H : Heap, H = s.heap := ⟨_, rfl⟩
  obtain ⟨locs, hlc⟩ : ∃ x : List Loc, x = [] := ⟨_, rfl⟩
  have hS : va_S A s.heap H locs := by rw [hHe, hlc]; exact va_S.rf
  have hP : va_P (dC, dI) vwCl [(x0, .inr (2, [.ref pa, .int (zi ((pn : Int))), .ref ba, .int (zi ((bn : Int))), .ref ax, .ref ay, .int (zi ((ln : Int))), .ref sp, .ref ss, .int (zi ((sn : Int))), .ref vs, .ref fr])), (sp, .inl (cA, 60, .inl (zA (spf)))), (ss, .inl (cA, 60, .inl (zA (ssf)))), (ou, .inl (cL, 1, .inr (.inl (zB (of)))))] H := by rw [hHe]; exact hP
  rw [← hHe, ← hlc]
  refine rdV (As := [.int (zi (q)), .int (zi (how))]) (rest := [.int (zi (0)), .ref ou]) (n := 2) hx hb hml hown hg (c_vessels_0 l dC dI x0 pa ba ax ay sp ss vs fr pn bn ln sn cA spf ssf q how hsn hP9 hS9 hpn hq h0) (gwV wl_L_75 wm_X2_vessels we_X2_vessels wi_X2 wc_X2_vessels) rfl rfl (by decide +kernel) ⟨(Nat.le_of_ble_eq_true rfl), (Nat.le_of_ble_eq_true rfl)⟩ (hK.sub [0] rfl) (hP.sub [0, 1, 2] rfl) 0 rfl rfl rfl rfl hl.1 rfl (Nat.le_of_ble_eq_true rfl) dL_vessels_5 ⟨Nat.zero_le _, Nat.zero_le _⟩ ?_
  refine zz_i2lr hx hb dL_vessels_8 ?_
  refine zz_last hx hb hK hP hD hS 3 1 rfl rfl (0) (by omega) (by omega) (by decide) dL_vessels_9 (fun H locs hP hD hS => ?_)
  refine lv_goto (tgt := 17) hx hb dL_vessels_10 (by decide) ?_
  refine lv_iconst (v := zi (0)) hx hb dL_vessels_17 rfl ?_
  exact nw_i hx hb hr hlocks rfl (F := (fun w9 => w9 = [(x0, .inr (2, [.ref pa, .int (zi ((pn : Int))), .ref ba, .int (zi ((bn : Int))), .ref ax, .ref ay, .int (zi ((ln : Int))), .ref sp, .ref ss, .int (zi ((sn : Int))), .ref vs, .ref fr])), (sp, .inl (cA, 60, .inl (zA (spf)))), (ss, .inl (cA, 60, .inl (zA (ssf)))), (ou, .inl (cL, 1, .inr (.inl (zB (zupd of (0) ((zi ((Int.tdiv (s_sum spf ssf q sn + 999) 1000))).toInt))))))])) rfl hP hD hS dL_vessels_18
set_option maxHeartbeats 4000000 in
set_option maxRecDepth 100000 in
theorem h_c_vessels_1 (l : Launch) (dC : Nat → ClassId) (dI : Nat → Nat → Nat) (sz : Nat) (x0 pa ba ax ay sp ss vs fr : Nat) (pn bn ln sn : Nat) (cA : ClassId) (spf ssf : Nat → Int) (v0 : Nat → Int) (q how : Int) (hsn : sn ≤ 60) (hP9 : ∀ j, 0 ≤ spf j ∧ spf j ≤ 5) (hS9 : ∀ j, 0 ≤ ssf j ∧ ssf j ≤ 1000) (hpn : pn ≤ 6) (hq : 0 ≤ q ∧ q < pn) (hV0 : ∀ j, 0 ≤ v0 j ∧ v0 j ≤ 1000) (h1 : how = 1) (ou : Nat) (cL : ClassId) (of : Nat → Int) : Met l yL_vessels (Cond.codeWith yL_vessels cL_vessels 5 (Option.some Jvm.ClassFile.FieldType.int) [((0 : Nat), (10 : Nat), (13 : Nat), (19 : Nat))] :: gw) rh_vessels_0 (PcH [.ref x0, .int (zi (q)), .int (zi (how)), .ref ou] (dC, dI) vwCl [(x0, .inr (2, [.ref pa, .int (zi ((pn : Int))), .ref ba, .int (zi ((bn : Int))), .ref ax, .ref ay, .int (zi ((ln : Int))), .ref sp, .ref ss, .int (zi ((sn : Int))), .ref vs, .ref fr])), (sp, .inl (cA, 60, .inl (zA (spf)))), (ss, .inl (cA, 60, .inl (zA (ssf)))), (vs, .inl (cA, 60, .inl (zA (v0)))), (ou, .inl (cL, 1, .inr (.inl (zB (of)))))] [(cA, .int), (cL, .long)] sz) (NwQ (some (.int (zi (0)))) (dC, dI) vwCl (fun w9 => w9 = [(x0, .inr (2, [.ref pa, .int (zi ((pn : Int))), .ref ba, .int (zi ((bn : Int))), .ref ax, .ref ay, .int (zi ((ln : Int))), .ref sp, .ref ss, .int (zi ((sn : Int))), .ref vs, .ref fr])), (sp, .inl (cA, 60, .inl (zA (spf)))), (ss, .inl (cA, 60, .inl (zA (ssf)))), (vs, .inl (cA, 60, .inl (zA ((s_ves spf ssf q v0 sn).2)))), (ou, .inl (cL, 1, .inr (.inl (zB (zupd of (0) ((zi (((((s_ves spf ssf q v0 sn).1 : Nat)) : Int))).toInt))))))]) (va_A [(x0, .inr (2, [.ref pa, .int (zi ((pn : Int))), .ref ba, .int (zi ((bn : Int))), .ref ax, .ref ay, .int (zi ((ln : Int))), .ref sp, .ref ss, .int (zi ((sn : Int))), .ref vs, .ref fr])), (sp, .inl (cA, 60, .inl (zA (spf)))), (ss, .inl (cA, 60, .inl (zA (ssf)))), (vs, .inl (cA, 60, .inl (zA (v0)))), (ou, .inl (cL, 1, .inr (.inl (zB (of)))))] sz)) 0 0 (va_A [(x0, .inr (2, [.ref pa, .int (zi ((pn : Int))), .ref ba, .int (zi ((bn : Int))), .ref ax, .ref ay, .int (zi ((ln : Int))), .ref sp, .ref ss, .int (zi ((sn : Int))), .ref vs, .ref fr])), (sp, .inl (cA, 60, .inl (zA (spf)))), (ss, .inl (cA, 60, .inl (zA (ssf)))), (vs, .inl (cA, 60, .inl (zA (v0)))), (ou, .inl (cL, 1, .inr (.inl (zB (of)))))] sz) := by
  refine va_MetW (cc := cL_vessels) (maxL := 5) (ret := (Option.some Jvm.ClassFile.FieldType.int)) (hh := [((0 : Nat), (10 : Nat), (13 : Nat), (19 : Nat))]) (by decide) rfl ?_
  intro p e s m args below meth c s₁ B hml hv
  obtain ⟨hargs, hsz, hP, hK, hD0, hXA⟩ := hv
  have hx := B.exec
  have hb := B.bytes
  have hr := B.returns
  have hts := atoms_spec (ws := Cond.codeWith yL_vessels cL_vessels 5 (Option.some Jvm.ClassFile.FieldType.int) [((0 : Nat), (10 : Nat), (13 : Nat), (19 : Nat))] :: gw) B.pre
  have hg : ∀ w ∈ gw, w.before args s = true := fun w h => hts w (List.mem_cons_of_mem _ h)
  have hown : s.vm.findClass RL = some m.cls := findClass_of_methodNamed B.named
  have hlocks := B.notSynchronized
  have htab := vx_table (x := yL_vessels) B (hts _ List.mem_cons_self)
  subst hsz
  have hD := hD0.self (sz := s.heap.size)
  generalize hAe : va_A [(x0, .inr (2, [.ref pa, .int (zi ((pn : Int))), .ref ba, .int (zi ((bn : Int))), .ref ax, .ref ay, .int (zi ((ln : Int))), .ref sp, .ref ss, .int (zi ((sn : Int))), .ref vs, .ref fr])), (sp, .inl (cA, 60, .inl (zA (spf)))), (ss, .inl (cA, 60, .inl (zA (ssf)))), (vs, .inl (cA, 60, .inl (zA (v0)))), (ou, .inl (cL, 1, .inr (.inl (zB (of)))))] s.heap.size = A at hD ⊢
  have hA : ∀ q : Nat, s.heap.size ≤ q → A q := fun q h => by rw [← hAe]; exact Or.inr h
  show W p l e rh_vessels_0 s m args below meth c s.heap [] 0 0 _ _
  have hl := lv_entry ([.ref x0, .int (zi (q)), .int (zi (how)), .ref ou]) (n := 5) (Nat.le_of_ble_eq_true rfl)
  rw [show entryFrame m args 5 = entryFrame m ([.ref x0, .int (zi (q)), .int (zi (how)), .ref ou] : List Value).toArray 5 by rw [hargs], lg_entry_eq]
  generalize (lg_sl ([.ref x0, .int (zi (q)), .int (zi (how)), .ref ou]) ++ List.replicate (5 - (lg_sl ([.ref x0, .int (zi (q)), .int (zi (how)), .ref ou])).length) Slot.unset).toArray = ls at hl ⊢
  have hl : lv_has ls 5 [(0, .ref x0), (1, .int (zi (q))), (2, .int (zi (how))), (3, .ref ou)] := hl
  refine lv_aload_n hx hb dL_vessels_0 rfl (lv_at hl 3 rfl) ?_
  refine lv_iconst (v := zi (0)) hx hb dL_vessels_1 rfl ?_
  refine lv_aload_n hx hb dL_vessels_2 rfl (lv_at hl 0 rfl) ?_
  refine lv_iload_n hx hb dL_vessels_3 rfl (lv_at hl 1 rfl) ?_
  refine lv_iload_n hx hb dL_vessels_4 rfl (lv_at hl 2 rfl) ?_
  obtain ⟨H, hHe⟩ : ∃ H : Heap, H = s.heap := ⟨_, rfl⟩
  obtain ⟨locs, hlc⟩ : ∃ x : List Loc, x = [] := ⟨_, rfl⟩
  have hS : va_S A s.heap H locs := by rw [hHe, hlc]; exact va_S.rf
  have hP : va_P (dC, dI) vwCl [(x0, .inr (2, [.ref pa, .int (zi ((pn : Int))), .ref ba, .int (zi ((bn : Int))), .ref ax, .ref ay, .int (zi ((ln : Int))), .ref sp, .ref ss, .int (zi ((sn : Int))), .ref vs, .ref fr])), (sp, .inl (cA, 60, .inl (zA (spf)))), (ss, .inl (cA, 60, .inl (zA (ssf)))), (vs, .inl (cA, 60, .inl (zA (v0)))), (ou, .inl (cL, 1, .inr (.inl (zB (of)))))] H := by rw [hHe]; exact hP
  rw [← hHe, ← hlc]
  refine wrV (As := [.int (zi (q)), .int (zi (how))]) (rest := [.int (zi (0)), .ref ou]) (n := 2) (ws' := [(x0, .inr (2, [.ref pa, .int (zi ((pn : Int))), .ref ba, .int (zi ((bn : Int))), .ref ax, .ref ay, .int (zi ((ln : Int))), .ref sp, .ref ss, .int (zi ((sn : Int))), .ref vs, .ref fr])), (sp, .inl (cA, 60, .inl (zA (spf)))), (ss, .inl (cA, 60, .inl (zA (ssf)))), (vs, .inl (cA, 60, .inl (zA ((s_ves spf ssf q v0 sn).2)))), (ou, .inl (cL, 1, .inr (.inl (zB (of)))))]) hx hb hml hown hg (c_vessels_1 l dC dI H.size x0 pa ba ax ay sp ss vs fr pn bn ln sn cA spf ssf v0 q how hsn hP9 hS9 hpn hq hV0 h1) (gwV wl_L_75 wm_X2_vessels we_X2_vessels wi_X2 wc_X2_vessels) rfl rfl (by decide +kernel) ⟨(Nat.le_of_ble_eq_true rfl), (Nat.le_of_ble_eq_true rfl)⟩ (hK.sub [0] rfl) hP hD hS hA [0, 1, 2, 3] rfl (by decide) [(true, 0), (true, 1), (true, 2), (true, 3), (false, 4)] rfl (by decide) rfl 0 rfl rfl rfl rfl hl.1 rfl (Nat.le_of_ble_eq_true rfl) dL_vessels_5 ⟨Nat.zero_le _, Nat.zero_le _⟩ (fun H locs hP hD hS => ?_)
  refine zz_i2lr hx hb dL_vessels_8 ?_
  refine zz_last hx hb hK hP hD hS 4 1 rfl rfl (0) (by omega) (by omega) (by decide) dL_vessels_9 (fun H locs hP hD hS => ?_)
  refine lv_goto (tgt := 17) hx hb dL_vessels_10 (by decide) ?_
  refine lv_iconst (v := zi (0)) hx hb dL_vessels_17 rfl ?_
  exact nw_i hx hb hr hlocks rfl (F := (fun w9 => w9 = [(x0, .inr (2, [.ref pa, .int (zi ((pn : Int))), .ref ba, .int (zi ((bn : Int))), .ref ax, .ref ay, .int (zi ((ln : Int))), .ref sp, .ref ss, .int (zi ((sn : Int))), .ref vs, .ref fr])), (sp, .inl (cA, 60, .inl (zA (spf)))), (ss, .inl (cA, 60, .inl (zA (ssf)))), (vs, .inl (cA, 60, .inl (zA ((s_ves spf ssf q v0 sn).2)))), (ou, .inl (cL, 1, .inr (.inl (zB (zupd of (0) ((zi (((((s_ves spf ssf q v0 sn).1 : Nat)) : Int))).toInt))))))])) rfl hP hD hS dL_vessels_18
abbrev rh_vessels_1 : Room := { frames := 9, cells := 1, slots := 6, locals := 200 }
set_option maxHeartbeats 4000000 in
set_option maxRecDepth 100000 in
theorem h_t_vessels_p (l : Launch) (hl0 : l.stackTraces = false) (dC : Nat → ClassId) (dI : Nat → Nat → Nat) (sz : Nat) (x0 pa ba ax ay sp ss vs fr : Nat) (pn bn ln sn : Nat) (q how : Int) (hpn : pn ≤ 6) (h_q : -2147483648 ≤ q ∧ q < 2147483648) (hbad : ¬ (0 ≤ q ∧ q < pn)) (ou : Nat) (cL : ClassId) (of : Nat → Int) : Met l yL_vessels (Cond.codeWith yL_vessels cL_vessels 5 (Option.some Jvm.ClassFile.FieldType.int) [((0 : Nat), (10 : Nat), (13 : Nat), (19 : Nat))] :: gw) rh_vessels_1 (PcH [.ref x0, .int (zi (q)), .int (zi (how)), .ref ou] (dC, dI) vwCl [(x0, .inr (2, [.ref pa, .int (zi ((pn : Int))), .ref ba, .int (zi ((bn : Int))), .ref ax, .ref ay, .int (zi ((ln : Int))), .ref sp, .ref ss, .int (zi ((sn : Int))), .ref vs, .ref fr])), (ou, .inl (cL, 1, .inr (.inl (zB (of)))))] [(cL, .long)] sz) (NwQ (some (.int (zi (1)))) (dC, dI) vwCl (fun w9 => w9 = [(x0, .inr (2, [.ref pa, .int (zi ((pn : Int))), .ref ba, .int (zi ((bn : Int))), .ref ax, .ref ay, .int (zi ((ln : Int))), .ref sp, .ref ss, .int (zi ((sn : Int))), .ref vs, .ref fr])), (ou, .inl (cL, 1, .inr (.inl (zB (of)))))]) (va_A [(x0, .inr (2, [.ref pa, .int (zi ((pn : Int))), .ref ba, .int (zi ((bn : Int))), .ref ax, .ref ay, .int (zi ((ln : Int))), .ref sp, .ref ss, .int (zi ((sn : Int))), .ref vs, .ref fr])), (ou, .inl (cL, 1, .inr (.inl (zB (of)))))] sz)) 1 6 (va_A [(x0, .inr (2, [.ref pa, .int (zi ((pn : Int))), .ref ba, .int (zi ((bn : Int))), .ref ax, .ref ay, .int (zi ((ln : Int))), .ref sp, .ref ss, .int (zi ((sn : Int))), .ref vs, .ref fr])), (ou, .inl (cL, 1, .inr (.inl (zB (of)))))] sz) := by
  refine va_MetW (cc := cL_vessels) (maxL := 5) (ret := (Option.some Jvm.ClassFile.FieldType.int)) (hh := [((0 : Nat), (10 : Nat), (13 : Nat), (19 : Nat))]) (by decide) rfl ?_
  intro p e s m args below meth c s₁ B hml hv
  obtain ⟨hargs, hsz, hP, hK, hD0, hXA⟩ := hv
  have hx := B.exec
  have hb := B.bytes
  have hr := B.returns
  have hts := atoms_spec (ws := Cond.codeWith yL_vessels cL_vessels 5 (Option.some Jvm.ClassFile.FieldType.int) [((0 : Nat), (10 : Nat), (13 : Nat), (19 : Nat))] :: gw) B.pre
  have hg : ∀ w ∈ gw, w.before args s = true := fun w h => hts w (List.mem_cons_of_mem _ h)
  have hown : s.vm.findClass RL = some m.cls := findClass_of_methodNamed B.named
  have hlocks := B.notSynchronized
  have htab := vx_table (x := yL_vessels) B (hts _ List.mem_cons_self)
  subst hsz
  have hD := hD0.self (sz := s.heap.size)
  generalize hAe : va_A [(x0, .inr (2, [.ref pa, .int (zi ((pn : Int))), .ref ba, .int (zi ((bn : Int))), .ref ax, .ref ay, .int (zi ((ln : Int))), .ref sp, .ref ss, .int (zi ((sn : Int))), .ref vs, .ref fr])), (ou, .inl (cL, 1, .inr (.inl (zB (of)))))] s.heap.size = A at hD ⊢
  have hA : ∀ q : Nat, s.heap.size ≤ q → A q := fun q h => by rw [← hAe]; exact Or.inr h
  show W p l e rh_vessels_1 s m args below meth c s.heap [] 0 0 _ _
  have hl := lv_entry ([.ref x0, .int (zi (q)), .int (zi (how)), .ref ou]) (n := 5) (Nat.le_of_ble_eq_true rfl)
  rw [show entryFrame m args 5 = entryFrame m ([.ref x0, .int (zi (q)), .int (zi (how)), .ref ou] : List Value).toArray 5 by rw [hargs], lg_entry_eq]
  generalize (lg_sl ([.ref x0, .int (zi (q)), .int (zi (how)), .ref ou]) ++ List.replicate (5 - (lg_sl ([.ref x0, .int (zi (q)), .int (zi (how)), .ref ou])).length) Slot.unset).toArray = ls at hl ⊢
  have hl : lv_has ls 5 [(0, .ref x0), (1, .int (zi (q))), (2, .int (zi (how))), (3, .ref ou)] := hl
  refine lv_aload_n hx hb dL_vessels_0 rfl (lv_at hl 3 rfl) ?_
  refine lv_iconst (v := zi (0)) hx hb dL_vessels_1 rfl ?_
  refine lv_aload_n hx hb dL_vessels_2 rfl (lv_at hl 0 rfl) ?_
  refine lv_iload_n hx hb dL_vessels_3 rfl (lv_at hl 1 rfl) ?_
  refine lv_iload_n hx hb dL_vessels_4 rfl (lv_at hl 2 rfl) ?_
  refine thKV (As := [.int (zi (q)), .int (zi (how))]) (rest := [.int (zi (0)), .ref ou]) (n := 2) hx hb hml hown hg (t_vessels_p l hl0 dC dI x0 pa ba ax ay sp ss vs fr pn bn ln sn q how hpn h_q hbad) (gwV wl_L_75 wm_X2_vessels we_X2_vessels wi_X2 wc_X2_vessels) rfl rfl (by decide +kernel) ⟨(Nat.le_of_ble_eq_true rfl), (Nat.le_of_ble_eq_true rfl)⟩ (hK.sub [] rfl) (hP.sub [0] rfl) hXA.1 0 rfl rfl rfl rfl hl.1 rfl (Nat.le_of_ble_eq_true rfl) dL_vessels_5 ⟨(Nat.le_of_ble_eq_true rfl), (Nat.le_of_ble_eq_true rfl)⟩ (fun q9 ce H1 locs1 hcell hcv hcl hS0 => ?_)
  refine vx_catch (E := KI) (name := KI) hown [] ⟨0, 10, 13, 19⟩ [] htab (fun z hz => by cases hz) (by decide) (by decide) (hg _ wl_L_19) (va_Nw.use rfl (hXA.1.1 KI (by decide))) hcell hcv hcl ?_
  refine lv_astore (lv' := [(4, .ref q9), (0, .ref x0), (1, .int (zi (q))), (2, .int (zi (how))), (3, .ref ou)]) hx hb dL_vessels_13 hl (by decide) rfl (fun ls hl => ?_)
  refine lv_iconst (v := zi (1)) hx hb dL_vessels_15 rfl ?_
  exact nw_i hx hb hr hlocks rfl (F := (fun w9 => w9 = [(x0, .inr (2, [.ref pa, .int (zi ((pn : Int))), .ref ba, .int (zi ((bn : Int))), .ref ax, .ref ay, .int (zi ((ln : Int))), .ref sp, .ref ss, .int (zi ((sn : Int))), .ref vs, .ref fr])), (ou, .inl (cL, 1, .inr (.inl (zB (of)))))])) rfl (thP hP hS0) hD (thS0 hS0) dL_vessels_16
set_option maxHeartbeats 4000000 in
set_option maxRecDepth 100000 in
theorem h_t_vessels_w (l : Launch) (hl0 : l.stackTraces = false) (dC : Nat → ClassId) (dI : Nat → Nat → Nat) (sz : Nat) (x0 pa ba ax ay sp ss vs fr : Nat) (pn bn ln sn : Nat) (q how : Int) (hpn : pn ≤ 6) (hq : 0 ≤ q ∧ q < pn) (h_how : -2147483648 ≤ how ∧ how < 2147483648) (hbad : ¬ (how = 0 ∨ how = 1)) (ou : Nat) (cL : ClassId) (of : Nat → Int) : Met l yL_vessels (Cond.codeWith yL_vessels cL_vessels 5 (Option.some Jvm.ClassFile.FieldType.int) [((0 : Nat), (10 : Nat), (13 : Nat), (19 : Nat))] :: gw) rh_vessels_1 (PcH [.ref x0, .int (zi (q)), .int (zi (how)), .ref ou] (dC, dI) vwCl [(x0, .inr (2, [.ref pa, .int (zi ((pn : Int))), .ref ba, .int (zi ((bn : Int))), .ref ax, .ref ay, .int (zi ((ln : Int))), .ref sp, .ref ss, .int (zi ((sn : Int))), .ref vs, .ref fr])), (ou, .inl (cL, 1, .inr (.inl (zB (of)))))] [(cL, .long)] sz) (NwQ (some (.int (zi (1)))) (dC, dI) vwCl (fun w9 => w9 = [(x0, .inr (2, [.ref pa, .int (zi ((pn : Int))), .ref ba, .int (zi ((bn : Int))), .ref ax, .ref ay, .int (zi ((ln : Int))), .ref sp, .ref ss, .int (zi ((sn : Int))), .ref vs, .ref fr])), (ou, .inl (cL, 1, .inr (.inl (zB (of)))))]) (va_A [(x0, .inr (2, [.ref pa, .int (zi ((pn : Int))), .ref ba, .int (zi ((bn : Int))), .ref ax, .ref ay, .int (zi ((ln : Int))), .ref sp, .ref ss, .int (zi ((sn : Int))), .ref vs, .ref fr])), (ou, .inl (cL, 1, .inr (.inl (zB (of)))))] sz)) 1 6 (va_A [(x0, .inr (2, [.ref pa, .int (zi ((pn : Int))), .ref ba, .int (zi ((bn : Int))), .ref ax, .ref ay, .int (zi ((ln : Int))), .ref sp, .ref ss, .int (zi ((sn : Int))), .ref vs, .ref fr])), (ou, .inl (cL, 1, .inr (.inl (zB (of)))))] sz) := by
  refine va_MetW (cc := cL_vessels) (maxL := 5) (ret := (Option.some Jvm.ClassFile.FieldType.int)) (hh := [((0 : Nat), (10 : Nat), (13 : Nat), (19 : Nat))]) (by decide) rfl ?_
  intro p e s m args below meth c s₁ B hml hv
  obtain ⟨hargs, hsz, hP, hK, hD0, hXA⟩ := hv
  have hx := B.exec
  have hb := B.bytes
  have hr := B.returns
  have hts := atoms_spec (ws := Cond.codeWith yL_vessels cL_vessels 5 (Option.some Jvm.ClassFile.FieldType.int) [((0 : Nat), (10 : Nat), (13 : Nat), (19 : Nat))] :: gw) B.pre
  have hg : ∀ w ∈ gw, w.before args s = true := fun w h => hts w (List.mem_cons_of_mem _ h)
  have hown : s.vm.findClass RL = some m.cls := findClass_of_methodNamed B.named
  have hlocks := B.notSynchronized
  have htab := vx_table (x := yL_vessels) B (hts _ List.mem_cons_self)
  subst hsz
  have hD := hD0.self (sz := s.heap.size)
  generalize hAe : va_A [(x0, .inr (2, [.ref pa, .int (zi ((pn : Int))), .ref ba, .int (zi ((bn : Int))), .ref ax, .ref ay, .int (zi ((ln : Int))), .ref sp, .ref ss, .int (zi ((sn : Int))), .ref vs, .ref fr])), (ou, .inl (cL, 1, .inr (.inl (zB (of)))))] s.heap.size = A at hD ⊢
  have hA : ∀ q : Nat, s.heap.size ≤ q → A q := fun q h => by rw [← hAe]; exact Or.inr h
  show W p l e rh_vessels_1 s m args below meth c s.heap [] 0 0 _ _
  have hl := lv_entry ([.ref x0, .int (zi (q)), .int (zi (how)), .ref ou]) (n := 5) (Nat.le_of_ble_eq_true rfl)
  rw [show entryFrame m args 5 = entryFrame m ([.ref x0, .int (zi (q)), .int (zi (how)), .ref ou] : List Value).toArray 5 by rw [hargs], lg_entry_eq]
  generalize (lg_sl ([.ref x0, .int (zi (q)), .int (zi (how)), .ref ou]) ++ List.replicate (5 - (lg_sl ([.ref x0, .int (zi (q)), .int (zi (how)), .ref ou])).length) Slot.unset).toArray = ls at hl ⊢
  have hl : lv_has ls 5 [(0, .ref x0), (1, .int (zi (q))), (2, .int (zi (how))), (3, .ref ou)] := hl
  refine lv_aload_n hx hb dL_vessels_0 rfl (lv_at hl 3 rfl) ?_
  refine lv_iconst (v := zi (0)) hx hb dL_vessels_1 rfl ?_
  refine lv_aload_n hx hb dL_vessels_2 rfl (lv_at hl 0 rfl) ?_
  refine lv_iload_n hx hb dL_vessels_3 rfl (lv_at hl 1 rfl) ?_
  refine lv_iload_n hx hb dL_vessels_4 rfl (lv_at hl 2 rfl) ?_
  refine thKV (As := [.int (zi (q)), .int (zi (how))]) (rest := [.int (zi (0)), .ref ou]) (n := 2) hx hb hml hown hg (t_vessels_w l hl0 dC dI x0 pa ba ax ay sp ss vs fr pn bn ln sn q how hpn hq h_how hbad) (gwV wl_L_75 wm_X2_vessels we_X2_vessels wi_X2 wc_X2_vessels) rfl rfl (by decide +kernel) ⟨(Nat.le_of_ble_eq_true rfl), (Nat.le_of_ble_eq_true rfl)⟩ (hK.sub [] rfl) (hP.sub [0] rfl) hXA.1 0 rfl rfl rfl rfl hl.1 rfl (Nat.le_of_ble_eq_true rfl) dL_vessels_5 ⟨(Nat.le_of_ble_eq_true rfl), (Nat.le_of_ble_eq_true rfl)⟩ (fun q9 ce H1 locs1 hcell hcv hcl hS0 => ?_)
  refine vx_catch (E := KI) (name := KI) hown [] ⟨0, 10, 13, 19⟩ [] htab (fun z hz => by cases hz) (by decide) (by decide) (hg _ wl_L_19) (va_Nw.use rfl (hXA.1.1 KI (by decide))) hcell hcv hcl ?_
  refine lv_astore (lv' := [(4, .ref q9), (0, .ref x0), (1, .int (zi (q))), (2, .int (zi (how))), (3, .ref ou)]) hx hb dL_vessels_13 hl (by decide) rfl (fun ls hl => ?_)
  refine lv_iconst (v := zi (1)) hx hb dL_vessels_15 rfl ?_
  exact nw_i hx hb hr hlocks rfl (F := (fun w9 => w9 = [(x0, .inr (2, [.ref pa, .int (zi ((pn : Int))), .ref ba, .int (zi ((bn : Int))), .ref ax, .ref ay, .int (zi ((ln : Int))), .ref sp, .ref ss, .int (zi ((sn : Int))), .ref vs, .ref fr])), (ou, .inl (cL, 1, .inr (.inl (zB (of)))))])) rfl (thP hP hS0) hD (thS0 hS0) dL_vessels_16
abbrev rh_count_0 : Room := { frames := 9, cells := 0, slots := 0, locals := 200 }
set_option maxHeartbeats 4000000 in
set_option maxRecDepth 100000 in
theorem h_c_count (l : Launch) (dC : Nat → ClassId) (dI : Nat → Nat → Nat) (sz : Nat) (x0 pa ba ax ay sp ss vs fr : Nat) (pn bn ln sn : Nat) (what : Int) (hw9 : 0 ≤ what ∧ what ≤ 3) (ou : Nat) (cL : ClassId) (of : Nat → Int) : Met l yL_count (Cond.codeWith yL_count cL_count 4 (Option.some Jvm.ClassFile.FieldType.int) [((0 : Nat), (9 : Nat), (12 : Nat), (19 : Nat))] :: gw) rh_count_0 (PcH [.ref x0, .int (zi (what)), .ref ou] (dC, dI) vwCl [(x0, .inr (2, [.ref pa, .int (zi ((pn : Int))), .ref ba, .int (zi ((bn : Int))), .ref ax, .ref ay, .int (zi ((ln : Int))), .ref sp, .ref ss, .int (zi ((sn : Int))), .ref vs, .ref fr])), (ou, .inl (cL, 1, .inr (.inl (zB (of)))))] [(cL, .long)] sz) (NwQ (some (.int (zi (0)))) (dC, dI) vwCl (fun w9 => w9 = [(x0, .inr (2, [.ref pa, .int (zi ((pn : Int))), .ref ba, .int (zi ((bn : Int))), .ref ax, .ref ay, .int (zi ((ln : Int))), .ref sp, .ref ss, .int (zi ((sn : Int))), .ref vs, .ref fr])), (ou, .inl (cL, 1, .inr (.inl (zB (zupd of (0) ((zi ((if what = 0 then (pn : Int) else if what = 1 then (bn : Int) else if what = 2 then (ln : Int) else (sn : Int)))).toInt))))))]) (va_A [(x0, .inr (2, [.ref pa, .int (zi ((pn : Int))), .ref ba, .int (zi ((bn : Int))), .ref ax, .ref ay, .int (zi ((ln : Int))), .ref sp, .ref ss, .int (zi ((sn : Int))), .ref vs, .ref fr])), (ou, .inl (cL, 1, .inr (.inl (zB (of)))))] sz)) 0 0 (va_A [(x0, .inr (2, [.ref pa, .int (zi ((pn : Int))), .ref ba, .int (zi ((bn : Int))), .ref ax, .ref ay, .int (zi ((ln : Int))), .ref sp, .ref ss, .int (zi ((sn : Int))), .ref vs, .ref fr])), (ou, .inl (cL, 1, .inr (.inl (zB (of)))))] sz) := by
  refine va_MetW (cc := cL_count) (maxL := 4) (ret := (Option.some Jvm.ClassFile.FieldType.int)) (hh := [((0 : Nat), (9 : Nat), (12 : Nat), (19 : Nat))]) (by decide) rfl ?_
  intro p e s m args below meth c s₁ B hml hv
  obtain ⟨hargs, hsz, hP, hK, hD0, hXA⟩ := hv
  have hx := B.exec
  have hb := B.bytes
  have hr := B.returns
  have hts := atoms_spec (ws := Cond.codeWith yL_count cL_count 4 (Option.some Jvm.ClassFile.FieldType.int) [((0 : Nat), (9 : Nat), (12 : Nat), (19 : Nat))] :: gw) B.pre
  have hg : ∀ w ∈ gw, w.before args s = true := fun w h => hts w (List.mem_cons_of_mem _ h)
  have hown : s.vm.findClass RL = some m.cls := findClass_of_methodNamed B.named
  have hlocks := B.notSynchronized
  have htab := vx_table (x := yL_count) B (hts _ List.mem_cons_self)
  subst hsz
  have hD := hD0.self (sz := s.heap.size)
  generalize hAe : va_A [(x0, .inr (2, [.ref pa, .int (zi ((pn : Int))), .ref ba, .int (zi ((bn : Int))), .ref ax, .ref ay, .int (zi ((ln : Int))), .ref sp, .ref ss, .int (zi ((sn : Int))), .ref vs, .ref fr])), (ou, .inl (cL, 1, .inr (.inl (zB (of)))))] s.heap.size = A at hD ⊢
  have hA : ∀ q : Nat, s.heap.size ≤ q → A q := fun q h => by rw [← hAe]; exact Or.inr h
  show W p l e rh_count_0 s m args below meth c s.heap [] 0 0 _ _
  have hl := lv_entry ([.ref x0, .int (zi (what)), .ref ou]) (n := 4) (Nat.le_of_ble_eq_true rfl)
  rw [show entryFrame m args 4 = entryFrame m ([.ref x0, .int (zi (what)), .ref ou] : List Value).toArray 4 by rw [hargs], lg_entry_eq]
  generalize (lg_sl ([.ref x0, .int (zi (what)), .ref ou]) ++ List.replicate (4 - (lg_sl ([.ref x0, .int (zi (what)), .ref ou])).length) Slot.unset).toArray = ls at hl ⊢
  have hl : lv_has ls 4 [(0, .ref x0), (1, .int (zi (what))), (2, .ref ou)] := hl
  refine lv_aload_n hx hb dL_count_0 rfl (lv_at hl 2 rfl) ?_
  refine lv_iconst (v := zi (0)) hx hb dL_count_1 rfl ?_
  refine lv_aload_n hx hb dL_count_2 rfl (lv_at hl 0 rfl) ?_
  refine lv_iload_n hx hb dL_count_3 rfl (lv_at hl 1 rfl) ?_
  obtain ⟨H, hHe⟩ : ∃ H : Heap, H = s.heap := ⟨_, rfl⟩
  obtain ⟨locs, hlc⟩ : ∃ x : List Loc, x = [] := ⟨_, rfl⟩
  have hS : va_S A s.heap H locs := by rw [hHe, hlc]; exact va_S.rf
  have hP : va_P (dC, dI) vwCl [(x0, .inr (2, [.ref pa, .int (zi ((pn : Int))), .ref ba, .int (zi ((bn : Int))), .ref ax, .ref ay, .int (zi ((ln : Int))), .ref sp, .ref ss, .int (zi ((sn : Int))), .ref vs, .ref fr])), (ou, .inl (cL, 1, .inr (.inl (zB (of)))))] H := by rw [hHe]; exact hP
  rw [← hHe, ← hlc]
  refine rdV (As := [.int (zi (what))]) (rest := [.int (zi (0)), .ref ou]) (n := 1) hx hb hml hown hg (c_count l dC dI x0 pa ba ax ay sp ss vs fr pn bn ln sn what hw9) (gwV wl_L_78 wm_X2_count we_X2_count wi_X2 wc_X2_count) rfl rfl (by decide +kernel) ⟨(Nat.le_of_ble_eq_true rfl), (Nat.le_of_ble_eq_true rfl)⟩ (hK.sub [] rfl) (hP.sub [0] rfl) 0 rfl rfl rfl rfl hl.1 rfl (Nat.le_of_ble_eq_true rfl) dL_count_4 ⟨Nat.zero_le _, Nat.zero_le _⟩ ?_
  refine zz_i2lr hx hb dL_count_7 ?_
  refine zz_last hx hb hK hP hD hS 1 0 rfl rfl (0) (by omega) (by omega) (by decide) dL_count_8 (fun H locs hP hD hS => ?_)
  refine lv_goto (tgt := 15) hx hb dL_count_9 (by decide) ?_
  refine lv_iconst (v := zi (0)) hx hb dL_count_15 rfl ?_
  exact nw_i hx hb hr hlocks rfl (F := (fun w9 => w9 = [(x0, .inr (2, [.ref pa, .int (zi ((pn : Int))), .ref ba, .int (zi ((bn : Int))), .ref ax, .ref ay, .int (zi ((ln : Int))), .ref sp, .ref ss, .int (zi ((sn : Int))), .ref vs, .ref fr])), (ou, .inl (cL, 1, .inr (.inl (zB (zupd of (0) ((zi ((if what = 0 then (pn : Int) else if what = 1 then (bn : Int) else if what = 2 then (ln : Int) else (sn : Int)))).toInt))))))])) rfl hP hD hS dL_count_16
abbrev rh_count_1 : Room := { frames := 9, cells := 1, slots := 6, locals := 200 }
set_option maxHeartbeats 4000000 in
set_option maxRecDepth 100000 in
theorem h_t_count_I (l : Launch) (hl0 : l.stackTraces = false) (dC : Nat → ClassId) (dI : Nat → Nat → Nat) (sz : Nat) (x0 pa ba ax ay sp ss vs fr : Nat) (pn bn ln sn : Nat) (what : Int) (h_what : -2147483648 ≤ what ∧ what < 2147483648) (hbad : ¬ (0 ≤ what ∧ what ≤ 3)) (ou : Nat) (cL : ClassId) (of : Nat → Int) : Met l yL_count (Cond.codeWith yL_count cL_count 4 (Option.some Jvm.ClassFile.FieldType.int) [((0 : Nat), (9 : Nat), (12 : Nat), (19 : Nat))] :: gw) rh_count_1 (PcH [.ref x0, .int (zi (what)), .ref ou] (dC, dI) vwCl [(x0, .inr (2, [.ref pa, .int (zi ((pn : Int))), .ref ba, .int (zi ((bn : Int))), .ref ax, .ref ay, .int (zi ((ln : Int))), .ref sp, .ref ss, .int (zi ((sn : Int))), .ref vs, .ref fr])), (ou, .inl (cL, 1, .inr (.inl (zB (of)))))] [(cL, .long)] sz) (NwQ (some (.int (zi (1)))) (dC, dI) vwCl (fun w9 => w9 = [(x0, .inr (2, [.ref pa, .int (zi ((pn : Int))), .ref ba, .int (zi ((bn : Int))), .ref ax, .ref ay, .int (zi ((ln : Int))), .ref sp, .ref ss, .int (zi ((sn : Int))), .ref vs, .ref fr])), (ou, .inl (cL, 1, .inr (.inl (zB (of)))))]) (va_A [(x0, .inr (2, [.ref pa, .int (zi ((pn : Int))), .ref ba, .int (zi ((bn : Int))), .ref ax, .ref ay, .int (zi ((ln : Int))), .ref sp, .ref ss, .int (zi ((sn : Int))), .ref vs, .ref fr])), (ou, .inl (cL, 1, .inr (.inl (zB (of)))))] sz)) 1 6 (va_A [(x0, .inr (2, [.ref pa, .int (zi ((pn : Int))), .ref ba, .int (zi ((bn : Int))), .ref ax, .ref ay, .int (zi ((ln : Int))), .ref sp, .ref ss, .int (zi ((sn : Int))), .ref vs, .ref fr])), (ou, .inl (cL, 1, .inr (.inl (zB (of)))))] sz) := by
  refine va_MetW (cc := cL_count) (maxL := 4) (ret := (Option.some Jvm.ClassFile.FieldType.int)) (hh := [((0 : Nat), (9 : Nat), (12 : Nat), (19 : Nat))]) (by decide) rfl ?_
  intro p e s m args below meth c s₁ B hml hv
  obtain ⟨hargs, hsz, hP, hK, hD0, hXA⟩ := hv
  have hx := B.exec
  have hb := B.bytes
  have hr := B.returns
  have hts := atoms_spec (ws := Cond.codeWith yL_count cL_count 4 (Option.some Jvm.ClassFile.FieldType.int) [((0 : Nat), (9 : Nat), (12 : Nat), (19 : Nat))] :: gw) B.pre
  have hg : ∀ w ∈ gw, w.before args s = true := fun w h => hts w (List.mem_cons_of_mem _ h)
  have hown : s.vm.findClass RL = some m.cls := findClass_of_methodNamed B.named
  have hlocks := B.notSynchronized
  have htab := vx_table (x := yL_count) B (hts _ List.mem_cons_self)
  subst hsz
  have hD := hD0.self (sz := s.heap.size)
  generalize hAe : va_A [(x0, .inr (2, [.ref pa, .int (zi ((pn : Int))), .ref ba, .int (zi ((bn : Int))), .ref ax, .ref ay, .int (zi ((ln : Int))), .ref sp, .ref ss, .int (zi ((sn : Int))), .ref vs, .ref fr])), (ou, .inl (cL, 1, .inr (.inl (zB (of)))))] s.heap.size = A at hD ⊢
  have hA : ∀ q : Nat, s.heap.size ≤ q → A q := fun q h => by rw [← hAe]; exact Or.inr h
  show W p l e rh_count_1 s m args below meth c s.heap [] 0 0 _ _
  have hl := lv_entry ([.ref x0, .int (zi (what)), .ref ou]) (n := 4) (Nat.le_of_ble_eq_true rfl)
  rw [show entryFrame m args 4 = entryFrame m ([.ref x0, .int (zi (what)), .ref ou] : List Value).toArray 4 by rw [hargs], lg_entry_eq]
  generalize (lg_sl ([.ref x0, .int (zi (what)), .ref ou]) ++ List.replicate (4 - (lg_sl ([.ref x0, .int (zi (what)), .ref ou])).length) Slot.unset).toArray = ls at hl ⊢
  have hl : lv_has ls 4 [(0, .ref x0), (1, .int (zi (what))), (2, .ref ou)] := hl
  refine lv_aload_n hx hb dL_count_0 rfl (lv_at hl 2 rfl) ?_
  refine lv_iconst (v := zi (0)) hx hb dL_count_1 rfl ?_
  refine lv_aload_n hx hb dL_count_2 rfl (lv_at hl 0 rfl) ?_
  refine lv_iload_n hx hb dL_count_3 rfl (lv_at hl 1 rfl) ?_
  refine thKV (As := [.int (zi (what))]) (rest := [.int (zi (0)), .ref ou]) (n := 1) hx hb hml hown hg (t_count_I l hl0 dC dI x0 pa ba ax ay sp ss vs fr pn bn ln sn what h_what hbad) (gwV wl_L_78 wm_X2_count we_X2_count wi_X2 wc_X2_count) rfl rfl (by decide +kernel) ⟨(Nat.le_of_ble_eq_true rfl), (Nat.le_of_ble_eq_true rfl)⟩ (hK.sub [] rfl) (hP.sub [0] rfl) hXA.1 0 rfl rfl rfl rfl hl.1 rfl (Nat.le_of_ble_eq_true rfl) dL_count_4 ⟨(Nat.le_of_ble_eq_true rfl), (Nat.le_of_ble_eq_true rfl)⟩ (fun q9 ce H1 locs1 hcell hcv hcl hS0 => ?_)
  refine vx_catch (E := KI) (name := KI) hown [] ⟨0, 9, 12, 19⟩ [] htab (fun z hz => by cases hz) (by decide) (by decide) (hg _ wl_L_19) (va_Nw.use rfl (hXA.1.1 KI (by decide))) hcell hcv hcl ?_
  refine lv_astore_n (lv' := [(3, .ref q9), (0, .ref x0), (1, .int (zi (what))), (2, .ref ou)]) hx hb dL_count_12 rfl hl (by decide) rfl (fun ls hl => ?_)
  refine lv_iconst (v := zi (1)) hx hb dL_count_13 rfl ?_
  exact nw_i hx hb hr hlocks rfl (F := (fun w9 => w9 = [(x0, .inr (2, [.ref pa, .int (zi ((pn : Int))), .ref ba, .int (zi ((bn : Int))), .ref ax, .ref ay, .int (zi ((ln : Int))), .ref sp, .ref ss, .int (zi ((sn : Int))), .ref vs, .ref fr])), (ou, .inl (cL, 1, .inr (.inl (zB (of)))))])) rfl (thP hP hS0) hD (thS0 hS0) dL_count_14
