abbrev rh_drawn_0 : Room := { frames := 9, cells := 0, slots := 0, locals := 200 }
set_option maxHeartbeats 4000000 in
set_option maxRecDepth 100000 in
theorem h_c_drawn (l : Launch) (dC : Nat → ClassId) (dI : Nat → Nat → Nat) (sz : Nat) (x0 pa ba ax ay sp ss vs fr : Nat) (pn bn ln sn : Nat) (cQ : ClassId) (pf : Nat → Option Nat) (h0 h1 h2 : Nat) (cA : ClassId) (n : Nat) (th wc : Int) (hs rs : Nat → Int) (j : Nat) (k what : Int) (hn : n ≤ 12) (hH : ∀ j, 0 ≤ hs j ∧ hs j ≤ 400) (hR : ∀ j, 0 ≤ rs j ∧ rs j ≤ 200) (hj : j < 6) (hf : pf j = some h0) (h_k : -2147483648 ≤ k ∧ k < 2147483648) (h_what : -2147483648 ≤ what ∧ what < 2147483648) (hwh : what = 0 ∨ what = 1) (hok : k = -1 ∨ (0 ≤ k ∧ 0 ≤ p_drw n rs k ∧ p_drw n rs k < n)) (ou : Nat) (cL : ClassId) (of : Nat → Int) : Met l yL_drawn (Cond.codeWith yL_drawn cL_drawn 6 (Option.some Jvm.ClassFile.FieldType.int) [((0 : Nat), (12 : Nat), (15 : Nat), (19 : Nat))] :: gw) rh_drawn_0 (PcH [.ref x0, .int (zi ((j : Int))), .int (zi (k)), .int (zi (what)), .ref ou] (dC, dI) vwCl [(x0, .inr (2, [.ref pa, .int (zi ((pn : Int))), .ref ba, .int (zi ((bn : Int))), .ref ax, .ref ay, .int (zi ((ln : Int))), .ref sp, .ref ss, .int (zi ((sn : Int))), .ref vs, .ref fr])), (pa, .inl (cQ, 6, .inr (.inr (.inr (.inr (pf)))))), (h0, .inr (1, [.ref h1, .ref h2, .int (zi ((n : Int))), .int (zi (th)), .int (zi (wc))])), (h1, .inl (cA, 12, .inl (zA (hs)))), (h2, .inl (cA, 12, .inl (zA (rs)))), (ou, .inl (cL, 1, .inr (.inl (zB (of)))))] [(cQ, .object "PotVolumes$Profile"), (cA, .int), (cL, .long)] sz) (NwQ (some (.int (zi (0)))) (dC, dI) vwCl (fun w9 => w9 = [(x0, .inr (2, [.ref pa, .int (zi ((pn : Int))), .ref ba, .int (zi ((bn : Int))), .ref ax, .ref ay, .int (zi ((ln : Int))), .ref sp, .ref ss, .int (zi ((sn : Int))), .ref vs, .ref fr])), (pa, .inl (cQ, 6, .inr (.inr (.inr (.inr (pf)))))), (h0, .inr (1, [.ref h1, .ref h2, .int (zi ((n : Int))), .int (zi (th)), .int (zi (wc))])), (h1, .inl (cA, 12, .inl (zA (hs)))), (h2, .inl (cA, 12, .inl (zA (rs)))), (ou, .inl (cL, 1, .inr (.inl (zB (zupd of (0) ((zi ((p_drawn n hs rs k what))).toInt))))))]) (va_A [(x0, .inr (2, [.ref pa, .int (zi ((pn : Int))), .ref ba, .int (zi ((bn : Int))), .ref ax, .ref ay, .int (zi ((ln : Int))), .ref sp, .ref ss, .int (zi ((sn : Int))), .ref vs, .ref fr])), (pa, .inl (cQ, 6, .inr (.inr (.inr (.inr (pf)))))), (h0, .inr (1, [.ref h1, .ref h2, .int (zi ((n : Int))), .int (zi (th)), .int (zi (wc))])), (h1, .inl (cA, 12, .inl (zA (hs)))), (h2, .inl (cA, 12, .inl (zA (rs)))), (ou, .inl (cL, 1, .inr (.inl (zB (of)))))] sz)) 0 0 (va_A [(x0, .inr (2, [.ref pa, .int (zi ((pn : Int))), .ref ba, .int (zi ((bn : Int))), .ref ax, .ref ay, .int (zi ((ln : Int))), .ref sp, .ref ss, .int (zi ((sn : Int))), .ref vs, .ref fr])), (pa, .inl (cQ, 6, .inr (.inr (.inr (.inr (pf)))))), (h0, .inr (1, [.ref h1, .ref h2, .int (zi ((n : Int))), .int (zi (th)), .int (zi (wc))])), (h1, .inl (cA, 12, .inl (zA (hs)))), (h2, .inl (cA, 12, .inl (zA (rs)))), (ou, .inl (cL, 1, .inr (.inl (zB (of)))))] sz) := by
  refine va_MetW (cc := cL_drawn) (maxL := 6) (ret := (Option.some Jvm.ClassFile.FieldType.int)) (hh := [((0 : Nat), (12 : Nat), (15 : Nat), (19 : Nat))]) (by decide) rfl ?_
  intro p e s m args below meth c s₁ B hml hv
  obtain ⟨hargs, hsz, hP, hK, hD0, hXA⟩ := hv
  have hx := B.exec
  have hb := B.bytes
  have hr := B.returns
  have hts := atoms_spec (ws := Cond.codeWith yL_drawn cL_drawn 6 (Option.some Jvm.ClassFile.FieldType.int) [((0 : Nat), (12 : Nat), (15 : Nat), (19 : Nat))] :: gw) B.pre
  have hg : ∀ w ∈ gw, w.before args s = true := fun w h => hts w (List.mem_cons_of_mem _ h)
  have hown : s.vm.findClass RL = some m.cls := findClass_of_methodNamed B.named
  have hlocks := B.notSynchronized
  have htab := vx_table (x := yL_drawn) B (hts _ List.mem_cons_self)
  subst hsz
  have hD := hD0.self (sz := s.heap.size)
  generalize hAe : va_A [(x0, .inr (2, [.ref pa, .int (zi ((pn : Int))), .ref ba, .int (zi ((bn : Int))), .ref ax, .ref ay, .int (zi ((ln : Int))), .ref sp, .ref ss, .int (zi ((sn : Int))), .ref vs, .ref fr])), (pa, .inl (cQ, 6, .inr (.inr (.inr (.inr (pf)))))), (h0, .inr (1, [.ref h1, .ref h2, .int (zi ((n : Int))), .int (zi (th)), .int (zi (wc))])), (h1, .inl (cA, 12, .inl (zA (hs)))), (h2, .inl (cA, 12, .inl (zA (rs)))), (ou, .inl (cL, 1, .inr (.inl (zB (of)))))] s.heap.size = A at hD ⊢
  have hA : ∀ q : Nat, s.heap.size ≤ q → A q := fun q h => by rw [← hAe]; exact Or.inr h
  show W p l e rh_drawn_0 s m args below meth c s.heap [] 0 0 _ _
  have hl := lv_entry ([.ref x0, .int (zi ((j : Int))), .int (zi (k)), .int (zi (what)), .ref ou]) (n := 6) (Nat.le_of_ble_eq_true rfl)
  rw [show entryFrame m args 6 = entryFrame m ([.ref x0, .int (zi ((j : Int))), .int (zi (k)), .int (zi (what)), .ref ou] : List Value).toArray 6 by rw [hargs], lg_entry_eq]
  generalize (lg_sl ([.ref x0, .int (zi ((j : Int))), .int (zi (k)), .int (zi (what)), .ref ou]) ++ List.replicate (6 - (lg_sl ([.ref x0, .int (zi ((j : Int))), .int (zi (k)), .int (zi (what)), .ref ou])).length) Slot.unset).toArray = ls at hl ⊢
  have hl : lv_has ls 6 [(0, .ref x0), (1, .int (zi ((j : Int)))), (2, .int (zi (k))), (3, .int (zi (what))), (4, .ref ou)] := hl
  refine lv_aload hx hb dL_drawn_0 (lv_at hl 4 rfl) ?_
  refine lv_iconst (v := zi (0)) hx hb dL_drawn_2 rfl ?_
  refine lv_aload_n hx hb dL_drawn_3 rfl (lv_at hl 0 rfl) ?_
  refine lv_iload_n hx hb dL_drawn_4 rfl (lv_at hl 1 rfl) ?_
  refine lv_iload_n hx hb dL_drawn_5 rfl (lv_at hl 2 rfl) ?_
  refine lv_iload_n hx hb dL_drawn_6 rfl (lv_at hl 3 rfl) ?_
  obtain ⟨H, hHe⟩ : ∃ H : Heap, H = s.heap := ⟨_, rfl⟩
  obtain ⟨locs, hlc⟩ : ∃ x : List Loc, x = [] := ⟨_, rfl⟩
  have hS : va_S A s.heap H locs := by rw [hHe, hlc]; exact va_S.rf
  have hP : va_P (dC, dI) vwCl [(x0, .inr (2, [.ref pa, .int (zi ((pn : Int))), .ref ba, .int (zi ((bn : Int))), .ref ax, .ref ay, .int (zi ((ln : Int))), .ref sp, .ref ss, .int (zi ((sn : Int))), .ref vs, .ref fr])), (pa, .inl (cQ, 6, .inr (.inr (.inr (.inr (pf)))))), (h0, .inr (1, [.ref h1, .ref h2, .int (zi ((n : Int))), .int (zi (th)), .int (zi (wc))])), (h1, .inl (cA, 12, .inl (zA (hs)))), (h2, .inl (cA, 12, .inl (zA (rs)))), (ou, .inl (cL, 1, .inr (.inl (zB (of)))))] H := by rw [hHe]; exact hP
  rw [← hHe, ← hlc]
  refine rdV (As := [.int (zi ((j : Int))), .int (zi (k)), .int (zi (what))]) (rest := [.int (zi (0)), .ref ou]) (n := 3) hx hb hml hown hg (c_drawn l dC dI x0 pa ba ax ay sp ss vs fr pn bn ln sn cQ pf h0 h1 h2 cA n th wc hs rs j k what hn hH hR hj hf h_k h_what hwh hok) (gwV wl_L_52 wm_X2_drawn we_X2_drawn wi_X2 wc_X2_drawn) rfl rfl (by decide +kernel) ⟨(Nat.le_of_ble_eq_true rfl), (Nat.le_of_ble_eq_true rfl)⟩ (hK.sub [0, 1] rfl) (hP.sub [0, 1, 2, 3, 4] rfl) 0 rfl rfl rfl rfl hl.1 rfl (Nat.le_of_ble_eq_true rfl) dL_drawn_7 ⟨Nat.zero_le _, Nat.zero_le _⟩ ?_
  refine zz_i2lr hx hb dL_drawn_10 ?_
  refine zz_last hx hb hK hP hD hS 5 2 rfl rfl (0) (by omega) (by omega) (by decide) dL_drawn_11 (fun H locs hP hD hS => ?_)
  refine lv_goto (tgt := 19) hx hb dL_drawn_12 (by decide) ?_
  refine lv_iconst (v := zi (0)) hx hb dL_drawn_19 rfl ?_
  exact nw_i hx hb hr hlocks rfl (F := (fun w9 => w9 = [(x0, .inr (2, [.ref pa, .int (zi ((pn : Int))), .ref ba, .int (zi ((bn : Int))), .ref ax, .ref ay, .int (zi ((ln : Int))), .ref sp, .ref ss, .int (zi ((sn : Int))), .ref vs, .ref fr])), (pa, .inl (cQ, 6, .inr (.inr (.inr (.inr (pf)))))), (h0, .inr (1, [.ref h1, .ref h2, .int (zi ((n : Int))), .int (zi (th)), .int (zi (wc))])), (h1, .inl (cA, 12, .inl (zA (hs)))), (h2, .inl (cA, 12, .inl (zA (rs)))), (ou, .inl (cL, 1, .inr (.inl (zB (zupd of (0) ((zi ((p_drawn n hs rs k what))).toInt))))))])) rfl hP hD hS dL_drawn_20
abbrev rh_drawn_1 : Room := { frames := 9, cells := 1, slots := 6, locals := 200 }
set_option maxHeartbeats 4000000 in
set_option maxRecDepth 100000 in
theorem h_t_drawn_p (l : Launch) (hl0 : l.stackTraces = false) (dC : Nat → ClassId) (dI : Nat → Nat → Nat) (sz : Nat) (x0 pa ba ax ay sp ss vs fr : Nat) (pn bn ln sn : Nat) (cQ : ClassId) (pf : Nat → Option Nat) (i k what : Int) (hi : -2147483648 ≤ i ∧ i < 2147483648) (hbad : i < 0 ∨ 6 ≤ i ∨ pf i.toNat = none) (ou : Nat) (cL : ClassId) (of : Nat → Int) : Met l yL_drawn (Cond.codeWith yL_drawn cL_drawn 6 (Option.some Jvm.ClassFile.FieldType.int) [((0 : Nat), (12 : Nat), (15 : Nat), (19 : Nat))] :: gw) rh_drawn_1 (PcH [.ref x0, .int (zi (i)), .int (zi (k)), .int (zi (what)), .ref ou] (dC, dI) vwCl [(x0, .inr (2, [.ref pa, .int (zi ((pn : Int))), .ref ba, .int (zi ((bn : Int))), .ref ax, .ref ay, .int (zi ((ln : Int))), .ref sp, .ref ss, .int (zi ((sn : Int))), .ref vs, .ref fr])), (pa, .inl (cQ, 6, .inr (.inr (.inr (.inr (pf)))))), (ou, .inl (cL, 1, .inr (.inl (zB (of)))))] [(cQ, .object "PotVolumes$Profile"), (cL, .long)] sz) (NwQ (some (.int (zi (1)))) (dC, dI) vwCl (fun w9 => w9 = [(x0, .inr (2, [.ref pa, .int (zi ((pn : Int))), .ref ba, .int (zi ((bn : Int))), .ref ax, .ref ay, .int (zi ((ln : Int))), .ref sp, .ref ss, .int (zi ((sn : Int))), .ref vs, .ref fr])), (pa, .inl (cQ, 6, .inr (.inr (.inr (.inr (pf)))))), (ou, .inl (cL, 1, .inr (.inl (zB (of)))))]) (va_A [(x0, .inr (2, [.ref pa, .int (zi ((pn : Int))), .ref ba, .int (zi ((bn : Int))), .ref ax, .ref ay, .int (zi ((ln : Int))), .ref sp, .ref ss, .int (zi ((sn : Int))), .ref vs, .ref fr])), (pa, .inl (cQ, 6, .inr (.inr (.inr (.inr (pf)))))), (ou, .inl (cL, 1, .inr (.inl (zB (of)))))] sz)) 1 6 (va_A [(x0, .inr (2, [.ref pa, .int (zi ((pn : Int))), .ref ba, .int (zi ((bn : Int))), .ref ax, .ref ay, .int (zi ((ln : Int))), .ref sp, .ref ss, .int (zi ((sn : Int))), .ref vs, .ref fr])), (pa, .inl (cQ, 6, .inr (.inr (.inr (.inr (pf)))))), (ou, .inl (cL, 1, .inr (.inl (zB (of)))))] sz) := by
  refine va_MetW (cc := cL_drawn) (maxL := 6) (ret := (Option.some Jvm.ClassFile.FieldType.int)) (hh := [((0 : Nat), (12 : Nat), (15 : Nat), (19 : Nat))]) (by decide) rfl ?_
  intro p e s m args below meth c s₁ B hml hv
  obtain ⟨hargs, hsz, hP, hK, hD0, hXA⟩ := hv
  have hx := B.exec
  have hb := B.bytes
  have hr := B.returns
  have hts := atoms_spec (ws := Cond.codeWith yL_drawn cL_drawn 6 (Option.some Jvm.ClassFile.FieldType.int) [((0 : Nat), (12 : Nat), (15 : Nat), (19 : Nat))] :: gw) B.pre
  have hg : ∀ w ∈ gw, w.before args s = true := fun w h => hts w (List.mem_cons_of_mem _ h)
  have hown : s.vm.findClass RL = some m.cls := findClass_of_methodNamed B.named
  have hlocks := B.notSynchronized
  have htab := vx_table (x := yL_drawn) B (hts _ List.mem_cons_self)
  subst hsz
  have hD := hD0.self (sz := s.heap.size)
  generalize hAe : va_A [(x0, .inr (2, [.ref pa, .int (zi ((pn : Int))), .ref ba, .int (zi ((bn : Int))), .ref ax, .ref ay, .int (zi ((ln : Int))), .ref sp, .ref ss, .int (zi ((sn : Int))), .ref vs, .ref fr])), (pa, .inl (cQ, 6, .inr (.inr (.inr (.inr (pf)))))), (ou, .inl (cL, 1, .inr (.inl (zB (of)))))] s.heap.size = A at hD ⊢
  have hA : ∀ q : Nat, s.heap.size ≤ q → A q := fun q h => by rw [← hAe]; exact Or.inr h
  show W p l e rh_drawn_1 s m args below meth c s.heap [] 0 0 _ _
  have hl := lv_entry ([.ref x0, .int (zi (i)), .int (zi (k)), .int (zi (what)), .ref ou]) (n := 6) (Nat.le_of_ble_eq_true rfl)
  rw [show entryFrame m args 6 = entryFrame m ([.ref x0, .int (zi (i)), .int (zi (k)), .int (zi (what)), .ref ou] : List Value).toArray 6 by rw [hargs], lg_entry_eq]
  generalize (lg_sl ([.ref x0, .int (zi (i)), .int (zi (k)), .int (zi (what)), .ref ou]) ++ List.replicate (6 - (lg_sl ([.ref x0, .int (zi (i)), .int (zi (k)), .int (zi (what)), .ref ou])).length) Slot.unset).toArray = ls at hl ⊢
  have hl : lv_has ls 6 [(0, .ref x0), (1, .int (zi (i))), (2, .int (zi (k))), (3, .int (zi (what))), (4, .ref ou)] := hl
  refine lv_aload hx hb dL_drawn_0 (lv_at hl 4 rfl) ?_
  refine lv_iconst (v := zi (0)) hx hb dL_drawn_2 rfl ?_
  refine lv_aload_n hx hb dL_drawn_3 rfl (lv_at hl 0 rfl) ?_
  refine lv_iload_n hx hb dL_drawn_4 rfl (lv_at hl 1 rfl) ?_
  refine lv_iload_n hx hb dL_drawn_5 rfl (lv_at hl 2 rfl) ?_
  refine lv_iload_n hx hb dL_drawn_6 rfl (lv_at hl 3 rfl) ?_
  refine thKV (As := [.int (zi (i)), .int (zi (k)), .int (zi (what))]) (rest := [.int (zi (0)), .ref ou]) (n := 3) hx hb hml hown hg (t_drawn_p l hl0 dC dI x0 pa ba ax ay sp ss vs fr pn bn ln sn cQ pf i k what hi hbad) (gwV wl_L_52 wm_X2_drawn we_X2_drawn wi_X2 wc_X2_drawn) rfl rfl (by decide +kernel) ⟨(Nat.le_of_ble_eq_true rfl), (Nat.le_of_ble_eq_true rfl)⟩ (hK.sub [0] rfl) (hP.sub [0, 1] rfl) hXA.1 0 rfl rfl rfl rfl hl.1 rfl (Nat.le_of_ble_eq_true rfl) dL_drawn_7 ⟨(Nat.le_of_ble_eq_true rfl), (Nat.le_of_ble_eq_true rfl)⟩ (fun q9 ce H1 locs1 hcell hcv hcl hS0 => ?_)
  refine vx_catch (E := KI) (name := KI) hown [] ⟨0, 12, 15, 19⟩ [] htab (fun z hz => by cases hz) (by decide) (by decide) (hg _ wl_L_19) (va_Nw.use rfl (hXA.1.1 KI (by decide))) hcell hcv hcl ?_
  refine lv_astore (lv' := [(5, .ref q9), (0, .ref x0), (1, .int (zi (i))), (2, .int (zi (k))), (3, .int (zi (what))), (4, .ref ou)]) hx hb dL_drawn_15 hl (by decide) rfl (fun ls hl => ?_)
  refine lv_iconst (v := zi (1)) hx hb dL_drawn_17 rfl ?_
  exact nw_i hx hb hr hlocks rfl (F := (fun w9 => w9 = [(x0, .inr (2, [.ref pa, .int (zi ((pn : Int))), .ref ba, .int (zi ((bn : Int))), .ref ax, .ref ay, .int (zi ((ln : Int))), .ref sp, .ref ss, .int (zi ((sn : Int))), .ref vs, .ref fr])), (pa, .inl (cQ, 6, .inr (.inr (.inr (.inr (pf)))))), (ou, .inl (cL, 1, .inr (.inl (zB (of)))))])) rfl (thP hP hS0) hD (thS0 hS0) dL_drawn_18
set_option maxHeartbeats 4000000 in
set_option maxRecDepth 100000 in
theorem h_t_drawn_w (l : Launch) (hl0 : l.stackTraces = false) (dC : Nat → ClassId) (dI : Nat → Nat → Nat) (sz : Nat) (x0 pa ba ax ay sp ss vs fr : Nat) (pn bn ln sn : Nat) (cQ : ClassId) (pf : Nat → Option Nat) (h0 h1 h2 : Nat) (cA : ClassId) (n : Nat) (th wc : Int) (hs rs : Nat → Int) (j : Nat) (k what : Int) (hn : n ≤ 12) (hH : ∀ j, 0 ≤ hs j ∧ hs j ≤ 400) (hR : ∀ j, 0 ≤ rs j ∧ rs j ≤ 200) (hj : j < 6) (hf : pf j = some h0) (h_k : -2147483648 ≤ k ∧ k < 2147483648) (h_what : -2147483648 ≤ what ∧ what < 2147483648) (hbad : ¬ (what = 0 ∨ what = 1)) (ou : Nat) (cL : ClassId) (of : Nat → Int) : Met l yL_drawn (Cond.codeWith yL_drawn cL_drawn 6 (Option.some Jvm.ClassFile.FieldType.int) [((0 : Nat), (12 : Nat), (15 : Nat), (19 : Nat))] :: gw) rh_drawn_1 (PcH [.ref x0, .int (zi ((j : Int))), .int (zi (k)), .int (zi (what)), .ref ou] (dC, dI) vwCl [(x0, .inr (2, [.ref pa, .int (zi ((pn : Int))), .ref ba, .int (zi ((bn : Int))), .ref ax, .ref ay, .int (zi ((ln : Int))), .ref sp, .ref ss, .int (zi ((sn : Int))), .ref vs, .ref fr])), (pa, .inl (cQ, 6, .inr (.inr (.inr (.inr (pf)))))), (h0, .inr (1, [.ref h1, .ref h2, .int (zi ((n : Int))), .int (zi (th)), .int (zi (wc))])), (h1, .inl (cA, 12, .inl (zA (hs)))), (h2, .inl (cA, 12, .inl (zA (rs)))), (ou, .inl (cL, 1, .inr (.inl (zB (of)))))] [(cQ, .object "PotVolumes$Profile"), (cA, .int), (cL, .long)] sz) (NwQ (some (.int (zi (1)))) (dC, dI) vwCl (fun w9 => w9 = [(x0, .inr (2, [.ref pa, .int (zi ((pn : Int))), .ref ba, .int (zi ((bn : Int))), .ref ax, .ref ay, .int (zi ((ln : Int))), .ref sp, .ref ss, .int (zi ((sn : Int))), .ref vs, .ref fr])), (pa, .inl (cQ, 6, .inr (.inr (.inr (.inr (pf)))))), (h0, .inr (1, [.ref h1, .ref h2, .int (zi ((n : Int))), .int (zi (th)), .int (zi (wc))])), (h1, .inl (cA, 12, .inl (zA (hs)))), (h2, .inl (cA, 12, .inl (zA (rs)))), (ou, .inl (cL, 1, .inr (.inl (zB (of)))))]) (va_A [(x0, .inr (2, [.ref pa, .int (zi ((pn : Int))), .ref ba, .int (zi ((bn : Int))), .ref ax, .ref ay, .int (zi ((ln : Int))), .ref sp, .ref ss, .int (zi ((sn : Int))), .ref vs, .ref fr])), (pa, .inl (cQ, 6, .inr (.inr (.inr (.inr (pf)))))), (h0, .inr (1, [.ref h1, .ref h2, .int (zi ((n : Int))), .int (zi (th)), .int (zi (wc))])), (h1, .inl (cA, 12, .inl (zA (hs)))), (h2, .inl (cA, 12, .inl (zA (rs)))), (ou, .inl (cL, 1, .inr (.inl (zB (of)))))] sz)) 1 6 (va_A [(x0, .inr (2, [.ref pa, .int (zi ((pn : Int))), .ref ba, .int (zi ((bn : Int))), .ref ax, .ref ay, .int (zi ((ln : Int))), .ref sp, .ref ss, .int (zi ((sn : Int))), .ref vs, .ref fr])), (pa, .inl (cQ, 6, .inr (.inr (.inr (.inr (pf)))))), (h0, .inr (1, [.ref h1, .ref h2, .int (zi ((n : Int))), .int (zi (th)), .int (zi (wc))])), (h1, .inl (cA, 12, .inl (zA (hs)))), (h2, .inl (cA, 12, .inl (zA (rs)))), (ou, .inl (cL, 1, .inr (.inl (zB (of)))))] sz) := by
  refine va_MetW (cc := cL_drawn) (maxL := 6) (ret := (Option.some Jvm.ClassFile.FieldType.int)) (hh := [((0 : Nat), (12 : Nat), (15 : Nat), (19 : Nat))]) (by decide) rfl ?_
  intro p e s m args below meth c s₁ B hml hv
  obtain ⟨hargs, hsz, hP, hK, hD0, hXA⟩ := hv
  have hx := B.exec
  have hb := B.bytes
  have hr := B.returns
  have hts := atoms_spec (ws := Cond.codeWith yL_drawn cL_drawn 6 (Option.some Jvm.ClassFile.FieldType.int) [((0 : Nat), (12 : Nat), (15 : Nat), (19 : Nat))] :: gw) B.pre
  have hg : ∀ w ∈ gw, w.before args s = true := fun w h => hts w (List.mem_cons_of_mem _ h)
  have hown : s.vm.findClass RL = some m.cls := findClass_of_methodNamed B.named
  have hlocks := B.notSynchronized
  have htab := vx_table (x := yL_drawn) B (hts _ List.mem_cons_self)
  subst hsz
  have hD := hD0.self (sz := s.heap.size)
  generalize hAe : va_A [(x0, .inr (2, [.ref pa, .int (zi ((pn : Int))), .ref ba, .int (zi ((bn : Int))), .ref ax, .ref ay, .int (zi ((ln : Int))), .ref sp, .ref ss, .int (zi ((sn : Int))), .ref vs, .ref fr])), (pa, .inl (cQ, 6, .inr (.inr (.inr (.inr (pf)))))), (h0, .inr (1, [.ref h1, .ref h2, .int (zi ((n : Int))), .int (zi (th)), .int (zi (wc))])), (h1, .inl (cA, 12, .inl (zA (hs)))), (h2, .inl (cA, 12, .inl (zA (rs)))), (ou, .inl (cL, 1, .inr (.inl (zB (of)))))] s.heap.size = A at hD ⊢
  have hA : ∀ q : Nat, s.heap.size ≤ q → A q := fun q h => by rw [← hAe]; exact Or.inr h
  show W p l e rh_drawn_1 s m args below meth c s.heap [] 0 0 _ _
  have hl := lv_entry ([.ref x0, .int (zi ((j : Int))), .int (zi (k)), .int (zi (what)), .ref ou]) (n := 6) (Nat.le_of_ble_eq_true rfl)
  rw [show entryFrame m args 6 = entryFrame m ([.ref x0, .int (zi ((j : Int))), .int (zi (k)), .int (zi (what)), .ref ou] : List Value).toArray 6 by rw [hargs], lg_entry_eq]
  generalize (lg_sl ([.ref x0, .int (zi ((j : Int))), .int (zi (k)), .int (zi (what)), .ref ou]) ++ List.replicate (6 - (lg_sl ([.ref x0, .int (zi ((j : Int))), .int (zi (k)), .int (zi (what)), .ref ou])).length) Slot.unset).toArray = ls at hl ⊢
  have hl : lv_has ls 6 [(0, .ref x0), (1, .int (zi ((j : Int)))), (2, .int (zi (k))), (3, .int (zi (what))), (4, .ref ou)] := hl
  refine lv_aload hx hb dL_drawn_0 (lv_at hl 4 rfl) ?_
  refine lv_iconst (v := zi (0)) hx hb dL_drawn_2 rfl ?_
  refine lv_aload_n hx hb dL_drawn_3 rfl (lv_at hl 0 rfl) ?_
  refine lv_iload_n hx hb dL_drawn_4 rfl (lv_at hl 1 rfl) ?_
  refine lv_iload_n hx hb dL_drawn_5 rfl (lv_at hl 2 rfl) ?_
  refine lv_iload_n hx hb dL_drawn_6 rfl (lv_at hl 3 rfl) ?_
  refine thKV (As := [.int (zi ((j : Int))), .int (zi (k)), .int (zi (what))]) (rest := [.int (zi (0)), .ref ou]) (n := 3) hx hb hml hown hg (t_drawn_w l hl0 dC dI x0 pa ba ax ay sp ss vs fr pn bn ln sn cQ pf h0 h1 h2 cA n th wc hs rs j k what hn hH hR hj hf h_k h_what hbad) (gwV wl_L_52 wm_X2_drawn we_X2_drawn wi_X2 wc_X2_drawn) rfl rfl (by decide +kernel) ⟨(Nat.le_of_ble_eq_true rfl), (Nat.le_of_ble_eq_true rfl)⟩ (hK.sub [0, 1] rfl) (hP.sub [0, 1, 2, 3, 4] rfl) hXA.1 0 rfl rfl rfl rfl hl.1 rfl (Nat.le_of_ble_eq_true rfl) dL_drawn_7 ⟨(Nat.le_of_ble_eq_true rfl), (Nat.le_of_ble_eq_true rfl)⟩ (fun q9 ce H1 locs1 hcell hcv hcl hS0 => ?_)
  refine vx_catch (E := KI) (name := KI) hown [] ⟨0, 12, 15, 19⟩ [] htab (fun z hz => by cases hz) (by decide) (by decide) (hg _ wl_L_19) (va_Nw.use rfl (hXA.1.1 KI (by decide))) hcell hcv hcl ?_
  refine lv_astore (lv' := [(5, .ref q9), (0, .ref x0), (1, .int (zi ((j : Int)))), (2, .int (zi (k))), (3, .int (zi (what))), (4, .ref ou)]) hx hb dL_drawn_15 hl (by decide) rfl (fun ls hl => ?_)
  refine lv_iconst (v := zi (1)) hx hb dL_drawn_17 rfl ?_
  exact nw_i hx hb hr hlocks rfl (F := (fun w9 => w9 = [(x0, .inr (2, [.ref pa, .int (zi ((pn : Int))), .ref ba, .int (zi ((bn : Int))), .ref ax, .ref ay, .int (zi ((ln : Int))), .ref sp, .ref ss, .int (zi ((sn : Int))), .ref vs, .ref fr])), (pa, .inl (cQ, 6, .inr (.inr (.inr (.inr (pf)))))), (h0, .inr (1, [.ref h1, .ref h2, .int (zi ((n : Int))), .int (zi (th)), .int (zi (wc))])), (h1, .inl (cA, 12, .inl (zA (hs)))), (h2, .inl (cA, 12, .inl (zA (rs)))), (ou, .inl (cL, 1, .inr (.inl (zB (of)))))])) rfl (thP hP hS0) hD (thS0 hS0) dL_drawn_18
set_option maxHeartbeats 4000000 in
set_option maxRecDepth 100000 in
theorem h_t_drawn_k (l : Launch) (hl0 : l.stackTraces = false) (dC : Nat → ClassId) (dI : Nat → Nat → Nat) (sz : Nat) (x0 pa ba ax ay sp ss vs fr : Nat) (pn bn ln sn : Nat) (cQ : ClassId) (pf : Nat → Option Nat) (h0 h1 h2 : Nat) (cA : ClassId) (n : Nat) (th wc : Int) (hs rs : Nat → Int) (j : Nat) (k what : Int) (hn : n ≤ 12) (hH : ∀ j, 0 ≤ hs j ∧ hs j ≤ 400) (hR : ∀ j, 0 ≤ rs j ∧ rs j ≤ 200) (hj : j < 6) (hf : pf j = some h0) (h_k : -2147483648 ≤ k ∧ k < 2147483648) (h_what : -2147483648 ≤ what ∧ what < 2147483648) (hwh : what = 0 ∨ what = 1) (hbad : k ≠ -1 ∧ (k < 0 ∨ p_drw n rs k < 0 ∨ n ≤ p_drw n rs k)) (ou : Nat) (cL : ClassId) (of : Nat → Int) : Met l yL_drawn (Cond.codeWith yL_drawn cL_drawn 6 (Option.some Jvm.ClassFile.FieldType.int) [((0 : Nat), (12 : Nat), (15 : Nat), (19 : Nat))] :: gw) rh_drawn_1 (PcH [.ref x0, .int (zi ((j : Int))), .int (zi (k)), .int (zi (what)), .ref ou] (dC, dI) vwCl [(x0, .inr (2, [.ref pa, .int (zi ((pn : Int))), .ref ba, .int (zi ((bn : Int))), .ref ax, .ref ay, .int (zi ((ln : Int))), .ref sp, .ref ss, .int (zi ((sn : Int))), .ref vs, .ref fr])), (pa, .inl (cQ, 6, .inr (.inr (.inr (.inr (pf)))))), (h0, .inr (1, [.ref h1, .ref h2, .int (zi ((n : Int))), .int (zi (th)), .int (zi (wc))])), (h1, .inl (cA, 12, .inl (zA (hs)))), (h2, .inl (cA, 12, .inl (zA (rs)))), (ou, .inl (cL, 1, .inr (.inl (zB (of)))))] [(cQ, .object "PotVolumes$Profile"), (cA, .int), (cL, .long)] sz) (NwQ (some (.int (zi (1)))) (dC, dI) vwCl (fun w9 => w9 = [(x0, .inr (2, [.ref pa, .int (zi ((pn : Int))), .ref ba, .int (zi ((bn : Int))), .ref ax, .ref ay, .int (zi ((ln : Int))), .ref sp, .ref ss, .int (zi ((sn : Int))), .ref vs, .ref fr])), (pa, .inl (cQ, 6, .inr (.inr (.inr (.inr (pf)))))), (h0, .inr (1, [.ref h1, .ref h2, .int (zi ((n : Int))), .int (zi (th)), .int (zi (wc))])), (h1, .inl (cA, 12, .inl (zA (hs)))), (h2, .inl (cA, 12, .inl (zA (rs)))), (ou, .inl (cL, 1, .inr (.inl (zB (of)))))]) (va_A [(x0, .inr (2, [.ref pa, .int (zi ((pn : Int))), .ref ba, .int (zi ((bn : Int))), .ref ax, .ref ay, .int (zi ((ln : Int))), .ref sp, .ref ss, .int (zi ((sn : Int))), .ref vs, .ref fr])), (pa, .inl (cQ, 6, .inr (.inr (.inr (.inr (pf)))))), (h0, .inr (1, [.ref h1, .ref h2, .int (zi ((n : Int))), .int (zi (th)), .int (zi (wc))])), (h1, .inl (cA, 12, .inl (zA (hs)))), (h2, .inl (cA, 12, .inl (zA (rs)))), (ou, .inl (cL, 1, .inr (.inl (zB (of)))))] sz)) 1 6 (va_A [(x0, .inr (2, [.ref pa, .int (zi ((pn : Int))), .ref ba, .int (zi ((bn : Int))), .ref ax, .ref ay, .int (zi ((ln : Int))), .ref sp, .ref ss, .int (zi ((sn : Int))), .ref vs, .ref fr])), (pa, .inl (cQ, 6, .inr (.inr (.inr (.inr (pf)))))), (h0, .inr (1, [.ref h1, .ref h2, .int (zi ((n : Int))), .int (zi (th)), .int (zi (wc))])), (h1, .inl (cA, 12, .inl (zA (hs)))), (h2, .inl (cA, 12, .inl (zA (rs)))), (ou, .inl (cL, 1, .inr (.inl (zB (of)))))] sz) := by
  refine va_MetW (cc := cL_drawn) (maxL := 6) (ret := (Option.some Jvm.ClassFile.FieldType.int)) (hh := [((0 : Nat), (12 : Nat), (15 : Nat), (19 : Nat))]) (by decide) rfl ?_
  intro p e s m args below meth c s₁ B hml hv
  obtain ⟨hargs, hsz, hP, hK, hD0, hXA⟩ := hv
  have hx := B.exec
  have hb := B.bytes
  have hr := B.returns
  have hts := atoms_spec (ws := Cond.codeWith yL_drawn cL_drawn 6 (Option.some Jvm.ClassFile.FieldType.int) [((0 : Nat), (12 : Nat), (15 : Nat), (19 : Nat))] :: gw) B.pre
  have hg : ∀ w ∈ gw, w.before args s = true := fun w h => hts w (List.mem_cons_of_mem _ h)
  have hown : s.vm.findClass RL = some m.cls := findClass_of_methodNamed B.named
  have hlocks := B.notSynchronized
  have htab := vx_table (x := yL_drawn) B (hts _ List.mem_cons_self)
  subst hsz
  have hD := hD0.self (sz := s.heap.size)
  generalize hAe : va_A [(x0, .inr (2, [.ref pa, .int (zi ((pn : Int))), .ref ba, .int (zi ((bn : Int))), .ref ax, .ref ay, .int (zi ((ln : Int))), .ref sp, .ref ss, .int (zi ((sn : Int))), .ref vs, .ref fr])), (pa, .inl (cQ, 6, .inr (.inr (.inr (.inr (pf)))))), (h0, .inr (1, [.ref h1, .ref h2, .int (zi ((n : Int))), .int (zi (th)), .int (zi (wc))])), (h1, .inl (cA, 12, .inl (zA (hs)))), (h2, .inl (cA, 12, .inl (zA (rs)))), (ou, .inl (cL, 1, .inr (.inl (zB (of)))))] s.heap.size = A at hD ⊢
  have hA : ∀ q : Nat, s.heap.size ≤ q → A q := fun q h => by rw [← hAe]; exact Or.inr h
  show W p l e rh_drawn_1 s m args below meth c s.heap [] 0 0 _ _
  have hl := lv_entry ([.ref x0, .int (zi ((j : Int))), .int (zi (k)), .int (zi (what)), .ref ou]) (n := 6) (Nat.le_of_ble_eq_true rfl)
  rw [show entryFrame m args 6 = entryFrame m ([.ref x0, .int (zi ((j : Int))), .int (zi (k)), .int (zi (what)), .ref ou] : List Value).toArray 6 by rw [hargs], lg_entry_eq]
  generalize (lg_sl ([.ref x0, .int (zi ((j : Int))), .int (zi (k)), .int (zi (what)), .ref ou]) ++ List.replicate (6 - (lg_sl ([.ref x0, .int (zi ((j : Int))), .int (zi (k)), .int (zi (what)), .ref ou])).length) Slot.unset).toArray = ls at hl ⊢
  have hl : lv_has ls 6 [(0, .ref x0), (1, .int (zi ((j : Int)))), (2, .int (zi (k))), (3, .int (zi (what))), (4, .ref ou)] := hl
  refine lv_aload hx hb dL_drawn_0 (lv_at hl 4 rfl) ?_
  refine lv_iconst (v := zi (0)) hx hb dL_drawn_2 rfl ?_
  refine lv_aload_n hx hb dL_drawn_3 rfl (lv_at hl 0 rfl) ?_
  refine lv_iload_n hx hb dL_drawn_4 rfl (lv_at hl 1 rfl) ?_
  refine lv_iload_n hx hb dL_drawn_5 rfl (lv_at hl 2 rfl) ?_
  refine lv_iload_n hx hb dL_drawn_6 rfl (lv_at hl 3 rfl) ?_
  refine thKV (As := [.int (zi ((j : Int))), .int (zi (k)), .int (zi (what))]) (rest := [.int (zi (0)), .ref ou]) (n := 3) hx hb hml hown hg (t_drawn_k l hl0 dC dI x0 pa ba ax ay sp ss vs fr pn bn ln sn cQ pf h0 h1 h2 cA n th wc hs rs j k what hn hH hR hj hf h_k h_what hwh hbad) (gwV wl_L_52 wm_X2_drawn we_X2_drawn wi_X2 wc_X2_drawn) rfl rfl (by decide +kernel) ⟨(Nat.le_of_ble_eq_true rfl), (Nat.le_of_ble_eq_true rfl)⟩ (hK.sub [0, 1] rfl) (hP.sub [0, 1, 2, 3, 4] rfl) hXA.1 0 rfl rfl rfl rfl hl.1 rfl (Nat.le_of_ble_eq_true rfl) dL_drawn_7 ⟨(Nat.le_of_ble_eq_true rfl), (Nat.le_of_ble_eq_true rfl)⟩ (fun q9 ce H1 locs1 hcell hcv hcl hS0 => ?_)
  refine vx_catch (E := KI) (name := KI) hown [] ⟨0, 12, 15, 19⟩ [] htab (fun z hz => by cases hz) (by decide) (by decide) (hg _ wl_L_19) (va_Nw.use rfl (hXA.1.1 KI (by decide))) hcell hcv hcl ?_
  refine lv_astore (lv' := [(5, .ref q9), (0, .ref x0), (1, .int (zi ((j : Int)))), (2, .int (zi (k))), (3, .int (zi (what))), (4, .ref ou)]) hx hb dL_drawn_15 hl (by decide) rfl (fun ls hl => ?_)
  refine lv_iconst (v := zi (1)) hx hb dL_drawn_17 rfl ?_
  exact nw_i hx hb hr hlocks rfl (F := (fun w9 => w9 = [(x0, .inr (2, [.ref pa, .int (zi ((pn : Int))), .ref ba, .int (zi ((bn : Int))), .ref ax, .ref ay, .int (zi ((ln : Int))), .ref sp, .ref ss, .int (zi ((sn : Int))), .ref vs, .ref fr])), (pa, .inl (cQ, 6, .inr (.inr (.inr (.inr (pf)))))), (h0, .inr (1, [.ref h1, .ref h2, .int (zi ((n : Int))), .int (zi (th)), .int (zi (wc))])), (h1, .inl (cA, 12, .inl (zA (hs)))), (h2, .inl (cA, 12, .inl (zA (rs)))), (ou, .inl (cL, 1, .inr (.inl (zB (of)))))])) rfl (thP hP hS0) hD (thS0 hS0) dL_drawn_18
abbrev rh_bound_0 : Room := { frames := 9, cells := 0, slots := 0, locals := 200 }
set_option maxHeartbeats 4000000 in
set_option maxRecDepth 100000 in
theorem h_c_bound (l : Launch) (dC : Nat → ClassId) (dI : Nat → Nat → Nat) (sz : Nat) (x0 pa ba ax ay sp ss vs fr : Nat) (pn bn ln sn : Nat) (cA : ClassId) (bs : Nat → Int) (v : Int) (hv9 : 0 ≤ v ∧ v ≤ 1000000000) (hbn : bn < 10) (ou : Nat) (cL : ClassId) (of : Nat → Int) : Met l yL_bound (Cond.codeWith yL_bound cL_bound 4 (Option.some Jvm.ClassFile.FieldType.int) [((0 : Nat), (9 : Nat), (12 : Nat), (21 : Nat)), ((0 : Nat), (9 : Nat), (15 : Nat), (13 : Nat))] :: gw) rh_bound_0 (PcH [.ref x0, .int (zi (v)), .ref ou] (dC, dI) vwCl [(x0, .inr (2, [.ref pa, .int (zi ((pn : Int))), .ref ba, .int (zi ((bn : Int))), .ref ax, .ref ay, .int (zi ((ln : Int))), .ref sp, .ref ss, .int (zi ((sn : Int))), .ref vs, .ref fr])), (ba, .inl (cA, 10, .inl (zA (bs)))), (ou, .inl (cL, 1, .inr (.inl (zB (of)))))] [(cA, .int), (cL, .long)] sz) (NwQ (some (.int (zi (0)))) (dC, dI) vwCl (fun w9 => w9 = [(x0, .inr (2, [.ref pa, .int (zi ((pn : Int))), .ref ba, .int (zi (((bn + 1 : Nat) : Int))), .ref ax, .ref ay, .int (zi ((ln : Int))), .ref sp, .ref ss, .int (zi ((sn : Int))), .ref vs, .ref fr])), (ba, .inl (cA, 10, .inl (zA (zupd bs (bn) (v))))), (ou, .inl (cL, 1, .inr (.inl (zB (zupd of (0) ((zi (((bn + 1 : Nat) : Int))).toInt))))))]) (va_A [(x0, .inr (2, [.ref pa, .int (zi ((pn : Int))), .ref ba, .int (zi ((bn : Int))), .ref ax, .ref ay, .int (zi ((ln : Int))), .ref sp, .ref ss, .int (zi ((sn : Int))), .ref vs, .ref fr])), (ba, .inl (cA, 10, .inl (zA (bs)))), (ou, .inl (cL, 1, .inr (.inl (zB (of)))))] sz)) 0 0 (va_A [(x0, .inr (2, [.ref pa, .int (zi ((pn : Int))), .ref ba, .int (zi ((bn : Int))), .ref ax, .ref ay, .int (zi ((ln : Int))), .ref sp, .ref ss, .int (zi ((sn : Int))), .ref vs, .ref fr])), (ba, .inl (cA, 10, .inl (zA (bs)))), (ou, .inl (cL, 1, .inr (.inl (zB (of)))))] sz) := by
  refine va_MetW (cc := cL_bound) (maxL := 4) (ret := (Option.some Jvm.ClassFile.FieldType.int)) (hh := [((0 : Nat), (9 : Nat), (12 : Nat), (21 : Nat)), ((0 : Nat), (9 : Nat), (15 : Nat), (13 : Nat))]) (by decide) rfl ?_
  intro p e s m args below meth c s₁ B hml hv
  obtain ⟨hargs, hsz, hP, hK, hD0, hXA⟩ := hv
  have hx := B.exec
  have hb := B.bytes
  have hr := B.returns
  have hts := atoms_spec (ws := Cond.codeWith yL_bound cL_bound 4 (Option.some Jvm.ClassFile.FieldType.int) [((0 : Nat), (9 : Nat), (12 : Nat), (21 : Nat)), ((0 : Nat), (9 : Nat), (15 : Nat), (13 : Nat))] :: gw) B.pre
  have hg : ∀ w ∈ gw, w.before args s = true := fun w h => hts w (List.mem_cons_of_mem _ h)
  have hown : s.vm.findClass RL = some m.cls := findClass_of_methodNamed B.named
  have hlocks := B.notSynchronized
  have htab := vx_table (x := yL_bound) B (hts _ List.mem_cons_self)
  subst hsz
  have hD := hD0.self (sz := s.heap.size)
  generalize hAe : va_A [(x0, .inr (2, [.ref pa, .int (zi ((pn : Int))), .ref ba, .int (zi ((bn : Int))), .ref ax, .ref ay, .int (zi ((ln : Int))), .ref sp, .ref ss, .int (zi ((sn : Int))), .ref vs, .ref fr])), (ba, .inl (cA, 10, .inl (zA (bs)))), (ou, .inl (cL, 1, .inr (.inl (zB (of)))))] s.heap.size = A at hD ⊢
  have hA : ∀ q : Nat, s.heap.size ≤ q → A q := fun q h => by rw [← hAe]; exact Or.inr h
  show W p l e rh_bound_0 s m args below meth c s.heap [] 0 0 _ _
  have hl := lv_entry ([.ref x0, .int (zi (v)), .ref ou]) (n := 4) (Nat.le_of_ble_eq_true rfl)
  rw [show entryFrame m args 4 = entryFrame m ([.ref x0, .int (zi (v)), .ref ou] : List Value).toArray 4 by rw [hargs], lg_entry_eq]
  generalize (lg_sl ([.ref x0, .int (zi (v)), .ref ou]) ++ List.replicate (4 - (lg_sl ([.ref x0, .int (zi (v)), .ref ou])).length) Slot.unset).toArray = ls at hl ⊢
  have hl : lv_has ls 4 [(0, .ref x0), (1, .int (zi (v))), (2, .ref ou)] := hl
  refine lv_aload_n hx hb dL_bound_0 rfl (lv_at hl 2 rfl) ?_
  refine lv_iconst (v := zi (0)) hx hb dL_bound_1 rfl ?_
  refine lv_aload_n hx hb dL_bound_2 rfl (lv_at hl 0 rfl) ?_
  refine lv_iload_n hx hb dL_bound_3 rfl (lv_at hl 1 rfl) ?_
  obtain ⟨H, hHe⟩ : ∃ H : Heap, H = s.heap := ⟨_, rfl⟩
  obtain ⟨locs, hlc⟩ : ∃ x : List Loc, x = [] := ⟨_, rfl⟩
  have hS : va_S A s.heap H locs := by rw [hHe, hlc]; exact va_S.rf
  have hP : va_P (dC, dI) vwCl [(x0, .inr (2, [.ref pa, .int (zi ((pn : Int))), .ref ba, .int (zi ((bn : Int))), .ref ax, .ref ay, .int (zi ((ln : Int))), .ref sp, .ref ss, .int (zi ((sn : Int))), .ref vs, .ref fr])), (ba, .inl (cA, 10, .inl (zA (bs)))), (ou, .inl (cL, 1, .inr (.inl (zB (of)))))] H := by rw [hHe]; exact hP
  rw [← hHe, ← hlc]
  refine wrV (As := [.int (zi (v))]) (rest := [.int (zi (0)), .ref ou]) (n := 1) (ws' := [(x0, .inr (2, [.ref pa, .int (zi ((pn : Int))), .ref ba, .int (zi (((bn + 1 : Nat) : Int))), .ref ax, .ref ay, .int (zi ((ln : Int))), .ref sp, .ref ss, .int (zi ((sn : Int))), .ref vs, .ref fr])), (ba, .inl (cA, 10, .inl (zA (zupd bs (bn) (v))))), (ou, .inl (cL, 1, .inr (.inl (zB (of)))))]) hx hb hml hown hg (c_bound l dC dI H.size x0 pa ba ax ay sp ss vs fr pn bn ln sn cA bs v hv9 hbn) (gwV wl_L_55 wm_X2_bound we_X2_bound wi_X2 wc_X2_bound) rfl rfl (by decide +kernel) ⟨(Nat.le_of_ble_eq_true rfl), (Nat.le_of_ble_eq_true rfl)⟩ (hK.sub [0] rfl) hP hD hS hA [0, 1] rfl (by decide) [(true, 0), (true, 1), (false, 2)] rfl (by decide) rfl 0 rfl rfl rfl rfl hl.1 rfl (Nat.le_of_ble_eq_true rfl) dL_bound_4 ⟨Nat.zero_le _, Nat.zero_le _⟩ (fun H locs hP hD hS => ?_)
  refine zz_i2lr hx hb dL_bound_7 ?_
  refine zz_last hx hb hK hP hD hS 2 1 rfl rfl (0) (by omega) (by omega) (by decide) dL_bound_8 (fun H locs hP hD hS => ?_)
  refine lv_goto (tgt := 18) hx hb dL_bound_9 (by decide) ?_
  refine lv_iconst (v := zi (0)) hx hb dL_bound_18 rfl ?_
  exact nw_i hx hb hr hlocks rfl (F := (fun w9 => w9 = [(x0, .inr (2, [.ref pa, .int (zi ((pn : Int))), .ref ba, .int (zi (((bn + 1 : Nat) : Int))), .ref ax, .ref ay, .int (zi ((ln : Int))), .ref sp, .ref ss, .int (zi ((sn : Int))), .ref vs, .ref fr])), (ba, .inl (cA, 10, .inl (zA (zupd bs (bn) (v))))), (ou, .inl (cL, 1, .inr (.inl (zB (zupd of (0) ((zi (((bn + 1 : Nat) : Int))).toInt))))))])) rfl hP hD hS dL_bound_19
abbrev rh_bound_1 : Room := { frames := 9, cells := 1, slots := 6, locals := 200 }
set_option maxHeartbeats 4000000 in
set_option maxRecDepth 100000 in
theorem h_t_bound_A (l : Launch) (hl0 : l.stackTraces = false) (dC : Nat → ClassId) (dI : Nat → Nat → Nat) (sz : Nat) (x0 pa ba ax ay sp ss vs fr : Nat) (pn bn ln sn : Nat) (v : Int) (hbn : bn ≤ 10) (h_v : -2147483648 ≤ v ∧ v < 2147483648) (hbad : ¬ (0 ≤ v ∧ v ≤ 1000000000)) (ou : Nat) (cL : ClassId) (of : Nat → Int) : Met l yL_bound (Cond.codeWith yL_bound cL_bound 4 (Option.some Jvm.ClassFile.FieldType.int) [((0 : Nat), (9 : Nat), (12 : Nat), (21 : Nat)), ((0 : Nat), (9 : Nat), (15 : Nat), (13 : Nat))] :: gw) rh_bound_1 (PcH [.ref x0, .int (zi (v)), .ref ou] (dC, dI) vwCl [(x0, .inr (2, [.ref pa, .int (zi ((pn : Int))), .ref ba, .int (zi ((bn : Int))), .ref ax, .ref ay, .int (zi ((ln : Int))), .ref sp, .ref ss, .int (zi ((sn : Int))), .ref vs, .ref fr])), (ou, .inl (cL, 1, .inr (.inl (zB (of)))))] [(cL, .long)] sz) (NwQ (some (.int (zi (1)))) (dC, dI) vwCl (fun w9 => w9 = [(x0, .inr (2, [.ref pa, .int (zi ((pn : Int))), .ref ba, .int (zi ((bn : Int))), .ref ax, .ref ay, .int (zi ((ln : Int))), .ref sp, .ref ss, .int (zi ((sn : Int))), .ref vs, .ref fr])), (ou, .inl (cL, 1, .inr (.inl (zB (of)))))]) (va_A [(x0, .inr (2, [.ref pa, .int (zi ((pn : Int))), .ref ba, .int (zi ((bn : Int))), .ref ax, .ref ay, .int (zi ((ln : Int))), .ref sp, .ref ss, .int (zi ((sn : Int))), .ref vs, .ref fr])), (ou, .inl (cL, 1, .inr (.inl (zB (of)))))] sz)) 1 6 (va_A [(x0, .inr (2, [.ref pa, .int (zi ((pn : Int))), .ref ba, .int (zi ((bn : Int))), .ref ax, .ref ay, .int (zi ((ln : Int))), .ref sp, .ref ss, .int (zi ((sn : Int))), .ref vs, .ref fr])), (ou, .inl (cL, 1, .inr (.inl (zB (of)))))] sz) := by
  refine va_MetW (cc := cL_bound) (maxL := 4) (ret := (Option.some Jvm.ClassFile.FieldType.int)) (hh := [((0 : Nat), (9 : Nat), (12 : Nat), (21 : Nat)), ((0 : Nat), (9 : Nat), (15 : Nat), (13 : Nat))]) (by decide) rfl ?_
  intro p e s m args below meth c s₁ B hml hv
  obtain ⟨hargs, hsz, hP, hK, hD0, hXA⟩ := hv
  have hx := B.exec
  have hb := B.bytes
  have hr := B.returns
  have hts := atoms_spec (ws := Cond.codeWith yL_bound cL_bound 4 (Option.some Jvm.ClassFile.FieldType.int) [((0 : Nat), (9 : Nat), (12 : Nat), (21 : Nat)), ((0 : Nat), (9 : Nat), (15 : Nat), (13 : Nat))] :: gw) B.pre
  have hg : ∀ w ∈ gw, w.before args s = true := fun w h => hts w (List.mem_cons_of_mem _ h)
  have hown : s.vm.findClass RL = some m.cls := findClass_of_methodNamed B.named
  have hlocks := B.notSynchronized
  have htab := vx_table (x := yL_bound) B (hts _ List.mem_cons_self)
  subst hsz
  have hD := hD0.self (sz := s.heap.size)
  generalize hAe : va_A [(x0, .inr (2, [.ref pa, .int (zi ((pn : Int))), .ref ba, .int (zi ((bn : Int))), .ref ax, .ref ay, .int (zi ((ln : Int))), .ref sp, .ref ss, .int (zi ((sn : Int))), .ref vs, .ref fr])), (ou, .inl (cL, 1, .inr (.inl (zB (of)))))] s.heap.size = A at hD ⊢
  have hA : ∀ q : Nat, s.heap.size ≤ q → A q := fun q h => by rw [← hAe]; exact Or.inr h
  show W p l e rh_bound_1 s m args below meth c s.heap [] 0 0 _ _
  have hl := lv_entry ([.ref x0, .int (zi (v)), .ref ou]) (n := 4) (Nat.le_of_ble_eq_true rfl)
  rw [show entryFrame m args 4 = entryFrame m ([.ref x0, .int (zi (v)), .ref ou] : List Value).toArray 4 by rw [hargs], lg_entry_eq]
  generalize (lg_sl ([.ref x0, .int (zi (v)), .ref ou]) ++ List.replicate (4 - (lg_sl ([.ref x0, .int (zi (v)), .ref ou])).length) Slot.unset).toArray = ls at hl ⊢
  have hl : lv_has ls 4 [(0, .ref x0), (1, .int (zi (v))), (2, .ref ou)] := hl
  refine lv_aload_n hx hb dL_bound_0 rfl (lv_at hl 2 rfl) ?_
  refine lv_iconst (v := zi (0)) hx hb dL_bound_1 rfl ?_
  refine lv_aload_n hx hb dL_bound_2 rfl (lv_at hl 0 rfl) ?_
  refine lv_iload_n hx hb dL_bound_3 rfl (lv_at hl 1 rfl) ?_
  refine thKV (As := [.int (zi (v))]) (rest := [.int (zi (0)), .ref ou]) (n := 1) hx hb hml hown hg (t_bound_A l hl0 dC dI x0 pa ba ax ay sp ss vs fr pn bn ln sn v hbn h_v hbad) (gwV wl_L_55 wm_X2_bound we_X2_bound wi_X2 wc_X2_bound) rfl rfl (by decide +kernel) ⟨(Nat.le_of_ble_eq_true rfl), (Nat.le_of_ble_eq_true rfl)⟩ (hK.sub [] rfl) (hP.sub [0] rfl) hXA.1 0 rfl rfl rfl rfl hl.1 rfl (Nat.le_of_ble_eq_true rfl) dL_bound_4 ⟨(Nat.le_of_ble_eq_true rfl), (Nat.le_of_ble_eq_true rfl)⟩ (fun q9 ce H1 locs1 hcell hcv hcl hS0 => ?_)
  refine vx_catch (E := KA) (name := KA) hown [] ⟨0, 9, 12, 21⟩ [⟨0, 9, 15, 13⟩] htab (fun z hz => by cases hz) (by decide) (by decide) (hg _ wl_L_21) (va_Nw.use rfl (hXA.1.1 KA (by decide))) hcell hcv hcl ?_
  refine lv_astore_n (lv' := [(3, .ref q9), (0, .ref x0), (1, .int (zi (v))), (2, .ref ou)]) hx hb dL_bound_12 rfl hl (by decide) rfl (fun ls hl => ?_)
  refine lv_iconst (v := zi (1)) hx hb dL_bound_13 rfl ?_
  exact nw_i hx hb hr hlocks rfl (F := (fun w9 => w9 = [(x0, .inr (2, [.ref pa, .int (zi ((pn : Int))), .ref ba, .int (zi ((bn : Int))), .ref ax, .ref ay, .int (zi ((ln : Int))), .ref sp, .ref ss, .int (zi ((sn : Int))), .ref vs, .ref fr])), (ou, .inl (cL, 1, .inr (.inl (zB (of)))))])) rfl (thP hP hS0) hD (thS0 hS0) dL_bound_14
set_option maxHeartbeats 4000000 in
set_option maxRecDepth 100000 in
theorem h_t_bound_S (l : Launch) (hl0 : l.stackTraces = false) (dC : Nat → ClassId) (dI : Nat → Nat → Nat) (sz : Nat) (x0 pa ba ax ay sp ss vs fr : Nat) (pn bn ln sn : Nat) (v : Int) (hbn : bn ≤ 10) (hv : 0 ≤ v ∧ v ≤ 1000000000) (hbad : bn = 10) (ou : Nat) (cL : ClassId) (of : Nat → Int) : Met l yL_bound (Cond.codeWith yL_bound cL_bound 4 (Option.some Jvm.ClassFile.FieldType.int) [((0 : Nat), (9 : Nat), (12 : Nat), (21 : Nat)), ((0 : Nat), (9 : Nat), (15 : Nat), (13 : Nat))] :: gw) rh_bound_1 (PcH [.ref x0, .int (zi (v)), .ref ou] (dC, dI) vwCl [(x0, .inr (2, [.ref pa, .int (zi ((pn : Int))), .ref ba, .int (zi ((bn : Int))), .ref ax, .ref ay, .int (zi ((ln : Int))), .ref sp, .ref ss, .int (zi ((sn : Int))), .ref vs, .ref fr])), (ou, .inl (cL, 1, .inr (.inl (zB (of)))))] [(cL, .long)] sz) (NwQ (some (.int (zi (2)))) (dC, dI) vwCl (fun w9 => w9 = [(x0, .inr (2, [.ref pa, .int (zi ((pn : Int))), .ref ba, .int (zi ((bn : Int))), .ref ax, .ref ay, .int (zi ((ln : Int))), .ref sp, .ref ss, .int (zi ((sn : Int))), .ref vs, .ref fr])), (ou, .inl (cL, 1, .inr (.inl (zB (of)))))]) (va_A [(x0, .inr (2, [.ref pa, .int (zi ((pn : Int))), .ref ba, .int (zi ((bn : Int))), .ref ax, .ref ay, .int (zi ((ln : Int))), .ref sp, .ref ss, .int (zi ((sn : Int))), .ref vs, .ref fr])), (ou, .inl (cL, 1, .inr (.inl (zB (of)))))] sz)) 1 6 (va_A [(x0, .inr (2, [.ref pa, .int (zi ((pn : Int))), .ref ba, .int (zi ((bn : Int))), .ref ax, .ref ay, .int (zi ((ln : Int))), .ref sp, .ref ss, .int (zi ((sn : Int))), .ref vs, .ref fr])), (ou, .inl (cL, 1, .inr (.inl (zB (of)))))] sz) := by
  refine va_MetW (cc := cL_bound) (maxL := 4) (ret := (Option.some Jvm.ClassFile.FieldType.int)) (hh := [((0 : Nat), (9 : Nat), (12 : Nat), (21 : Nat)), ((0 : Nat), (9 : Nat), (15 : Nat), (13 : Nat))]) (by decide) rfl ?_
  intro p e s m args below meth c s₁ B hml hv
  obtain ⟨hargs, hsz, hP, hK, hD0, hXA⟩ := hv
  have hx := B.exec
  have hb := B.bytes
  have hr := B.returns
  have hts := atoms_spec (ws := Cond.codeWith yL_bound cL_bound 4 (Option.some Jvm.ClassFile.FieldType.int) [((0 : Nat), (9 : Nat), (12 : Nat), (21 : Nat)), ((0 : Nat), (9 : Nat), (15 : Nat), (13 : Nat))] :: gw) B.pre
  have hg : ∀ w ∈ gw, w.before args s = true := fun w h => hts w (List.mem_cons_of_mem _ h)
  have hown : s.vm.findClass RL = some m.cls := findClass_of_methodNamed B.named
  have hlocks := B.notSynchronized
  have htab := vx_table (x := yL_bound) B (hts _ List.mem_cons_self)
  subst hsz
  have hD := hD0.self (sz := s.heap.size)
  generalize hAe : va_A [(x0, .inr (2, [.ref pa, .int (zi ((pn : Int))), .ref ba, .int (zi ((bn : Int))), .ref ax, .ref ay, .int (zi ((ln : Int))), .ref sp, .ref ss, .int (zi ((sn : Int))), .ref vs, .ref fr])), (ou, .inl (cL, 1, .inr (.inl (zB (of)))))] s.heap.size = A at hD ⊢
  have hA : ∀ q : Nat, s.heap.size ≤ q → A q := fun q h => by rw [← hAe]; exact Or.inr h
  show W p l e rh_bound_1 s m args below meth c s.heap [] 0 0 _ _
  have hl := lv_entry ([.ref x0, .int (zi (v)), .ref ou]) (n := 4) (Nat.le_of_ble_eq_true rfl)
  rw [show entryFrame m args 4 = entryFrame m ([.ref x0, .int (zi (v)), .ref ou] : List Value).toArray 4 by rw [hargs], lg_entry_eq]
  generalize (lg_sl ([.ref x0, .int (zi (v)), .ref ou]) ++ List.replicate (4 - (lg_sl ([.ref x0, .int (zi (v)), .ref ou])).length) Slot.unset).toArray = ls at hl ⊢
  have hl : lv_has ls 4 [(0, .ref x0), (1, .int (zi (v))), (2, .ref ou)] := hl
  refine lv_aload_n hx hb dL_bound_0 rfl (lv_at hl 2 rfl) ?_
  refine lv_iconst (v := zi (0)) hx hb dL_bound_1 rfl ?_
  refine lv_aload_n hx hb dL_bound_2 rfl (lv_at hl 0 rfl) ?_
  refine lv_iload_n hx hb dL_bound_3 rfl (lv_at hl 1 rfl) ?_
  refine thKV (As := [.int (zi (v))]) (rest := [.int (zi (0)), .ref ou]) (n := 1) hx hb hml hown hg (t_bound_S l hl0 dC dI x0 pa ba ax ay sp ss vs fr pn bn ln sn v hbn hv hbad) (gwV wl_L_55 wm_X2_bound we_X2_bound wi_X2 wc_X2_bound) rfl rfl (by decide +kernel) ⟨(Nat.le_of_ble_eq_true rfl), (Nat.le_of_ble_eq_true rfl)⟩ (hK.sub [] rfl) (hP.sub [0] rfl) hXA.1 0 rfl rfl rfl rfl hl.1 rfl (Nat.le_of_ble_eq_true rfl) dL_bound_4 ⟨(Nat.le_of_ble_eq_true rfl), (Nat.le_of_ble_eq_true rfl)⟩ (fun q9 ce H1 locs1 hcell hcv hcl hS0 => ?_)
  refine vx_catch (E := KS) (name := KS) hown [⟨0, 9, 12, 21⟩] ⟨0, 9, 15, 13⟩ [] htab (fun z hz => by rcases List.mem_singleton.mp hz with rfl; exact Or.inr ⟨by decide, KA, hg _ wl_L_21, hXA.2.2.2.2⟩) (by decide) (by decide) (hg _ wl_L_13) (va_Nw.use rfl (hXA.1.1 KS (by decide))) hcell hcv hcl ?_
  refine lv_astore_n (lv' := [(3, .ref q9), (0, .ref x0), (1, .int (zi (v))), (2, .ref ou)]) hx hb dL_bound_15 rfl hl (by decide) rfl (fun ls hl => ?_)
  refine lv_iconst (v := zi (2)) hx hb dL_bound_16 rfl ?_
  exact nw_i hx hb hr hlocks rfl (F := (fun w9 => w9 = [(x0, .inr (2, [.ref pa, .int (zi ((pn : Int))), .ref ba, .int (zi ((bn : Int))), .ref ax, .ref ay, .int (zi ((ln : Int))), .ref sp, .ref ss, .int (zi ((sn : Int))), .ref vs, .ref fr])), (ou, .inl (cL, 1, .inr (.inl (zB (of)))))])) rfl (thP hP hS0) hD (thS0 hS0) dL_bound_17
abbrev rh_size_0 : Room := { frames := 9, cells := 0, slots := 0, locals := 200 }
set_option maxHeartbeats 4000000 in
set_option maxRecDepth 100000 in
theorem h_c_size (l : Launch) (dC : Nat → ClassId) (dI : Nat → Nat → Nat) (sz : Nat) (x0 pa ba ax ay sp ss vs fr : Nat) (pn bn ln sn : Nat) (cQ : ClassId) (pf : Nat → Option Nat) (h0 h1 h2 : Nat) (cA : ClassId) (n : Nat) (th wc : Int) (hs rs : Nat → Int) (j : Nat) (a b : Int) (bs : Nat → Int) (hn : n ≤ 12) (hH : ∀ j, 0 ≤ hs j ∧ hs j ≤ 400) (hR : ∀ j, 0 ≤ rs j ∧ rs j ≤ 200) (hj : j < 6) (hf : pf j = some h0) (hth : 0 ≤ th ∧ th ≤ 50) (hok : p_oks n hs rs th (hs 0 + th) 400) (hsm : p_small (p_sum hs rs th (hs 0 + th) 400 (n - 1))) (hbn : bn ≤ 10) (hbs : ∀ j, 0 ≤ bs j ∧ bs j ≤ 1000000000) (ou : Nat) (cL : ClassId) (of : Nat → Int) : Met l yL_size (Cond.codeWith yL_size cL_size 4 (Option.some Jvm.ClassFile.FieldType.int) [((0 : Nat), (9 : Nat), (12 : Nat), (19 : Nat))] :: gw) rh_size_0 (PcH [.ref x0, .int (zi ((j : Int))), .ref ou] (dC, dI) vwCl [(x0, .inr (2, [.ref pa, .int (zi ((pn : Int))), .ref ba, .int (zi ((bn : Int))), .ref ax, .ref ay, .int (zi ((ln : Int))), .ref sp, .ref ss, .int (zi ((sn : Int))), .ref vs, .ref fr])), (pa, .inl (cQ, 6, .inr (.inr (.inr (.inr (pf)))))), (h0, .inr (1, [.ref h1, .ref h2, .int (zi ((n : Int))), .int (zi (th)), .int (zi (wc))])), (h1, .inl (cA, 12, .inl (zA (hs)))), (h2, .inl (cA, 12, .inl (zA (rs)))), (fr, .inr (0, [.long (zl (a)), .long (zl (b))])), (ba, .inl (cA, 10, .inl (zA (bs)))), (ou, .inl (cL, 1, .inr (.inl (zB (of)))))] [(cQ, .object "PotVolumes$Profile"), (cA, .int), (cL, .long)] sz) (NwQ (some (.int (zi (0)))) (dC, dI) vwCl (fun w9 => w9 = [(x0, .inr (2, [.ref pa, .int (zi ((pn : Int))), .ref ba, .int (zi ((bn : Int))), .ref ax, .ref ay, .int (zi ((ln : Int))), .ref sp, .ref ss, .int (zi ((sn : Int))), .ref vs, .ref fr])), (pa, .inl (cQ, 6, .inr (.inr (.inr (.inr (pf)))))), (h0, .inr (1, [.ref h1, .ref h2, .int (zi ((n : Int))), .int (zi (th)), .int (zi (wc))])), (h1, .inl (cA, 12, .inl (zA (hs)))), (h2, .inl (cA, 12, .inl (zA (rs)))), (fr, .inr (0, [.long (zl ((((p_sum hs rs th (hs 0 + th) (400) (n - 1)).1 : Nat) : Int))), .long (zl ((((p_sum hs rs th (hs 0 + th) (400) (n - 1)).2 : Nat) : Int)))])), (ba, .inl (cA, 10, .inl (zA (bs)))), (ou, .inl (cL, 1, .inr (.inl (zB (zupd of (0) ((zi (((s_cnt bs (p_encl (p_sum hs rs th (hs 0 + th) 400 (n - 1)) 0) bn : Nat) : Int))).toInt))))))]) (va_A [(x0, .inr (2, [.ref pa, .int (zi ((pn : Int))), .ref ba, .int (zi ((bn : Int))), .ref ax, .ref ay, .int (zi ((ln : Int))), .ref sp, .ref ss, .int (zi ((sn : Int))), .ref vs, .ref fr])), (pa, .inl (cQ, 6, .inr (.inr (.inr (.inr (pf)))))), (h0, .inr (1, [.ref h1, .ref h2, .int (zi ((n : Int))), .int (zi (th)), .int (zi (wc))])), (h1, .inl (cA, 12, .inl (zA (hs)))), (h2, .inl (cA, 12, .inl (zA (rs)))), (fr, .inr (0, [.long (zl (a)), .long (zl (b))])), (ba, .inl (cA, 10, .inl (zA (bs)))), (ou, .inl (cL, 1, .inr (.inl (zB (of)))))] sz)) 0 0 (va_A [(x0, .inr (2, [.ref pa, .int (zi ((pn : Int))), .ref ba, .int (zi ((bn : Int))), .ref ax, .ref ay, .int (zi ((ln : Int))), .ref sp, .ref ss, .int (zi ((sn : Int))), .ref vs, .ref fr])), (pa, .inl (cQ, 6, .inr (.inr (.inr (.inr (pf)))))), (h0, .inr (1, [.ref h1, .ref h2, .int (zi ((n : Int))), .int (zi (th)), .int (zi (wc))])), (h1, .inl (cA, 12, .inl (zA (hs)))), (h2, .inl (cA, 12, .inl (zA (rs)))), (fr, .inr (0, [.long (zl (a)), .long (zl (b))])), (ba, .inl (cA, 10, .inl (zA (bs)))), (ou, .inl (cL, 1, .inr (.inl (zB (of)))))] sz) := by
  refine va_MetW (cc := cL_size) (maxL := 4) (ret := (Option.some Jvm.ClassFile.FieldType.int)) (hh := [((0 : Nat), (9 : Nat), (12 : Nat), (19 : Nat))]) (by decide) rfl ?_
  intro p e s m args below meth c s₁ B hml hv
  obtain ⟨hargs, hsz, hP, hK, hD0, hXA⟩ := hv
  have hx := B.exec
  have hb := B.bytes
  have hr := B.returns
  have hts := atoms_spec (ws := Cond.codeWith yL_size cL_size 4 (Option.some Jvm.ClassFile.FieldType.int) [((0 : Nat), (9 : Nat), (12 : Nat), (19 : Nat))] :: gw) B.pre
  have hg : ∀ w ∈ gw, w.before args s = true := fun w h => hts w (List.mem_cons_of_mem _ h)
  have hown : s.vm.findClass RL = some m.cls := findClass_of_methodNamed B.named
  have hlocks := B.notSynchronized
  have htab := vx_table (x := yL_size) B (hts _ List.mem_cons_self)
  subst hsz
  have hD := hD0.self (sz := s.heap.size)
  generalize hAe : va_A [(x0, .inr (2, [.ref pa, .int (zi ((pn : Int))), .ref ba, .int (zi ((bn : Int))), .ref ax, .ref ay, .int (zi ((ln : Int))), .ref sp, .ref ss, .int (zi ((sn : Int))), .ref vs, .ref fr])), (pa, .inl (cQ, 6, .inr (.inr (.inr (.inr (pf)))))), (h0, .inr (1, [.ref h1, .ref h2, .int (zi ((n : Int))), .int (zi (th)), .int (zi (wc))])), (h1, .inl (cA, 12, .inl (zA (hs)))), (h2, .inl (cA, 12, .inl (zA (rs)))), (fr, .inr (0, [.long (zl (a)), .long (zl (b))])), (ba, .inl (cA, 10, .inl (zA (bs)))), (ou, .inl (cL, 1, .inr (.inl (zB (of)))))] s.heap.size = A at hD ⊢
  have hA : ∀ q : Nat, s.heap.size ≤ q → A q := fun q h => by rw [← hAe]; exact Or.inr h
  show W p l e rh_size_0 s m args below meth c s.heap [] 0 0 _ _
  have hl := lv_entry ([.ref x0, .int (zi ((j : Int))), .ref ou]) (n := 4) (Nat.le_of_ble_eq_true rfl)
  rw [show entryFrame m args 4 = entryFrame m ([.ref x0, .int (zi ((j : Int))), .ref ou] : List Value).toArray 4 by rw [hargs], lg_entry_eq]
  generalize (lg_sl ([.ref x0, .int (zi ((j : Int))), .ref ou]) ++ List.replicate (4 - (lg_sl ([.ref x0, .int (zi ((j : Int))), .ref ou])).length) Slot.unset).toArray = ls at hl ⊢
  have hl : lv_has ls 4 [(0, .ref x0), (1, .int (zi ((j : Int)))), (2, .ref ou)] := hl
  refine lv_aload_n hx hb dL_size_0 rfl (lv_at hl 2 rfl) ?_
  refine lv_iconst (v := zi (0)) hx hb dL_size_1 rfl ?_
  refine lv_aload_n hx hb dL_size_2 rfl (lv_at hl 0 rfl) ?_
  refine lv_iload_n hx hb dL_size_3 rfl (lv_at hl 1 rfl) ?_
  obtain ⟨H, hHe⟩ : ∃ H : Heap, H = s.heap := ⟨_, rfl⟩
  obtain ⟨locs, hlc⟩ : ∃ x : List Loc, x = [] := ⟨_, rfl⟩
  have hS : va_S A s.heap H locs := by rw [hHe, hlc]; exact va_S.rf
  have hP : va_P (dC, dI) vwCl [(x0, .inr (2, [.ref pa, .int (zi ((pn : Int))), .ref ba, .int (zi ((bn : Int))), .ref ax, .ref ay, .int (zi ((ln : Int))), .ref sp, .ref ss, .int (zi ((sn : Int))), .ref vs, .ref fr])), (pa, .inl (cQ, 6, .inr (.inr (.inr (.inr (pf)))))), (h0, .inr (1, [.ref h1, .ref h2, .int (zi ((n : Int))), .int (zi (th)), .int (zi (wc))])), (h1, .inl (cA, 12, .inl (zA (hs)))), (h2, .inl (cA, 12, .inl (zA (rs)))), (fr, .inr (0, [.long (zl (a)), .long (zl (b))])), (ba, .inl (cA, 10, .inl (zA (bs)))), (ou, .inl (cL, 1, .inr (.inl (zB (of)))))] H := by rw [hHe]; exact hP
  rw [← hHe, ← hlc]
  refine wrV (As := [.int (zi ((j : Int)))]) (rest := [.int (zi (0)), .ref ou]) (n := 1) (ws' := [(x0, .inr (2, [.ref pa, .int (zi ((pn : Int))), .ref ba, .int (zi ((bn : Int))), .ref ax, .ref ay, .int (zi ((ln : Int))), .ref sp, .ref ss, .int (zi ((sn : Int))), .ref vs, .ref fr])), (pa, .inl (cQ, 6, .inr (.inr (.inr (.inr (pf)))))), (h0, .inr (1, [.ref h1, .ref h2, .int (zi ((n : Int))), .int (zi (th)), .int (zi (wc))])), (h1, .inl (cA, 12, .inl (zA (hs)))), (h2, .inl (cA, 12, .inl (zA (rs)))), (fr, .inr (0, [.long (zl ((((p_sum hs rs th (hs 0 + th) (400) (n - 1)).1 : Nat) : Int))), .long (zl ((((p_sum hs rs th (hs 0 + th) (400) (n - 1)).2 : Nat) : Int)))])), (ba, .inl (cA, 10, .inl (zA (bs)))), (ou, .inl (cL, 1, .inr (.inl (zB (of)))))]) hx hb hml hown hg (c_size l dC dI H.size x0 pa ba ax ay sp ss vs fr pn bn ln sn cQ pf h0 h1 h2 cA n th wc hs rs j a b bs hn hH hR hj hf hth hok hsm hbn hbs) (gwV wl_L_59 wm_X2_size we_X2_size wi_X2 wc_X2_size) rfl rfl (by decide +kernel) ⟨(Nat.le_of_ble_eq_true rfl), (Nat.le_of_ble_eq_true rfl)⟩ (hK.sub [0, 1] rfl) hP hD hS hA [0, 1, 2, 3, 4, 5, 6] rfl (by decide) [(true, 0), (true, 1), (true, 2), (true, 3), (true, 4), (true, 5), (true, 6), (false, 7)] rfl (by decide) rfl 0 rfl rfl rfl rfl hl.1 rfl (Nat.le_of_ble_eq_true rfl) dL_size_4 ⟨Nat.zero_le _, Nat.zero_le _⟩ (fun H locs hP hD hS => ?_)
  refine zz_i2lr hx hb dL_size_7 ?_
  refine zz_last hx hb hK hP hD hS 7 2 rfl rfl (0) (by omega) (by omega) (by decide) dL_size_8 (fun H locs hP hD hS => ?_)
  refine lv_goto (tgt := 15) hx hb dL_size_9 (by decide) ?_
  refine lv_iconst (v := zi (0)) hx hb dL_size_15 rfl ?_
  exact nw_i hx hb hr hlocks rfl (F := (fun w9 => w9 = [(x0, .inr (2, [.ref pa, .int (zi ((pn : Int))), .ref ba, .int (zi ((bn : Int))), .ref ax, .ref ay, .int (zi ((ln : Int))), .ref sp, .ref ss, .int (zi ((sn : Int))), .ref vs, .ref fr])), (pa, .inl (cQ, 6, .inr (.inr (.inr (.inr (pf)))))), (h0, .inr (1, [.ref h1, .ref h2, .int (zi ((n : Int))), .int (zi (th)), .int (zi (wc))])), (h1, .inl (cA, 12, .inl (zA (hs)))), (h2, .inl (cA, 12, .inl (zA (rs)))), (fr, .inr (0, [.long (zl ((((p_sum hs rs th (hs 0 + th) (400) (n - 1)).1 : Nat) : Int))), .long (zl ((((p_sum hs rs th (hs 0 + th) (400) (n - 1)).2 : Nat) : Int)))])), (ba, .inl (cA, 10, .inl (zA (bs)))), (ou, .inl (cL, 1, .inr (.inl (zB (zupd of (0) ((zi (((s_cnt bs (p_encl (p_sum hs rs th (hs 0 + th) 400 (n - 1)) 0) bn : Nat) : Int))).toInt))))))])) rfl hP hD hS dL_size_16
abbrev rh_size_1 : Room := { frames := 9, cells := 1, slots := 6, locals := 200 }
set_option maxHeartbeats 4000000 in
set_option maxRecDepth 100000 in
theorem h_t_size_p (l : Launch) (hl0 : l.stackTraces = false) (dC : Nat → ClassId) (dI : Nat → Nat → Nat) (sz : Nat) (x0 pa ba ax ay sp ss vs fr : Nat) (pn bn ln sn : Nat) (cQ : ClassId) (pf : Nat → Option Nat) (i : Int) (hi : -2147483648 ≤ i ∧ i < 2147483648) (hbad : i < 0 ∨ 6 ≤ i ∨ pf i.toNat = none) (ou : Nat) (cL : ClassId) (of : Nat → Int) : Met l yL_size (Cond.codeWith yL_size cL_size 4 (Option.some Jvm.ClassFile.FieldType.int) [((0 : Nat), (9 : Nat), (12 : Nat), (19 : Nat))] :: gw) rh_size_1 (PcH [.ref x0, .int (zi (i)), .ref ou] (dC, dI) vwCl [(x0, .inr (2, [.ref pa, .int (zi ((pn : Int))), .ref ba, .int (zi ((bn : Int))), .ref ax, .ref ay, .int (zi ((ln : Int))), .ref sp, .ref ss, .int (zi ((sn : Int))), .ref vs, .ref fr])), (pa, .inl (cQ, 6, .inr (.inr (.inr (.inr (pf)))))), (ou, .inl (cL, 1, .inr (.inl (zB (of)))))] [(cQ, .object "PotVolumes$Profile"), (cL, .long)] sz) (NwQ (some (.int (zi (1)))) (dC, dI) vwCl (fun w9 => w9 = [(x0, .inr (2, [.ref pa, .int (zi ((pn : Int))), .ref ba, .int (zi ((bn : Int))), .ref ax, .ref ay, .int (zi ((ln : Int))), .ref sp, .ref ss, .int (zi ((sn : Int))), .ref vs, .ref fr])), (pa, .inl (cQ, 6, .inr (.inr (.inr (.inr (pf)))))), (ou, .inl (cL, 1, .inr (.inl (zB (of)))))]) (va_A [(x0, .inr (2, [.ref pa, .int (zi ((pn : Int))), .ref ba, .int (zi ((bn : Int))), .ref ax, .ref ay, .int (zi ((ln : Int))), .ref sp, .ref ss, .int (zi ((sn : Int))), .ref vs, .ref fr])), (pa, .inl (cQ, 6, .inr (.inr (.inr (.inr (pf)))))), (ou, .inl (cL, 1, .inr (.inl (zB (of)))))] sz)) 1 6 (va_A [(x0, .inr (2, [.ref pa, .int (zi ((pn : Int))), .ref ba, .int (zi ((bn : Int))), .ref ax, .ref ay, .int (zi ((ln : Int))), .ref sp, .ref ss, .int (zi ((sn : Int))), .ref vs, .ref fr])), (pa, .inl (cQ, 6, .inr (.inr (.inr (.inr (pf)))))), (ou, .inl (cL, 1, .inr (.inl (zB (of)))))] sz) := by
  refine va_MetW (cc := cL_size) (maxL := 4) (ret := (Option.some Jvm.ClassFile.FieldType.int)) (hh := [((0 : Nat), (9 : Nat), (12 : Nat), (19 : Nat))]) (by decide) rfl ?_
  intro p e s m args below meth c s₁ B hml hv
  obtain ⟨hargs, hsz, hP, hK, hD0, hXA⟩ := hv
  have hx := B.exec
  have hb := B.bytes
  have hr := B.returns
  have hts := atoms_spec (ws := Cond.codeWith yL_size cL_size 4 (Option.some Jvm.ClassFile.FieldType.int) [((0 : Nat), (9 : Nat), (12 : Nat), (19 : Nat))] :: gw) B.pre
  have hg : ∀ w ∈ gw, w.before args s = true := fun w h => hts w (List.mem_cons_of_mem _ h)
  have hown : s.vm.findClass RL = some m.cls := findClass_of_methodNamed B.named
  have hlocks := B.notSynchronized
  have htab := vx_table (x := yL_size) B (hts _ List.mem_cons_self)
  subst hsz
  have hD := hD0.self (sz := s.heap.size)
  generalize hAe : va_A [(x0, .inr (2, [.ref pa, .int (zi ((pn : Int))), .ref ba, .int (zi ((bn : Int))), .ref ax, .ref ay, .int (zi ((ln : Int))), .ref sp, .ref ss, .int (zi ((sn : Int))), .ref vs, .ref fr])), (pa, .inl (cQ, 6, .inr (.inr (.inr (.inr (pf)))))), (ou, .inl (cL, 1, .inr (.inl (zB (of)))))] s.heap.size = A at hD ⊢
  have hA : ∀ q : Nat, s.heap.size ≤ q → A q := fun q h => by rw [← hAe]; exact Or.inr h
  show W p l e rh_size_1 s m args below meth c s.heap [] 0 0 _ _
  have hl := lv_entry ([.ref x0, .int (zi (i)), .ref ou]) (n := 4) (Nat.le_of_ble_eq_true rfl)
  rw [show entryFrame m args 4 = entryFrame m ([.ref x0, .int (zi (i)), .ref ou] : List Value).toArray 4 by rw [hargs], lg_entry_eq]
  generalize (lg_sl ([.ref x0, .int (zi (i)), .ref ou]) ++ List.replicate (4 - (lg_sl ([.ref x0, .int (zi (i)), .ref ou])).length) Slot.unset).toArray = ls at hl ⊢
  have hl : lv_has ls 4 [(0, .ref x0), (1, .int (zi (i))), (2, .ref ou)] := hl
  refine lv_aload_n hx hb dL_size_0 rfl (lv_at hl 2 rfl) ?_
  refine lv_iconst (v := zi (0)) hx hb dL_size_1 rfl ?_
  refine lv_aload_n hx hb dL_size_2 rfl (lv_at hl 0 rfl) ?_
  refine lv_iload_n hx hb dL_size_3 rfl (lv_at hl 1 rfl) ?_
  refine thKV (As := [.int (zi (i))]) (rest := [.int (zi (0)), .ref ou]) (n := 1) hx hb hml hown hg (t_size_p l hl0 dC dI x0 pa ba ax ay sp ss vs fr pn bn ln sn cQ pf i hi hbad) (gwV wl_L_59 wm_X2_size we_X2_size wi_X2 wc_X2_size) rfl rfl (by decide +kernel) ⟨(Nat.le_of_ble_eq_true rfl), (Nat.le_of_ble_eq_true rfl)⟩ (hK.sub [0] rfl) (hP.sub [0, 1] rfl) hXA.1 0 rfl rfl rfl rfl hl.1 rfl (Nat.le_of_ble_eq_true rfl) dL_size_4 ⟨(Nat.le_of_ble_eq_true rfl), (Nat.le_of_ble_eq_true rfl)⟩ (fun q9 ce H1 locs1 hcell hcv hcl hS0 => ?_)
  refine vx_catch (E := KI) (name := KI) hown [] ⟨0, 9, 12, 19⟩ [] htab (fun z hz => by cases hz) (by decide) (by decide) (hg _ wl_L_19) (va_Nw.use rfl (hXA.1.1 KI (by decide))) hcell hcv hcl ?_
  refine lv_astore_n (lv' := [(3, .ref q9), (0, .ref x0), (1, .int (zi (i))), (2, .ref ou)]) hx hb dL_size_12 rfl hl (by decide) rfl (fun ls hl => ?_)
  refine lv_iconst (v := zi (1)) hx hb dL_size_13 rfl ?_
  exact nw_i hx hb hr hlocks rfl (F := (fun w9 => w9 = [(x0, .inr (2, [.ref pa, .int (zi ((pn : Int))), .ref ba, .int (zi ((bn : Int))), .ref ax, .ref ay, .int (zi ((ln : Int))), .ref sp, .ref ss, .int (zi ((sn : Int))), .ref vs, .ref fr])), (pa, .inl (cQ, 6, .inr (.inr (.inr (.inr (pf)))))), (ou, .inl (cL, 1, .inr (.inl (zB (of)))))])) rfl (thP hP hS0) hD (thS0 hS0) dL_size_14
abbrev rh_rim_0 : Room := { frames := 9, cells := 0, slots := 0, locals := 200 }
set_option maxHeartbeats 4000000 in
set_option maxRecDepth 100000 in
theorem h_c_rim (l : Launch) (dC : Nat → ClassId) (dI : Nat → Nat → Nat) (sz : Nat) (x0 pa ba ax ay sp ss vs fr : Nat) (pn bn ln sn : Nat) (cA : ClassId) (xs ys : Nat → Int) (x y : Int) (hv9 : -200 ≤ x ∧ x ≤ 200 ∧ -200 ≤ y ∧ y ≤ 200) (hln : ln < 20) (ou : Nat) (cL : ClassId) (of : Nat → Int) : Met l yL_rim (Cond.codeWith yL_rim cL_rim 5 (Option.some Jvm.ClassFile.FieldType.int) [((0 : Nat), (10 : Nat), (13 : Nat), (21 : Nat)), ((0 : Nat), (10 : Nat), (17 : Nat), (13 : Nat))] :: gw) rh_rim_0 (PcH [.ref x0, .int (zi (x)), .int (zi (y)), .ref ou] (dC, dI) vwCl [(x0, .inr (2, [.ref pa, .int (zi ((pn : Int))), .ref ba, .int (zi ((bn : Int))), .ref ax, .ref ay, .int (zi ((ln : Int))), .ref sp, .ref ss, .int (zi ((sn : Int))), .ref vs, .ref fr])), (ax, .inl (cA, 20, .inl (zA (xs)))), (ay, .inl (cA, 20, .inl (zA (ys)))), (ou, .inl (cL, 1, .inr (.inl (zB (of)))))] [(cA, .int), (cL, .long)] sz) (NwQ (some (.int (zi (0)))) (dC, dI) vwCl (fun w9 => w9 = [(x0, .inr (2, [.ref pa, .int (zi ((pn : Int))), .ref ba, .int (zi ((bn : Int))), .ref ax, .ref ay, .int (zi (((ln + 1 : Nat) : Int))), .ref sp, .ref ss, .int (zi ((sn : Int))), .ref vs, .ref fr])), (ax, .inl (cA, 20, .inl (zA (zupd xs (ln) (x))))), (ay, .inl (cA, 20, .inl (zA (zupd ys (ln) (y))))), (ou, .inl (cL, 1, .inr (.inl (zB (zupd of (0) ((zi (((ln + 1 : Nat) : Int))).toInt))))))]) (va_A [(x0, .inr (2, [.ref pa, .int (zi ((pn : Int))), .ref ba, .int (zi ((bn : Int))), .ref ax, .ref ay, .int (zi ((ln : Int))), .ref sp, .ref ss, .int (zi ((sn : Int))), .ref vs, .ref fr])), (ax, .inl (cA, 20, .inl (zA (xs)))), (ay, .inl (cA, 20, .inl (zA (ys)))), (ou, .inl (cL, 1, .inr (.inl (zB (of)))))] sz)) 0 0 (va_A [(x0, .inr (2, [.ref pa, .int (zi ((pn : Int))), .ref ba, .int (zi ((bn : Int))), .ref ax, .ref ay, .int (zi ((ln : Int))), .ref sp, .ref ss, .int (zi ((sn : Int))), .ref vs, .ref fr])), (ax, .inl (cA, 20, .inl (zA (xs)))), (ay, .inl (cA, 20, .inl (zA (ys)))), (ou, .inl (cL, 1, .inr (.inl (zB (of)))))] sz) := by
  refine va_MetW (cc := cL_rim) (maxL := 5) (ret := (Option.some Jvm.ClassFile.FieldType.int)) (hh := [((0 : Nat), (10 : Nat), (13 : Nat), (21 : Nat)), ((0 : Nat), (10 : Nat), (17 : Nat), (13 : Nat))]) (by decide) rfl ?_
  intro p e s m args below meth c s₁ B hml hv
  obtain ⟨hargs, hsz, hP, hK, hD0, hXA⟩ := hv
  have hx := B.exec
  have hb := B.bytes
  have hr := B.returns
  have hts := atoms_spec (ws := Cond.codeWith yL_rim cL_rim 5 (Option.some Jvm.ClassFile.FieldType.int) [((0 : Nat), (10 : Nat), (13 : Nat), (21 : Nat)), ((0 : Nat), (10 : Nat), (17 : Nat), (13 : Nat))] :: gw) B.pre
  have hg : ∀ w ∈ gw, w.before args s = true := fun w h => hts w (List.mem_cons_of_mem _ h)
  have hown : s.vm.findClass RL = some m.cls := findClass_of_methodNamed B.named
  have hlocks := B.notSynchronized
  have htab := vx_table (x := yL_rim) B (hts _ List.mem_cons_self)
  subst hsz
  have hD := hD0.self (sz := s.heap.size)
  generalize hAe : va_A [(x0, .inr (2, [.ref pa, .int (zi ((pn : Int))), .ref ba, .int (zi ((bn : Int))), .ref ax, .ref ay, .int (zi ((ln : Int))), .ref sp, .ref ss, .int (zi ((sn : Int))), .ref vs, .ref fr])), (ax, .inl (cA, 20, .inl (zA (xs)))), (ay, .inl (cA, 20, .inl (zA (ys)))), (ou, .inl (cL, 1, .inr (.inl (zB (of)))))] s.heap.size = A at hD ⊢
  have hA : ∀ q : Nat, s.heap.size ≤ q → A q := fun q h => by rw [← hAe]; exact Or.inr h
  show W p l e rh_rim_0 s m args below meth c s.heap [] 0 0 _ _
  have hl := lv_entry ([.ref x0, .int (zi (x)), .int (zi (y)), .ref ou]) (n := 5) (Nat.le_of_ble_eq_true rfl)
  rw [show entryFrame m args 5 = entryFrame m ([.ref x0, .int (zi (x)), .int (zi (y)), .ref ou] : List Value).toArray 5 by rw [hargs], lg_entry_eq]
  generalize (lg_sl ([.ref x0, .int (zi (x)), .int (zi (y)), .ref ou]) ++ List.replicate (5 - (lg_sl ([.ref x0, .int (zi (x)), .int (zi (y)), .ref ou])).length) Slot.unset).toArray = ls at hl ⊢
  have hl : lv_has ls 5 [(0, .ref x0), (1, .int (zi (x))), (2, .int (zi (y))), (3, .ref ou)] := hl
  refine lv_aload_n hx hb dL_rim_0 rfl (lv_at hl 3 rfl) ?_
  refine lv_iconst (v := zi (0)) hx hb dL_rim_1 rfl ?_
  refine lv_aload_n hx hb dL_rim_2 rfl (lv_at hl 0 rfl) ?_
  refine lv_iload_n hx hb dL_rim_3 rfl (lv_at hl 1 rfl) ?_
  refine lv_iload_n hx hb dL_rim_4 rfl (lv_at hl 2 rfl) ?_
  obtain ⟨H, hHe⟩ : ∃ H : Heap, H = s.heap := ⟨_, rfl⟩
  obtain ⟨locs, hlc⟩ : ∃ x : List Loc, x = [] := ⟨_, rfl⟩
  have hS : va_S A s.heap H locs := by rw [hHe, hlc]; exact va_S.rf
  have hP : va_P (dC, dI) vwCl [(x0, .inr (2, [.ref pa, .int (zi ((pn : Int))), .ref ba, .int (zi ((bn : Int))), .ref ax, .ref ay, .int (zi ((ln : Int))), .ref sp, .ref ss, .int (zi ((sn : Int))), .ref vs, .ref fr])), (ax, .inl (cA, 20, .inl (zA (xs)))), (ay, .inl (cA, 20, .inl (zA (ys)))), (ou, .inl (cL, 1, .inr (.inl (zB (of)))))] H := by rw [hHe]; exact hP
  rw [← hHe, ← hlc]
  refine wrV (As := [.int (zi (x)), .int (zi (y))]) (rest := [.int (zi (0)), .ref ou]) (n := 2) (ws' := [(x0, .inr (2, [.ref pa, .int (zi ((pn : Int))), .ref ba, .int (zi ((bn : Int))), .ref ax, .ref ay, .int (zi (((ln + 1 : Nat) : Int))), .ref sp, .ref ss, .int (zi ((sn : Int))), .ref vs, .ref fr])), (ax, .inl (cA, 20, .inl (zA (zupd xs (ln) (x))))), (ay, .inl (cA, 20, .inl (zA (zupd ys (ln) (y))))), (ou, .inl (cL, 1, .inr (.inl (zB (of)))))]) hx hb hml hown hg (c_rim l dC dI H.size x0 pa ba ax ay sp ss vs fr pn bn ln sn cA xs ys x y hv9 hln) (gwV wl_L_62 wm_X2_rim we_X2_rim wi_X2 wc_X2_rim) rfl rfl (by decide +kernel) ⟨(Nat.le_of_ble_eq_true rfl), (Nat.le_of_ble_eq_true rfl)⟩ (hK.sub [0] rfl) hP hD hS hA [0, 1, 2] rfl (by decide) [(true, 0), (true, 1), (true, 2), (false, 3)] rfl (by decide) rfl 0 rfl rfl rfl rfl hl.1 rfl (Nat.le_of_ble_eq_true rfl) dL_rim_5 ⟨Nat.zero_le _, Nat.zero_le _⟩ (fun H locs hP hD hS => ?_)
  refine zz_i2lr hx hb dL_rim_8 ?_
  refine zz_last hx hb hK hP hD hS 3 1 rfl rfl (0) (by omega) (by omega) (by decide) dL_rim_9 (fun H locs hP hD hS => ?_)
  refine lv_goto (tgt := 21) hx hb dL_rim_10 (by decide) ?_
  refine lv_iconst (v := zi (0)) hx hb dL_rim_21 rfl ?_
  exact nw_i hx hb hr hlocks rfl (F := (fun w9 => w9 = [(x0, .inr (2, [.ref pa, .int (zi ((pn : Int))), .ref ba, .int (zi ((bn : Int))), .ref ax, .ref ay, .int (zi (((ln + 1 : Nat) : Int))), .ref sp, .ref ss, .int (zi ((sn : Int))), .ref vs, .ref fr])), (ax, .inl (cA, 20, .inl (zA (zupd xs (ln) (x))))), (ay, .inl (cA, 20, .inl (zA (zupd ys (ln) (y))))), (ou, .inl (cL, 1, .inr (.inl (zB (zupd of (0) ((zi (((ln + 1 : Nat) : Int))).toInt))))))])) rfl hP hD hS dL_rim_22
abbrev rh_rim_1 : Room := { frames := 9, cells := 1, slots := 6, locals := 200 }
set_option maxHeartbeats 4000000 in
set_option maxRecDepth 100000 in
theorem h_t_rim_A (l : Launch) (hl0 : l.stackTraces = false) (dC : Nat → ClassId) (dI : Nat → Nat → Nat) (sz : Nat) (x0 pa ba ax ay sp ss vs fr : Nat) (pn bn ln sn : Nat) (x y : Int) (hln : ln ≤ 20) (h_x : -2147483648 ≤ x ∧ x < 2147483648) (h_y : -2147483648 ≤ y ∧ y < 2147483648) (hbad : ¬ (-200 ≤ x ∧ x ≤ 200 ∧ -200 ≤ y ∧ y ≤ 200)) (ou : Nat) (cL : ClassId) (of : Nat → Int) : Met l yL_rim (Cond.codeWith yL_rim cL_rim 5 (Option.some Jvm.ClassFile.FieldType.int) [((0 : Nat), (10 : Nat), (13 : Nat), (21 : Nat)), ((0 : Nat), (10 : Nat), (17 : Nat), (13 : Nat))] :: gw) rh_rim_1 (PcH [.ref x0, .int (zi (x)), .int (zi (y)), .ref ou] (dC, dI) vwCl [(x0, .inr (2, [.ref pa, .int (zi ((pn : Int))), .ref ba, .int (zi ((bn : Int))), .ref ax, .ref ay, .int (zi ((ln : Int))), .ref sp, .ref ss, .int (zi ((sn : Int))), .ref vs, .ref fr])), (ou, .inl (cL, 1, .inr (.inl (zB (of)))))] [(cL, .long)] sz) (NwQ (some (.int (zi (1)))) (dC, dI) vwCl (fun w9 => w9 = [(x0, .inr (2, [.ref pa, .int (zi ((pn : Int))), .ref ba, .int (zi ((bn : Int))), .ref ax, .ref ay, .int (zi ((ln : Int))), .ref sp, .ref ss, .int (zi ((sn : Int))), .ref vs, .ref fr])), (ou, .inl (cL, 1, .inr (.inl (zB (of)))))]) (va_A [(x0, .inr (2, [.ref pa, .int (zi ((pn : Int))), .ref ba, .int (zi ((bn : Int))), .ref ax, .ref ay, .int (zi ((ln : Int))), .ref sp, .ref ss, .int (zi ((sn : Int))), .ref vs, .ref fr])), (ou, .inl (cL, 1, .inr (.inl (zB (of)))))] sz)) 1 6 (va_A [(x0, .inr (2, [.ref pa, .int (zi ((pn : Int))), .ref ba, .int (zi ((bn : Int))), .ref ax, .ref ay, .int (zi ((ln : Int))), .ref sp, .ref ss, .int (zi ((sn : Int))), .ref vs, .ref fr])), (ou, .inl (cL, 1, .inr (.inl (zB (of)))))] sz) := by
  refine va_MetW (cc := cL_rim) (maxL := 5) (ret := (Option.some Jvm.ClassFile.FieldType.int)) (hh := [((0 : Nat), (10 : Nat), (13 : Nat), (21 : Nat)), ((0 : Nat), (10 : Nat), (17 : Nat), (13 : Nat))]) (by decide) rfl ?_
  intro p e s m args below meth c s₁ B hml hv
  obtain ⟨hargs, hsz, hP, hK, hD0, hXA⟩ := hv
  have hx := B.exec
  have hb := B.bytes
  have hr := B.returns
  have hts := atoms_spec (ws := Cond.codeWith yL_rim cL_rim 5 (Option.some Jvm.ClassFile.FieldType.int) [((0 : Nat), (10 : Nat), (13 : Nat), (21 : Nat)), ((0 : Nat), (10 : Nat), (17 : Nat), (13 : Nat))] :: gw) B.pre
  have hg : ∀ w ∈ gw, w.before args s = true := fun w h => hts w (List.mem_cons_of_mem _ h)
  have hown : s.vm.findClass RL = some m.cls := findClass_of_methodNamed B.named
  have hlocks := B.notSynchronized
  have htab := vx_table (x := yL_rim) B (hts _ List.mem_cons_self)
  subst hsz
  have hD := hD0.self (sz := s.heap.size)
  generalize hAe : va_A [(x0, .inr (2, [.ref pa, .int (zi ((pn : Int))), .ref ba, .int (zi ((bn : Int))), .ref ax, .ref ay, .int (zi ((ln : Int))), .ref sp, .ref ss, .int (zi ((sn : Int))), .ref vs, .ref fr])), (ou, .inl (cL, 1, .inr (.inl (zB (of)))))] s.heap.size = A at hD ⊢
  have hA : ∀ q : Nat, s.heap.size ≤ q → A q := fun q h => by rw [← hAe]; exact Or.inr h
  show W p l e rh_rim_1 s m args below meth c s.heap [] 0 0 _ _
  have hl := lv_entry ([.ref x0, .int (zi (x)), .int (zi (y)), .ref ou]) (n := 5) (Nat.le_of_ble_eq_true rfl)
  rw [show entryFrame m args 5 = entryFrame m ([.ref x0, .int (zi (x)), .int (zi (y)), .ref ou] : List Value).toArray 5 by rw [hargs], lg_entry_eq]
  generalize (lg_sl ([.ref x0, .int (zi (x)), .int (zi (y)), .ref ou]) ++ List.replicate (5 - (lg_sl ([.ref x0, .int (zi (x)), .int (zi (y)), .ref ou])).length) Slot.unset).toArray = ls at hl ⊢
  have hl : lv_has ls 5 [(0, .ref x0), (1, .int (zi (x))), (2, .int (zi (y))), (3, .ref ou)] := hl
  refine lv_aload_n hx hb dL_rim_0 rfl (lv_at hl 3 rfl) ?_
  refine lv_iconst (v := zi (0)) hx hb dL_rim_1 rfl ?_
  refine lv_aload_n hx hb dL_rim_2 rfl (lv_at hl 0 rfl) ?_
  refine lv_iload_n hx hb dL_rim_3 rfl (lv_at hl 1 rfl) ?_
  refine lv_iload_n hx hb dL_rim_4 rfl (lv_at hl 2 rfl) ?_
  refine thKV (As := [.int (zi (x)), .int (zi (y))]) (rest := [.int (zi (0)), .ref ou]) (n := 2) hx hb hml hown hg (t_rim_A l hl0 dC dI x0 pa ba ax ay sp ss vs fr pn bn ln sn x y hln h_x h_y hbad) (gwV wl_L_62 wm_X2_rim we_X2_rim wi_X2 wc_X2_rim) rfl rfl (by decide +kernel) ⟨(Nat.le_of_ble_eq_true rfl), (Nat.le_of_ble_eq_true rfl)⟩ (hK.sub [] rfl) (hP.sub [0] rfl) hXA.1 0 rfl rfl rfl rfl hl.1 rfl (Nat.le_of_ble_eq_true rfl) dL_rim_5 ⟨(Nat.le_of_ble_eq_true rfl), (Nat.le_of_ble_eq_true rfl)⟩ (fun q9 ce H1 locs1 hcell hcv hcl hS0 => ?_)
  refine vx_catch (E := KA) (name := KA) hown [] ⟨0, 10, 13, 21⟩ [⟨0, 10, 17, 13⟩] htab (fun z hz => by cases hz) (by decide) (by decide) (hg _ wl_L_21) (va_Nw.use rfl (hXA.1.1 KA (by decide))) hcell hcv hcl ?_
  refine lv_astore (lv' := [(4, .ref q9), (0, .ref x0), (1, .int (zi (x))), (2, .int (zi (y))), (3, .ref ou)]) hx hb dL_rim_13 hl (by decide) rfl (fun ls hl => ?_)
  refine lv_iconst (v := zi (1)) hx hb dL_rim_15 rfl ?_
  exact nw_i hx hb hr hlocks rfl (F := (fun w9 => w9 = [(x0, .inr (2, [.ref pa, .int (zi ((pn : Int))), .ref ba, .int (zi ((bn : Int))), .ref ax, .ref ay, .int (zi ((ln : Int))), .ref sp, .ref ss, .int (zi ((sn : Int))), .ref vs, .ref fr])), (ou, .inl (cL, 1, .inr (.inl (zB (of)))))])) rfl (thP hP hS0) hD (thS0 hS0) dL_rim_16
set_option maxHeartbeats 4000000 in
set_option maxRecDepth 100000 in
theorem h_t_rim_S (l : Launch) (hl0 : l.stackTraces = false) (dC : Nat → ClassId) (dI : Nat → Nat → Nat) (sz : Nat) (x0 pa ba ax ay sp ss vs fr : Nat) (pn bn ln sn : Nat) (x y : Int) (hln : ln ≤ 20) (hv : -200 ≤ x ∧ x ≤ 200 ∧ -200 ≤ y ∧ y ≤ 200) (hbad : ln = 20) (ou : Nat) (cL : ClassId) (of : Nat → Int) : Met l yL_rim (Cond.codeWith yL_rim cL_rim 5 (Option.some Jvm.ClassFile.FieldType.int) [((0 : Nat), (10 : Nat), (13 : Nat), (21 : Nat)), ((0 : Nat), (10 : Nat), (17 : Nat), (13 : Nat))] :: gw) rh_rim_1 (PcH [.ref x0, .int (zi (x)), .int (zi (y)), .ref ou] (dC, dI) vwCl [(x0, .inr (2, [.ref pa, .int (zi ((pn : Int))), .ref ba, .int (zi ((bn : Int))), .ref ax, .ref ay, .int (zi ((ln : Int))), .ref sp, .ref ss, .int (zi ((sn : Int))), .ref vs, .ref fr])), (ou, .inl (cL, 1, .inr (.inl (zB (of)))))] [(cL, .long)] sz) (NwQ (some (.int (zi (2)))) (dC, dI) vwCl (fun w9 => w9 = [(x0, .inr (2, [.ref pa, .int (zi ((pn : Int))), .ref ba, .int (zi ((bn : Int))), .ref ax, .ref ay, .int (zi ((ln : Int))), .ref sp, .ref ss, .int (zi ((sn : Int))), .ref vs, .ref fr])), (ou, .inl (cL, 1, .inr (.inl (zB (of)))))]) (va_A [(x0, .inr (2, [.ref pa, .int (zi ((pn : Int))), .ref ba, .int (zi ((bn : Int))), .ref ax, .ref ay, .int (zi ((ln : Int))), .ref sp, .ref ss, .int (zi ((sn : Int))), .ref vs, .ref fr])), (ou, .inl (cL, 1, .inr (.inl (zB (of)))))] sz)) 1 6 (va_A [(x0, .inr (2, [.ref pa, .int (zi ((pn : Int))), .ref ba, .int (zi ((bn : Int))), .ref ax, .ref ay, .int (zi ((ln : Int))), .ref sp, .ref ss, .int (zi ((sn : Int))), .ref vs, .ref fr])), (ou, .inl (cL, 1, .inr (.inl (zB (of)))))] sz) := by
  refine va_MetW (cc := cL_rim) (maxL := 5) (ret := (Option.some Jvm.ClassFile.FieldType.int)) (hh := [((0 : Nat), (10 : Nat), (13 : Nat), (21 : Nat)), ((0 : Nat), (10 : Nat), (17 : Nat), (13 : Nat))]) (by decide) rfl ?_
  intro p e s m args below meth c s₁ B hml hv
  obtain ⟨hargs, hsz, hP, hK, hD0, hXA⟩ := hv
  have hx := B.exec
  have hb := B.bytes
  have hr := B.returns
  have hts := atoms_spec (ws := Cond.codeWith yL_rim cL_rim 5 (Option.some Jvm.ClassFile.FieldType.int) [((0 : Nat), (10 : Nat), (13 : Nat), (21 : Nat)), ((0 : Nat), (10 : Nat), (17 : Nat), (13 : Nat))] :: gw) B.pre
  have hg : ∀ w ∈ gw, w.before args s = true := fun w h => hts w (List.mem_cons_of_mem _ h)
  have hown : s.vm.findClass RL = some m.cls := findClass_of_methodNamed B.named
  have hlocks := B.notSynchronized
  have htab := vx_table (x := yL_rim) B (hts _ List.mem_cons_self)
  subst hsz
  have hD := hD0.self (sz := s.heap.size)
  generalize hAe : va_A [(x0, .inr (2, [.ref pa, .int (zi ((pn : Int))), .ref ba, .int (zi ((bn : Int))), .ref ax, .ref ay, .int (zi ((ln : Int))), .ref sp, .ref ss, .int (zi ((sn : Int))), .ref vs, .ref fr])), (ou, .inl (cL, 1, .inr (.inl (zB (of)))))] s.heap.size = A at hD ⊢
  have hA : ∀ q : Nat, s.heap.size ≤ q → A q := fun q h => by rw [← hAe]; exact Or.inr h
  show W p l e rh_rim_1 s m args below meth c s.heap [] 0 0 _ _
  have hl := lv_entry ([.ref x0, .int (zi (x)), .int (zi (y)), .ref ou]) (n := 5) (Nat.le_of_ble_eq_true rfl)
  rw [show entryFrame m args 5 = entryFrame m ([.ref x0, .int (zi (x)), .int (zi (y)), .ref ou] : List Value).toArray 5 by rw [hargs], lg_entry_eq]
  generalize (lg_sl ([.ref x0, .int (zi (x)), .int (zi (y)), .ref ou]) ++ List.replicate (5 - (lg_sl ([.ref x0, .int (zi (x)), .int (zi (y)), .ref ou])).length) Slot.unset).toArray = ls at hl ⊢
  have hl : lv_has ls 5 [(0, .ref x0), (1, .int (zi (x))), (2, .int (zi (y))), (3, .ref ou)] := hl
  refine lv_aload_n hx hb dL_rim_0 rfl (lv_at hl 3 rfl) ?_
  refine lv_iconst (v := zi (0)) hx hb dL_rim_1 rfl ?_
  refine lv_aload_n hx hb dL_rim_2 rfl (lv_at hl 0 rfl) ?_
  refine lv_iload_n hx hb dL_rim_3 rfl (lv_at hl 1 rfl) ?_
  refine lv_iload_n hx hb dL_rim_4 rfl (lv_at hl 2 rfl) ?_
  refine thKV (As := [.int (zi (x)), .int (zi (y))]) (rest := [.int (zi (0)), .ref ou]) (n := 2) hx hb hml hown hg (t_rim_S l hl0 dC dI x0 pa ba ax ay sp ss vs fr pn bn ln sn x y hln hv hbad) (gwV wl_L_62 wm_X2_rim we_X2_rim wi_X2 wc_X2_rim) rfl rfl (by decide +kernel) ⟨(Nat.le_of_ble_eq_true rfl), (Nat.le_of_ble_eq_true rfl)⟩ (hK.sub [] rfl) (hP.sub [0] rfl) hXA.1 0 rfl rfl rfl rfl hl.1 rfl (Nat.le_of_ble_eq_true rfl) dL_rim_5 ⟨(Nat.le_of_ble_eq_true rfl), (Nat.le_of_ble_eq_true rfl)⟩ (fun q9 ce H1 locs1 hcell hcv hcl hS0 => ?_)
  refine vx_catch (E := KS) (name := KS) hown [⟨0, 10, 13, 21⟩] ⟨0, 10, 17, 13⟩ [] htab (fun z hz => by rcases List.mem_singleton.mp hz with rfl; exact Or.inr ⟨by decide, KA, hg _ wl_L_21, hXA.2.2.2.2⟩) (by decide) (by decide) (hg _ wl_L_13) (va_Nw.use rfl (hXA.1.1 KS (by decide))) hcell hcv hcl ?_
  refine lv_astore (lv' := [(4, .ref q9), (0, .ref x0), (1, .int (zi (x))), (2, .int (zi (y))), (3, .ref ou)]) hx hb dL_rim_17 hl (by decide) rfl (fun ls hl => ?_)
  refine lv_iconst (v := zi (2)) hx hb dL_rim_19 rfl ?_
  exact nw_i hx hb hr hlocks rfl (F := (fun w9 => w9 = [(x0, .inr (2, [.ref pa, .int (zi ((pn : Int))), .ref ba, .int (zi ((bn : Int))), .ref ax, .ref ay, .int (zi ((ln : Int))), .ref sp, .ref ss, .int (zi ((sn : Int))), .ref vs, .ref fr])), (ou, .inl (cL, 1, .inr (.inl (zB (of)))))])) rfl (thP hP hS0) hD (thS0 hS0) dL_rim_20
abbrev rh_circle_0 : Room := { frames := 9, cells := 0, slots := 0, locals := 200 }
set_option maxHeartbeats 4000000 in
set_option maxRecDepth 100000 in
theorem h_c_circle (l : Launch) (dC : Nat → ClassId) (dI : Nat → Nat → Nat) (sz : Nat) (x0 pa ba ax ay sp ss vs fr : Nat) (pn bn ln sn : Nat) (cA : ClassId) (xs ys : Nat → Int) (a b : Int) (part : Int) (hl3 : 3 ≤ ln ∧ ln ≤ 20) (hX : ∀ j, -200 ≤ xs j ∧ xs j ≤ 200) (hY : ∀ j, -200 ≤ ys j ∧ ys j ≤ 200) (hp9 : part = 0 ∨ part = 1) (ou : Nat) (cL : ClassId) (of : Nat → Int) : Met l yL_circle (Cond.codeWith yL_circle cL_circle 4 (Option.some Jvm.ClassFile.FieldType.int) [((0 : Nat), (8 : Nat), (11 : Nat), (19 : Nat)), ((0 : Nat), (8 : Nat), (14 : Nat), (13 : Nat))] :: gw) rh_circle_0 (PcH [.ref x0, .int (zi (part)), .ref ou] (dC, dI) vwCl [(x0, .inr (2, [.ref pa, .int (zi ((pn : Int))), .ref ba, .int (zi ((bn : Int))), .ref ax, .ref ay, .int (zi ((ln : Int))), .ref sp, .ref ss, .int (zi ((sn : Int))), .ref vs, .ref fr])), (ax, .inl (cA, 20, .inl (zA (xs)))), (ay, .inl (cA, 20, .inl (zA (ys)))), (fr, .inr (0, [.long (zl (a)), .long (zl (b))])), (ou, .inl (cL, 1, .inr (.inl (zB (of)))))] [(cA, .int), (cL, .long)] sz) (NwQ (some (.int (zi (0)))) (dC, dI) vwCl (fun w9 => w9 = [(x0, .inr (2, [.ref pa, .int (zi ((pn : Int))), .ref ba, .int (zi ((bn : Int))), .ref ax, .ref ay, .int (zi ((ln : Int))), .ref sp, .ref ss, .int (zi ((sn : Int))), .ref vs, .ref fr])), (ax, .inl (cA, 20, .inl (zA (xs)))), (ay, .inl (cA, 20, .inl (zA (ys)))), (fr, .inr (0, [.long (zl ((((c_cir xs ys ln).1 : Nat) : Int))), .long (zl ((((c_cir xs ys ln).2 : Nat) : Int)))])), (ou, .inl (cL, 1, .inr (.inl (zB (zupd of (0) ((if part = 0 then (((c_cir xs ys ln).1 : Nat) : Int) else (((c_cir xs ys ln).2 : Nat) : Int))))))))]) (va_A [(x0, .inr (2, [.ref pa, .int (zi ((pn : Int))), .ref ba, .int (zi ((bn : Int))), .ref ax, .ref ay, .int (zi ((ln : Int))), .ref sp, .ref ss, .int (zi ((sn : Int))), .ref vs, .ref fr])), (ax, .inl (cA, 20, .inl (zA (xs)))), (ay, .inl (cA, 20, .inl (zA (ys)))), (fr, .inr (0, [.long (zl (a)), .long (zl (b))])), (ou, .inl (cL, 1, .inr (.inl (zB (of)))))] sz)) 0 0 (va_A [(x0, .inr (2, [.ref pa, .int (zi ((pn : Int))), .ref ba, .int (zi ((bn : Int))), .ref ax, .ref ay, .int (zi ((ln : Int))), .ref sp, .ref ss, .int (zi ((sn : Int))), .ref vs, .ref fr])), (ax, .inl (cA, 20, .inl (zA (xs)))), (ay, .inl (cA, 20, .inl (zA (ys)))), (fr, .inr (0, [.long (zl (a)), .long (zl (b))])), (ou, .inl (cL, 1, .inr (.inl (zB (of)))))] sz) := by
  refine va_MetW (cc := cL_circle) (maxL := 4) (ret := (Option.some Jvm.ClassFile.FieldType.int)) (hh := [((0 : Nat), (8 : Nat), (11 : Nat), (19 : Nat)), ((0 : Nat), (8 : Nat), (14 : Nat), (13 : Nat))]) (by decide) rfl ?_
  intro p e s m args below meth c s₁ B hml hv
  obtain ⟨hargs, hsz, hP, hK, hD0, hXA⟩ := hv
  have hx := B.exec
  have hb := B.bytes
  have hr := B.returns
  have hts := atoms_spec (ws := Cond.codeWith yL_circle cL_circle 4 (Option.some Jvm.ClassFile.FieldType.int) [((0 : Nat), (8 : Nat), (11 : Nat), (19 : Nat)), ((0 : Nat), (8 : Nat), (14 : Nat), (13 : Nat))] :: gw) B.pre
  have hg : ∀ w ∈ gw, w.before args s = true := fun w h => hts w (List.mem_cons_of_mem _ h)
  have hown : s.vm.findClass RL = some m.cls := findClass_of_methodNamed B.named
  have hlocks := B.notSynchronized
  have htab := vx_table (x := yL_circle) B (hts _ List.mem_cons_self)
  subst hsz
  have hD := hD0.self (sz := s.heap.size)
  generalize hAe : va_A [(x0, .inr (2, [.ref pa, .int (zi ((pn : Int))), .ref ba, .int (zi ((bn : Int))), .ref ax, .ref ay, .int (zi ((ln : Int))), .ref sp, .ref ss, .int (zi ((sn : Int))), .ref vs, .ref fr])), (ax, .inl (cA, 20, .inl (zA (xs)))), (ay, .inl (cA, 20, .inl (zA (ys)))), (fr, .inr (0, [.long (zl (a)), .long (zl (b))])), (ou, .inl (cL, 1, .inr (.inl (zB (of)))))] s.heap.size = A at hD ⊢
  have hA : ∀ q : Nat, s.heap.size ≤ q → A q := fun q h => by rw [← hAe]; exact Or.inr h
  show W p l e rh_circle_0 s m args below meth c s.heap [] 0 0 _ _
  have hl := lv_entry ([.ref x0, .int (zi (part)), .ref ou]) (n := 4) (Nat.le_of_ble_eq_true rfl)
  rw [show entryFrame m args 4 = entryFrame m ([.ref x0, .int (zi (part)), .ref ou] : List Value).toArray 4 by rw [hargs], lg_entry_eq]
  generalize (lg_sl ([.ref x0, .int (zi (part)), .ref ou]) ++ List.replicate (4 - (lg_sl ([.ref x0, .int (zi (part)), .ref ou])).length) Slot.unset).toArray = ls at hl ⊢
  have hl : lv_has ls 4 [(0, .ref x0), (1, .int (zi (part))), (2, .ref ou)] := hl
  refine lv_aload_n hx hb dL_circle_0 rfl (lv_at hl 2 rfl) ?_
  refine lv_iconst (v := zi (0)) hx hb dL_circle_1 rfl ?_
  refine lv_aload_n hx hb dL_circle_2 rfl (lv_at hl 0 rfl) ?_
  refine lv_iload_n hx hb dL_circle_3 rfl (lv_at hl 1 rfl) ?_
  obtain ⟨H, hHe⟩ : ∃ H : Heap, H = s.heap := ⟨_, rfl⟩
  obtain ⟨locs, hlc⟩ : ∃ x : List Loc, x = [] := ⟨_, rfl⟩
  have hS : va_S A s.heap H locs := by rw [hHe, hlc]; exact va_S.rf
  have hP : va_P (dC, dI) vwCl [(x0, .inr (2, [.ref pa, .int (zi ((pn : Int))), .ref ba, .int (zi ((bn : Int))), .ref ax, .ref ay, .int (zi ((ln : Int))), .ref sp, .ref ss, .int (zi ((sn : Int))), .ref vs, .ref fr])), (ax, .inl (cA, 20, .inl (zA (xs)))), (ay, .inl (cA, 20, .inl (zA (ys)))), (fr, .inr (0, [.long (zl (a)), .long (zl (b))])), (ou, .inl (cL, 1, .inr (.inl (zB (of)))))] H := by rw [hHe]; exact hP
  rw [← hHe, ← hlc]
  refine wrV (As := [.int (zi (part))]) (rest := [.int (zi (0)), .ref ou]) (n := 1) (ws' := [(x0, .inr (2, [.ref pa, .int (zi ((pn : Int))), .ref ba, .int (zi ((bn : Int))), .ref ax, .ref ay, .int (zi ((ln : Int))), .ref sp, .ref ss, .int (zi ((sn : Int))), .ref vs, .ref fr])), (ax, .inl (cA, 20, .inl (zA (xs)))), (ay, .inl (cA, 20, .inl (zA (ys)))), (fr, .inr (0, [.long (zl ((((c_cir xs ys ln).1 : Nat) : Int))), .long (zl ((((c_cir xs ys ln).2 : Nat) : Int)))])), (ou, .inl (cL, 1, .inr (.inl (zB (of)))))]) hx hb hml hown hg (c_circle l dC dI H.size x0 pa ba ax ay sp ss vs fr pn bn ln sn cA xs ys a b part hl3 hX hY hp9) (gwV wl_L_65 wm_X2_circle we_X2_circle wi_X2 wc_X2_circle) rfl rfl (by decide +kernel) ⟨(Nat.le_of_ble_eq_true rfl), (Nat.le_of_ble_eq_true rfl)⟩ (hK.sub [0] rfl) hP hD hS hA [0, 1, 2, 3] rfl (by decide) [(true, 0), (true, 1), (true, 2), (true, 3), (false, 4)] rfl (by decide) rfl 0 rfl rfl rfl rfl hl.1 rfl (Nat.le_of_ble_eq_true rfl) dL_circle_4 ⟨Nat.zero_le _, Nat.zero_le _⟩ (fun H locs hP hD hS => ?_)
  refine zz_last hx hb hK hP hD hS 4 1 rfl rfl (0) (by omega) (by omega) (by decide) dL_circle_7 (fun H locs hP hD hS => ?_)
  refine lv_goto (tgt := 17) hx hb dL_circle_8 (by decide) ?_
  refine lv_iconst (v := zi (0)) hx hb dL_circle_17 rfl ?_
  exact nw_i hx hb hr hlocks rfl (F := (fun w9 => w9 = [(x0, .inr (2, [.ref pa, .int (zi ((pn : Int))), .ref ba, .int (zi ((bn : Int))), .ref ax, .ref ay, .int (zi ((ln : Int))), .ref sp, .ref ss, .int (zi ((sn : Int))), .ref vs, .ref fr])), (ax, .inl (cA, 20, .inl (zA (xs)))), (ay, .inl (cA, 20, .inl (zA (ys)))), (fr, .inr (0, [.long (zl ((((c_cir xs ys ln).1 : Nat) : Int))), .long (zl ((((c_cir xs ys ln).2 : Nat) : Int)))])), (ou, .inl (cL, 1, .inr (.inl (zB (zupd of (0) ((if part = 0 then (((c_cir xs ys ln).1 : Nat) : Int) else (((c_cir xs ys ln).2 : Nat) : Int))))))))])) rfl hP hD hS dL_circle_18
abbrev rh_circle_1 : Room := { frames := 9, cells := 1, slots := 6, locals := 200 }
set_option maxHeartbeats 4000000 in
set_option maxRecDepth 100000 in
theorem h_t_circle_I (l : Launch) (hl0 : l.stackTraces = false) (dC : Nat → ClassId) (dI : Nat → Nat → Nat) (sz : Nat) (x0 pa ba ax ay sp ss vs fr : Nat) (pn bn ln sn : Nat) (part : Int) (h_part : -2147483648 ≤ part ∧ part < 2147483648) (hbad : ¬ (part = 0 ∨ part = 1)) (ou : Nat) (cL : ClassId) (of : Nat → Int) : Met l yL_circle (Cond.codeWith yL_circle cL_circle 4 (Option.some Jvm.ClassFile.FieldType.int) [((0 : Nat), (8 : Nat), (11 : Nat), (19 : Nat)), ((0 : Nat), (8 : Nat), (14 : Nat), (13 : Nat))] :: gw) rh_circle_1 (PcH [.ref x0, .int (zi (part)), .ref ou] (dC, dI) vwCl [(x0, .inr (2, [.ref pa, .int (zi ((pn : Int))), .ref ba, .int (zi ((bn : Int))), .ref ax, .ref ay, .int (zi ((ln : Int))), .ref sp, .ref ss, .int (zi ((sn : Int))), .ref vs, .ref fr])), (ou, .inl (cL, 1, .inr (.inl (zB (of)))))] [(cL, .long)] sz) (NwQ (some (.int (zi (1)))) (dC, dI) vwCl (fun w9 => w9 = [(x0, .inr (2, [.ref pa, .int (zi ((pn : Int))), .ref ba, .int (zi ((bn : Int))), .ref ax, .ref ay, .int (zi ((ln : Int))), .ref sp, .ref ss, .int (zi ((sn : Int))), .ref vs, .ref fr])), (ou, .inl (cL, 1, .inr (.inl (zB (of)))))]) (va_A [(x0, .inr (2, [.ref pa, .int (zi ((pn : Int))), .ref ba, .int (zi ((bn : Int))), .ref ax, .ref ay, .int (zi ((ln : Int))), .ref sp, .ref ss, .int (zi ((sn : Int))), .ref vs, .ref fr])), (ou, .inl (cL, 1, .inr (.inl (zB (of)))))] sz)) 1 6 (va_A [(x0, .inr (2, [.ref pa, .int (zi ((pn : Int))), .ref ba, .int (zi ((bn : Int))), .ref ax, .ref ay, .int (zi ((ln : Int))), .ref sp, .ref ss, .int (zi ((sn : Int))), .ref vs, .ref fr])), (ou, .inl (cL, 1, .inr (.inl (zB (of)))))] sz) := by
  refine va_MetW (cc := cL_circle) (maxL := 4) (ret := (Option.some Jvm.ClassFile.FieldType.int)) (hh := [((0 : Nat), (8 : Nat), (11 : Nat), (19 : Nat)), ((0 : Nat), (8 : Nat), (14 : Nat), (13 : Nat))]) (by decide) rfl ?_
  intro p e s m args below meth c s₁ B hml hv
  obtain ⟨hargs, hsz, hP, hK, hD0, hXA⟩ := hv
  have hx := B.exec
  have hb := B.bytes
  have hr := B.returns
  have hts := atoms_spec (ws := Cond.codeWith yL_circle cL_circle 4 (Option.some Jvm.ClassFile.FieldType.int) [((0 : Nat), (8 : Nat), (11 : Nat), (19 : Nat)), ((0 : Nat), (8 : Nat), (14 : Nat), (13 : Nat))] :: gw) B.pre
  have hg : ∀ w ∈ gw, w.before args s = true := fun w h => hts w (List.mem_cons_of_mem _ h)
  have hown : s.vm.findClass RL = some m.cls := findClass_of_methodNamed B.named
  have hlocks := B.notSynchronized
  have htab := vx_table (x := yL_circle) B (hts _ List.mem_cons_self)
  subst hsz
  have hD := hD0.self (sz := s.heap.size)
  generalize hAe : va_A [(x0, .inr (2, [.ref pa, .int (zi ((pn : Int))), .ref ba, .int (zi ((bn : Int))), .ref ax, .ref ay, .int (zi ((ln : Int))), .ref sp, .ref ss, .int (zi ((sn : Int))), .ref vs, .ref fr])), (ou, .inl (cL, 1, .inr (.inl (zB (of)))))] s.heap.size = A at hD ⊢
  have hA : ∀ q : Nat, s.heap.size ≤ q → A q := fun q h => by rw [← hAe]; exact Or.inr h
  show W p l e rh_circle_1 s m args below meth c s.heap [] 0 0 _ _
  have hl := lv_entry ([.ref x0, .int (zi (part)), .ref ou]) (n := 4) (Nat.le_of_ble_eq_true rfl)
  rw [show entryFrame m args 4 = entryFrame m ([.ref x0, .int (zi (part)), .ref ou] : List Value).toArray 4 by rw [hargs], lg_entry_eq]
  generalize (lg_sl ([.ref x0, .int (zi (part)), .ref ou]) ++ List.replicate (4 - (lg_sl ([.ref x0, .int (zi (part)), .ref ou])).length) Slot.unset).toArray = ls at hl ⊢
  have hl : lv_has ls 4 [(0, .ref x0), (1, .int (zi (part))), (2, .ref ou)] := hl
  refine lv_aload_n hx hb dL_circle_0 rfl (lv_at hl 2 rfl) ?_
  refine lv_iconst (v := zi (0)) hx hb dL_circle_1 rfl ?_
  refine lv_aload_n hx hb dL_circle_2 rfl (lv_at hl 0 rfl) ?_
  refine lv_iload_n hx hb dL_circle_3 rfl (lv_at hl 1 rfl) ?_
  refine thKV (As := [.int (zi (part))]) (rest := [.int (zi (0)), .ref ou]) (n := 1) hx hb hml hown hg (t_circle_I l hl0 dC dI x0 pa ba ax ay sp ss vs fr pn bn ln sn part h_part hbad) (gwV wl_L_65 wm_X2_circle we_X2_circle wi_X2 wc_X2_circle) rfl rfl (by decide +kernel) ⟨(Nat.le_of_ble_eq_true rfl), (Nat.le_of_ble_eq_true rfl)⟩ (hK.sub [] rfl) (hP.sub [0] rfl) hXA.1 0 rfl rfl rfl rfl hl.1 rfl (Nat.le_of_ble_eq_true rfl) dL_circle_4 ⟨(Nat.le_of_ble_eq_true rfl), (Nat.le_of_ble_eq_true rfl)⟩ (fun q9 ce H1 locs1 hcell hcv hcl hS0 => ?_)
  refine vx_catch (E := KI) (name := KI) hown [] ⟨0, 8, 11, 19⟩ [⟨0, 8, 14, 13⟩] htab (fun z hz => by cases hz) (by decide) (by decide) (hg _ wl_L_19) (va_Nw.use rfl (hXA.1.1 KI (by decide))) hcell hcv hcl ?_
  refine lv_astore_n (lv' := [(3, .ref q9), (0, .ref x0), (1, .int (zi (part))), (2, .ref ou)]) hx hb dL_circle_11 rfl hl (by decide) rfl (fun ls hl => ?_)
  refine lv_iconst (v := zi (1)) hx hb dL_circle_12 rfl ?_
  exact nw_i hx hb hr hlocks rfl (F := (fun w9 => w9 = [(x0, .inr (2, [.ref pa, .int (zi ((pn : Int))), .ref ba, .int (zi ((bn : Int))), .ref ax, .ref ay, .int (zi ((ln : Int))), .ref sp, .ref ss, .int (zi ((sn : Int))), .ref vs, .ref fr])), (ou, .inl (cL, 1, .inr (.inl (zB (of)))))])) rfl (thP hP hS0) hD (thS0 hS0) dL_circle_13
set_option maxHeartbeats 4000000 in
set_option maxRecDepth 100000 in
theorem h_t_circle_S (l : Launch) (hl0 : l.stackTraces = false) (dC : Nat → ClassId) (dI : Nat → Nat → Nat) (sz : Nat) (x0 pa ba ax ay sp ss vs fr : Nat) (pn bn ln sn : Nat) (part : Int) (hp9 : part = 0 ∨ part = 1) (hln : ln ≤ 20) (hbad : ¬ 3 ≤ ln) (ou : Nat) (cL : ClassId) (of : Nat → Int) : Met l yL_circle (Cond.codeWith yL_circle cL_circle 4 (Option.some Jvm.ClassFile.FieldType.int) [((0 : Nat), (8 : Nat), (11 : Nat), (19 : Nat)), ((0 : Nat), (8 : Nat), (14 : Nat), (13 : Nat))] :: gw) rh_circle_1 (PcH [.ref x0, .int (zi (part)), .ref ou] (dC, dI) vwCl [(x0, .inr (2, [.ref pa, .int (zi ((pn : Int))), .ref ba, .int (zi ((bn : Int))), .ref ax, .ref ay, .int (zi ((ln : Int))), .ref sp, .ref ss, .int (zi ((sn : Int))), .ref vs, .ref fr])), (ou, .inl (cL, 1, .inr (.inl (zB (of)))))] [(cL, .long)] sz) (NwQ (some (.int (zi (2)))) (dC, dI) vwCl (fun w9 => w9 = [(x0, .inr (2, [.ref pa, .int (zi ((pn : Int))), .ref ba, .int (zi ((bn : Int))), .ref ax, .ref ay, .int (zi ((ln : Int))), .ref sp, .ref ss, .int (zi ((sn : Int))), .ref vs, .ref fr])), (ou, .inl (cL, 1, .inr (.inl (zB (of)))))]) (va_A [(x0, .inr (2, [.ref pa, .int (zi ((pn : Int))), .ref ba, .int (zi ((bn : Int))), .ref ax, .ref ay, .int (zi ((ln : Int))), .ref sp, .ref ss, .int (zi ((sn : Int))), .ref vs, .ref fr])), (ou, .inl (cL, 1, .inr (.inl (zB (of)))))] sz)) 1 6 (va_A [(x0, .inr (2, [.ref pa, .int (zi ((pn : Int))), .ref ba, .int (zi ((bn : Int))), .ref ax, .ref ay, .int (zi ((ln : Int))), .ref sp, .ref ss, .int (zi ((sn : Int))), .ref vs, .ref fr])), (ou, .inl (cL, 1, .inr (.inl (zB (of)))))] sz) := by
  refine va_MetW (cc := cL_circle) (maxL := 4) (ret := (Option.some Jvm.ClassFile.FieldType.int)) (hh := [((0 : Nat), (8 : Nat), (11 : Nat), (19 : Nat)), ((0 : Nat), (8 : Nat), (14 : Nat), (13 : Nat))]) (by decide) rfl ?_
  intro p e s m args below meth c s₁ B hml hv
  obtain ⟨hargs, hsz, hP, hK, hD0, hXA⟩ := hv
  have hx := B.exec
  have hb := B.bytes
  have hr := B.returns
  have hts := atoms_spec (ws := Cond.codeWith yL_circle cL_circle 4 (Option.some Jvm.ClassFile.FieldType.int) [((0 : Nat), (8 : Nat), (11 : Nat), (19 : Nat)), ((0 : Nat), (8 : Nat), (14 : Nat), (13 : Nat))] :: gw) B.pre
  have hg : ∀ w ∈ gw, w.before args s = true := fun w h => hts w (List.mem_cons_of_mem _ h)
  have hown : s.vm.findClass RL = some m.cls := findClass_of_methodNamed B.named
  have hlocks := B.notSynchronized
  have htab := vx_table (x := yL_circle) B (hts _ List.mem_cons_self)
  subst hsz
  have hD := hD0.self (sz := s.heap.size)
  generalize hAe : va_A [(x0, .inr (2, [.ref pa, .int (zi ((pn : Int))), .ref ba, .int (zi ((bn : Int))), .ref ax, .ref ay, .int (zi ((ln : Int))), .ref sp, .ref ss, .int (zi ((sn : Int))), .ref vs, .ref fr])), (ou, .inl (cL, 1, .inr (.inl (zB (of)))))] s.heap.size = A at hD ⊢
  have hA : ∀ q : Nat, s.heap.size ≤ q → A q := fun q h => by rw [← hAe]; exact Or.inr h
  show W p l e rh_circle_1 s m args below meth c s.heap [] 0 0 _ _
  have hl := lv_entry ([.ref x0, .int (zi (part)), .ref ou]) (n := 4) (Nat.le_of_ble_eq_true rfl)
  rw [show entryFrame m args 4 = entryFrame m ([.ref x0, .int (zi (part)), .ref ou] : List Value).toArray 4 by rw [hargs], lg_entry_eq]
  generalize (lg_sl ([.ref x0, .int (zi (part)), .ref ou]) ++ List.replicate (4 - (lg_sl ([.ref x0, .int (zi (part)), .ref ou])).length) Slot.unset).toArray = ls at hl ⊢
  have hl : lv_has ls 4 [(0, .ref x0), (1, .int (zi (part))), (2, .ref ou)] := hl
  refine lv_aload_n hx hb dL_circle_0 rfl (lv_at hl 2 rfl) ?_
  refine lv_iconst (v := zi (0)) hx hb dL_circle_1 rfl ?_
  refine lv_aload_n hx hb dL_circle_2 rfl (lv_at hl 0 rfl) ?_
  refine lv_iload_n hx hb dL_circle_3 rfl (lv_at hl 1 rfl) ?_
  refine thKV (As := [.int (zi (part))]) (rest := [.int (zi (0)), .ref ou]) (n := 1) hx hb hml hown hg (t_circle_S l hl0 dC dI x0 pa ba ax ay sp ss vs fr pn bn ln sn part hp9 hln hbad) (gwV wl_L_65 wm_X2_circle we_X2_circle wi_X2 wc_X2_circle) rfl rfl (by decide +kernel) ⟨(Nat.le_of_ble_eq_true rfl), (Nat.le_of_ble_eq_true rfl)⟩ (hK.sub [] rfl) (hP.sub [0] rfl) hXA.1 0 rfl rfl rfl rfl hl.1 rfl (Nat.le_of_ble_eq_true rfl) dL_circle_4 ⟨(Nat.le_of_ble_eq_true rfl), (Nat.le_of_ble_eq_true rfl)⟩ (fun q9 ce H1 locs1 hcell hcv hcl hS0 => ?_)
  refine vx_catch (E := KS) (name := KS) hown [⟨0, 8, 11, 19⟩] ⟨0, 8, 14, 13⟩ [] htab (fun z hz => by rcases List.mem_singleton.mp hz with rfl; exact Or.inr ⟨by decide, KI, hg _ wl_L_19, hXA.2.2.2.1⟩) (by decide) (by decide) (hg _ wl_L_13) (va_Nw.use rfl (hXA.1.1 KS (by decide))) hcell hcv hcl ?_
  refine lv_astore_n (lv' := [(3, .ref q9), (0, .ref x0), (1, .int (zi (part))), (2, .ref ou)]) hx hb dL_circle_14 rfl hl (by decide) rfl (fun ls hl => ?_)
  refine lv_iconst (v := zi (2)) hx hb dL_circle_15 rfl ?_
  exact nw_i hx hb hr hlocks rfl (F := (fun w9 => w9 = [(x0, .inr (2, [.ref pa, .int (zi ((pn : Int))), .ref ba, .int (zi ((bn : Int))), .ref ax, .ref ay, .int (zi ((ln : Int))), .ref sp, .ref ss, .int (zi ((sn : Int))), .ref vs, .ref fr])), (ou, .inl (cL, 1, .inr (.inl (zB (of)))))])) rfl (thP hP hS0) hD (thS0 hS0) dL_circle_16
