abbrev rh_holds_0 : Room := { frames := 9, cells := 0, slots := 0, locals := 200 }
set_option maxHeartbeats 4000000 in
set_option maxRecDepth 100000 in
theorem h_c_holds (l : Launch) (dC : Nat → ClassId) (dI : Nat → Nat → Nat) (sz : Nat) (x0 pa ba ax ay sp ss vs fr : Nat) (pn bn ln sn : Nat) (cQ : ClassId) (pf : Nat → Option Nat) (h0 h1 h2 : Nat) (cA : ClassId) (n : Nat) (th wc : Int) (hs rs : Nat → Int) (j : Nat) (a b to part : Int) (hn : n ≤ 12) (hH : ∀ j, 0 ≤ hs j ∧ hs j ≤ 400) (hR : ∀ j, 0 ≤ rs j ∧ rs j ≤ 200) (hj : j < 6) (hf : pf j = some h0) (h_to : -2147483648 ≤ to ∧ to < 2147483648) (hth : 0 ≤ th ∧ th ≤ 50) (hp9 : part = 0 ∨ part = 1) (hok : p_oks n hs rs th (hs 0 + th) to) (ou : Nat) (cL : ClassId) (of : Nat → Int) : Met l yL_holds (Cond.codeWith yL_holds cL_holds 6 (Option.some Jvm.ClassFile.FieldType.int) [((0 : Nat), (11 : Nat), (14 : Nat), (19 : Nat))] :: gw) rh_holds_0 (PcH [.ref x0, .int (zi ((j : Int))), .int (zi (to)), .int (zi (part)), .ref ou] (dC, dI) vwCl [(x0, .inr (2, [.ref pa, .int (zi ((pn : Int))), .ref ba, .int (zi ((bn : Int))), .ref ax, .ref ay, .int (zi ((ln : Int))), .ref sp, .ref ss, .int (zi ((sn : Int))), .ref vs, .ref fr])), (pa, .inl (cQ, 6, .inr (.inr (.inr (.inr (pf)))))), (h0, .inr (1, [.ref h1, .ref h2, .int (zi ((n : Int))), .int (zi (th)), .int (zi (wc))])), (h1, .inl (cA, 12, .inl (zA (hs)))), (h2, .inl (cA, 12, .inl (zA (rs)))), (fr, .inr (0, [.long (zl (a)), .long (zl (b))])), (ou, .inl (cL, 1, .inr (.inl (zB (of)))))] [(cQ, .object "PotVolumes$Profile"), (cA, .int), (cL, .long)] sz) (NwQ (some (.int (zi (0)))) (dC, dI) vwCl (fun w9 => w9 = [(x0, .inr (2, [.ref pa, .int (zi ((pn : Int))), .ref ba, .int (zi ((bn : Int))), .ref ax, .ref ay, .int (zi ((ln : Int))), .ref sp, .ref ss, .int (zi ((sn : Int))), .ref vs, .ref fr])), (pa, .inl (cQ, 6, .inr (.inr (.inr (.inr (pf)))))), (h0, .inr (1, [.ref h1, .ref h2, .int (zi ((n : Int))), .int (zi (th)), .int (zi (wc))])), (h1, .inl (cA, 12, .inl (zA (hs)))), (h2, .inl (cA, 12, .inl (zA (rs)))), (fr, .inr (0, [.long (zl ((((p_sum hs rs th (hs 0 + th) to (n - 1)).1 : Nat) : Int))), .long (zl ((((p_sum hs rs th (hs 0 + th) to (n - 1)).2 : Nat) : Int)))])), (ou, .inl (cL, 1, .inr (.inl (zB (zupd of (0) ((if part = 0 then (((p_sum hs rs th (hs 0 + th) to (n - 1)).1 : Nat) : Int) else (((p_sum hs rs th (hs 0 + th) to (n - 1)).2 : Nat) : Int))))))))]) (va_A [(x0, .inr (2, [.ref pa, .int (zi ((pn : Int))), .ref ba, .int (zi ((bn : Int))), .ref ax, .ref ay, .int (zi ((ln : Int))), .ref sp, .ref ss, .int (zi ((sn : Int))), .ref vs, .ref fr])), (pa, .inl (cQ, 6, .inr (.inr (.inr (.inr (pf)))))), (h0, .inr (1, [.ref h1, .ref h2, .int (zi ((n : Int))), .int (zi (th)), .int (zi (wc))])), (h1, .inl (cA, 12, .inl (zA (hs)))), (h2, .inl (cA, 12, .inl (zA (rs)))), (fr, .inr (0, [.long (zl (a)), .long (zl (b))])), (ou, .inl (cL, 1, .inr (.inl (zB (of)))))] sz)) 0 0 (va_A [(x0, .inr (2, [.ref pa, .int (zi ((pn : Int))), .ref ba, .int (zi ((bn : Int))), .ref ax, .ref ay, .int (zi ((ln : Int))), .ref sp, .ref ss, .int (zi ((sn : Int))), .ref vs, .ref fr])), (pa, .inl (cQ, 6, .inr (.inr (.inr (.inr (pf)))))), (h0, .inr (1, [.ref h1, .ref h2, .int (zi ((n : Int))), .int (zi (th)), .int (zi (wc))])), (h1, .inl (cA, 12, .inl (zA (hs)))), (h2, .inl (cA, 12, .inl (zA (rs)))), (fr, .inr (0, [.long (zl (a)), .long (zl (b))])), (ou, .inl (cL, 1, .inr (.inl (zB (of)))))] sz) := by
  refine va_MetW (cc := cL_holds) (maxL := 6) (ret := (Option.some Jvm.ClassFile.FieldType.int)) (hh := [((0 : Nat), (11 : Nat), (14 : Nat), (19 : Nat))]) (by decide) rfl ?_
  intro p e s m args below meth c s₁ B hml hv
  obtain ⟨hargs, hsz, hP, hK, hD0, hXA⟩ := hv
  have hx := B.exec
  have hb := B.bytes
  have hr := B.returns
  have hts := atoms_spec (ws := Cond.codeWith yL_holds cL_holds 6 (Option.some Jvm.ClassFile.FieldType.int) [((0 : Nat), (11 : Nat), (14 : Nat), (19 : Nat))] :: gw) B.pre
  have hg : ∀ w ∈ gw, w.before args s = true := fun w h => hts w (List.mem_cons_of_mem _ h)
  have hown : s.vm.findClass RL = some m.cls := findClass_of_methodNamed B.named
  have hlocks := B.notSynchronized
  have htab := vx_table (x := yL_holds) B (hts _ List.mem_cons_self)
  subst hsz
  have hD := hD0.self (sz := s.heap.size)
  generalize hAe : va_A [(x0, .inr (2, [.ref pa, .int (zi ((pn : Int))), .ref ba, .int (zi ((bn : Int))), .ref ax, .ref ay, .int (zi ((ln : Int))), .ref sp, .ref ss, .int (zi ((sn : Int))), .ref vs, .ref fr])), (pa, .inl (cQ, 6, .inr (.inr (.inr (.inr (pf)))))), (h0, .inr (1, [.ref h1, .ref h2, .int (zi ((n : Int))), .int (zi (th)), .int (zi (wc))])), (h1, .inl (cA, 12, .inl (zA (hs)))), (h2, .inl (cA, 12, .inl (zA (rs)))), (fr, .inr (0, [.long (zl (a)), .long (zl (b))])), (ou, .inl (cL, 1, .inr (.inl (zB (of)))))] s.heap.size = A at hD ⊢
  have hA : ∀ q : Nat, s.heap.size ≤ q → A q := fun q h => by rw [← hAe]; exact Or.inr h
  show W p l e rh_holds_0 s m args below meth c s.heap [] 0 0 _ _
  have hl := lv_entry ([.ref x0, .int (zi ((j : Int))), .int (zi (to)), .int (zi (part)), .ref ou]) (n := 6) (Nat.le_of_ble_eq_true rfl)
  rw [show entryFrame m args 6 = entryFrame m ([.ref x0, .int (zi ((j : Int))), .int (zi (to)), .int (zi (part)), .ref ou] : List Value).toArray 6 by rw [hargs], lg_entry_eq]
  generalize (lg_sl ([.ref x0, .int (zi ((j : Int))), .int (zi (to)), .int (zi (part)), .ref ou]) ++ List.replicate (6 - (lg_sl ([.ref x0, .int (zi ((j : Int))), .int (zi (to)), .int (zi (part)), .ref ou])).length) Slot.unset).toArray = ls at hl ⊢
  have hl : lv_has ls 6 [(0, .ref x0), (1, .int (zi ((j : Int)))), (2, .int (zi (to))), (3, .int (zi (part))), (4, .ref ou)] := hl
  refine lv_aload hx hb dL_holds_0 (lv_at hl 4 rfl) ?_
  refine lv_iconst (v := zi (0)) hx hb dL_holds_2 rfl ?_
  refine lv_aload_n hx hb dL_holds_3 rfl (lv_at hl 0 rfl) ?_
  refine lv_iload_n hx hb dL_holds_4 rfl (lv_at hl 1 rfl) ?_
  refine lv_iload_n hx hb dL_holds_5 rfl (lv_at hl 2 rfl) ?_
  refine lv_iload_n hx hb dL_holds_6 rfl (lv_at hl 3 rfl) ?_
  obtain ⟨H, hHe⟩ : ∃ H : Heap, H = s.heap := ⟨_, rfl⟩
  obtain ⟨locs, hlc⟩ : ∃ x : List Loc, x = [] := ⟨_, rfl⟩
  have hS : va_S A s.heap H locs := by rw [hHe, hlc]; exact va_S.rf
  have hP : va_P (dC, dI) vwCl [(x0, .inr (2, [.ref pa, .int (zi ((pn : Int))), .ref ba, .int (zi ((bn : Int))), .ref ax, .ref ay, .int (zi ((ln : Int))), .ref sp, .ref ss, .int (zi ((sn : Int))), .ref vs, .ref fr])), (pa, .inl (cQ, 6, .inr (.inr (.inr (.inr (pf)))))), (h0, .inr (1, [.ref h1, .ref h2, .int (zi ((n : Int))), .int (zi (th)), .int (zi (wc))])), (h1, .inl (cA, 12, .inl (zA (hs)))), (h2, .inl (cA, 12, .inl (zA (rs)))), (fr, .inr (0, [.long (zl (a)), .long (zl (b))])), (ou, .inl (cL, 1, .inr (.inl (zB (of)))))] H := by rw [hHe]; exact hP
  rw [← hHe, ← hlc]
  refine wrV (As := [.int (zi ((j : Int))), .int (zi (to)), .int (zi (part))]) (rest := [.int (zi (0)), .ref ou]) (n := 3) (ws' := [(x0, .inr (2, [.ref pa, .int (zi ((pn : Int))), .ref ba, .int (zi ((bn : Int))), .ref ax, .ref ay, .int (zi ((ln : Int))), .ref sp, .ref ss, .int (zi ((sn : Int))), .ref vs, .ref fr])), (pa, .inl (cQ, 6, .inr (.inr (.inr (.inr (pf)))))), (h0, .inr (1, [.ref h1, .ref h2, .int (zi ((n : Int))), .int (zi (th)), .int (zi (wc))])), (h1, .inl (cA, 12, .inl (zA (hs)))), (h2, .inl (cA, 12, .inl (zA (rs)))), (fr, .inr (0, [.long (zl ((((p_sum hs rs th (hs 0 + th) to (n - 1)).1 : Nat) : Int))), .long (zl ((((p_sum hs rs th (hs 0 + th) to (n - 1)).2 : Nat) : Int)))])), (ou, .inl (cL, 1, .inr (.inl (zB (of)))))]) hx hb hml hown hg (c_holds l dC dI H.size x0 pa ba ax ay sp ss vs fr pn bn ln sn cQ pf h0 h1 h2 cA n th wc hs rs j a b to part hn hH hR hj hf h_to hth hp9 hok) (gwV wl_L_35 wm_X2_holds we_X2_holds wi_X2 wc_X2_holds) rfl rfl (by decide +kernel) ⟨(Nat.le_of_ble_eq_true rfl), (Nat.le_of_ble_eq_true rfl)⟩ (hK.sub [0, 1] rfl) hP hD hS hA [0, 1, 2, 3, 4, 5] rfl (by decide) [(true, 0), (true, 1), (true, 2), (true, 3), (true, 4), (true, 5), (false, 6)] rfl (by decide) rfl 0 rfl rfl rfl rfl hl.1 rfl (Nat.le_of_ble_eq_true rfl) dL_holds_7 ⟨Nat.zero_le _, Nat.zero_le _⟩ (fun H locs hP hD hS => ?_)
  refine zz_last hx hb hK hP hD hS 6 2 rfl rfl (0) (by omega) (by omega) (by decide) dL_holds_10 (fun H locs hP hD hS => ?_)
  refine lv_goto (tgt := 18) hx hb dL_holds_11 (by decide) ?_
  refine lv_iconst (v := zi (0)) hx hb dL_holds_18 rfl ?_
  exact nw_i hx hb hr hlocks rfl (F := (fun w9 => w9 = [(x0, .inr (2, [.ref pa, .int (zi ((pn : Int))), .ref ba, .int (zi ((bn : Int))), .ref ax, .ref ay, .int (zi ((ln : Int))), .ref sp, .ref ss, .int (zi ((sn : Int))), .ref vs, .ref fr])), (pa, .inl (cQ, 6, .inr (.inr (.inr (.inr (pf)))))), (h0, .inr (1, [.ref h1, .ref h2, .int (zi ((n : Int))), .int (zi (th)), .int (zi (wc))])), (h1, .inl (cA, 12, .inl (zA (hs)))), (h2, .inl (cA, 12, .inl (zA (rs)))), (fr, .inr (0, [.long (zl ((((p_sum hs rs th (hs 0 + th) to (n - 1)).1 : Nat) : Int))), .long (zl ((((p_sum hs rs th (hs 0 + th) to (n - 1)).2 : Nat) : Int)))])), (ou, .inl (cL, 1, .inr (.inl (zB (zupd of (0) ((if part = 0 then (((p_sum hs rs th (hs 0 + th) to (n - 1)).1 : Nat) : Int) else (((p_sum hs rs th (hs 0 + th) to (n - 1)).2 : Nat) : Int))))))))])) rfl hP hD hS dL_holds_19
abbrev rh_holds_1 : Room := { frames := 9, cells := 1, slots := 6, locals := 200 }
set_option maxHeartbeats 4000000 in
set_option maxRecDepth 100000 in
theorem h_t_holds_p (l : Launch) (hl0 : l.stackTraces = false) (dC : Nat → ClassId) (dI : Nat → Nat → Nat) (sz : Nat) (x0 pa ba ax ay sp ss vs fr : Nat) (pn bn ln sn : Nat) (cQ : ClassId) (pf : Nat → Option Nat) (i h part : Int) (hi : -2147483648 ≤ i ∧ i < 2147483648) (hbad : i < 0 ∨ 6 ≤ i ∨ pf i.toNat = none) (ou : Nat) (cL : ClassId) (of : Nat → Int) : Met l yL_holds (Cond.codeWith yL_holds cL_holds 6 (Option.some Jvm.ClassFile.FieldType.int) [((0 : Nat), (11 : Nat), (14 : Nat), (19 : Nat))] :: gw) rh_holds_1 (PcH [.ref x0, .int (zi (i)), .int (zi (h)), .int (zi (part)), .ref ou] (dC, dI) vwCl [(x0, .inr (2, [.ref pa, .int (zi ((pn : Int))), .ref ba, .int (zi ((bn : Int))), .ref ax, .ref ay, .int (zi ((ln : Int))), .ref sp, .ref ss, .int (zi ((sn : Int))), .ref vs, .ref fr])), (pa, .inl (cQ, 6, .inr (.inr (.inr (.inr (pf)))))), (ou, .inl (cL, 1, .inr (.inl (zB (of)))))] [(cQ, .object "PotVolumes$Profile"), (cL, .long)] sz) (NwQ (some (.int (zi (1)))) (dC, dI) vwCl (fun w9 => w9 = [(x0, .inr (2, [.ref pa, .int (zi ((pn : Int))), .ref ba, .int (zi ((bn : Int))), .ref ax, .ref ay, .int (zi ((ln : Int))), .ref sp, .ref ss, .int (zi ((sn : Int))), .ref vs, .ref fr])), (pa, .inl (cQ, 6, .inr (.inr (.inr (.inr (pf)))))), (ou, .inl (cL, 1, .inr (.inl (zB (of)))))]) (va_A [(x0, .inr (2, [.ref pa, .int (zi ((pn : Int))), .ref ba, .int (zi ((bn : Int))), .ref ax, .ref ay, .int (zi ((ln : Int))), .ref sp, .ref ss, .int (zi ((sn : Int))), .ref vs, .ref fr])), (pa, .inl (cQ, 6, .inr (.inr (.inr (.inr (pf)))))), (ou, .inl (cL, 1, .inr (.inl (zB (of)))))] sz)) 1 6 (va_A [(x0, .inr (2, [.ref pa, .int (zi ((pn : Int))), .ref ba, .int (zi ((bn : Int))), .ref ax, .ref ay, .int (zi ((ln : Int))), .ref sp, .ref ss, .int (zi ((sn : Int))), .ref vs, .ref fr])), (pa, .inl (cQ, 6, .inr (.inr (.inr (.inr (pf)))))), (ou, .inl (cL, 1, .inr (.inl (zB (of)))))] sz) := by
  refine va_MetW (cc := cL_holds) (maxL := 6) (ret := (Option.some Jvm.ClassFile.FieldType.int)) (hh := [((0 : Nat), (11 : Nat), (14 : Nat), (19 : Nat))]) (by decide) rfl ?_
  intro p e s m args below meth c s₁ B hml hv
  obtain ⟨hargs, hsz, hP, hK, hD0, hXA⟩ := hv
  have hx := B.exec
  have hb := B.bytes
  have hr := B.returns
  have hts := atoms_spec (ws := Cond.codeWith yL_holds cL_holds 6 (Option.some Jvm.ClassFile.FieldType.int) [((0 : Nat), (11 : Nat), (14 : Nat), (19 : Nat))] :: gw) B.pre
  have hg : ∀ w ∈ gw, w.before args s = true := fun w h => hts w (List.mem_cons_of_mem _ h)
  have hown : s.vm.findClass RL = some m.cls := findClass_of_methodNamed B.named
  have hlocks := B.notSynchronized
  have htab := vx_table (x := yL_holds) B (hts _ List.mem_cons_self)
  subst hsz
  have hD := hD0.self (sz := s.heap.size)
  generalize hAe : va_A [(x0, .inr (2, [.ref pa, .int (zi ((pn : Int))), .ref ba, .int (zi ((bn : Int))), .ref ax, .ref ay, .int (zi ((ln : Int))), .ref sp, .ref ss, .int (zi ((sn : Int))), .ref vs, .ref fr])), (pa, .inl (cQ, 6, .inr (.inr (.inr (.inr (pf)))))), (ou, .inl (cL, 1, .inr (.inl (zB (of)))))] s.heap.size = A at hD ⊢
  have hA : ∀ q : Nat, s.heap.size ≤ q → A q := fun q h => by rw [← hAe]; exact Or.inr h
  show W p l e rh_holds_1 s m args below meth c s.heap [] 0 0 _ _
  have hl := lv_entry ([.ref x0, .int (zi (i)), .int (zi (h)), .int (zi (part)), .ref ou]) (n := 6) (Nat.le_of_ble_eq_true rfl)
  rw [show entryFrame m args 6 = entryFrame m ([.ref x0, .int (zi (i)), .int (zi (h)), .int (zi (part)), .ref ou] : List Value).toArray 6 by rw [hargs], lg_entry_eq]
  generalize (lg_sl ([.ref x0, .int (zi (i)), .int (zi (h)), .int (zi (part)), .ref ou]) ++ List.replicate (6 - (lg_sl ([.ref x0, .int (zi (i)), .int (zi (h)), .int (zi (part)), .ref ou])).length) Slot.unset).toArray = ls at hl ⊢
  have hl : lv_has ls 6 [(0, .ref x0), (1, .int (zi (i))), (2, .int (zi (h))), (3, .int (zi (part))), (4, .ref ou)] := hl
  refine lv_aload hx hb dL_holds_0 (lv_at hl 4 rfl) ?_
  refine lv_iconst (v := zi (0)) hx hb dL_holds_2 rfl ?_
  refine lv_aload_n hx hb dL_holds_3 rfl (lv_at hl 0 rfl) ?_
  refine lv_iload_n hx hb dL_holds_4 rfl (lv_at hl 1 rfl) ?_
  refine lv_iload_n hx hb dL_holds_5 rfl (lv_at hl 2 rfl) ?_
  refine lv_iload_n hx hb dL_holds_6 rfl (lv_at hl 3 rfl) ?_
  refine thKV (As := [.int (zi (i)), .int (zi (h)), .int (zi (part))]) (rest := [.int (zi (0)), .ref ou]) (n := 3) hx hb hml hown hg (t_holds_p l hl0 dC dI x0 pa ba ax ay sp ss vs fr pn bn ln sn cQ pf i h part hi hbad) (gwV wl_L_35 wm_X2_holds we_X2_holds wi_X2 wc_X2_holds) rfl rfl (by decide +kernel) ⟨(Nat.le_of_ble_eq_true rfl), (Nat.le_of_ble_eq_true rfl)⟩ (hK.sub [0] rfl) (hP.sub [0, 1] rfl) hXA.1 0 rfl rfl rfl rfl hl.1 rfl (Nat.le_of_ble_eq_true rfl) dL_holds_7 ⟨(Nat.le_of_ble_eq_true rfl), (Nat.le_of_ble_eq_true rfl)⟩ (fun q9 ce H1 locs1 hcell hcv hcl hS0 => ?_)
  refine vx_catch (E := KI) (name := KI) hown [] ⟨0, 11, 14, 19⟩ [] htab (fun z hz => by cases hz) (by decide) (by decide) (hg _ wl_L_19) (va_Nw.use rfl (hXA.1.1 KI (by decide))) hcell hcv hcl ?_
  refine lv_astore (lv' := [(5, .ref q9), (0, .ref x0), (1, .int (zi (i))), (2, .int (zi (h))), (3, .int (zi (part))), (4, .ref ou)]) hx hb dL_holds_14 hl (by decide) rfl (fun ls hl => ?_)
  refine lv_iconst (v := zi (1)) hx hb dL_holds_16 rfl ?_
  exact nw_i hx hb hr hlocks rfl (F := (fun w9 => w9 = [(x0, .inr (2, [.ref pa, .int (zi ((pn : Int))), .ref ba, .int (zi ((bn : Int))), .ref ax, .ref ay, .int (zi ((ln : Int))), .ref sp, .ref ss, .int (zi ((sn : Int))), .ref vs, .ref fr])), (pa, .inl (cQ, 6, .inr (.inr (.inr (.inr (pf)))))), (ou, .inl (cL, 1, .inr (.inl (zB (of)))))])) rfl (thP hP hS0) hD (thS0 hS0) dL_holds_17
set_option maxHeartbeats 4000000 in
set_option maxRecDepth 100000 in
theorem h_t_holds_w (l : Launch) (hl0 : l.stackTraces = false) (dC : Nat → ClassId) (dI : Nat → Nat → Nat) (sz : Nat) (x0 pa ba ax ay sp ss vs fr : Nat) (pn bn ln sn : Nat) (cQ : ClassId) (pf : Nat → Option Nat) (h0 h1 h2 : Nat) (cA : ClassId) (n : Nat) (th wc : Int) (hs rs : Nat → Int) (j : Nat) (to part : Int) (hn : n ≤ 12) (hH : ∀ j, 0 ≤ hs j ∧ hs j ≤ 400) (hR : ∀ j, 0 ≤ rs j ∧ rs j ≤ 200) (hj : j < 6) (hf : pf j = some h0) (h_part : -2147483648 ≤ part ∧ part < 2147483648) (hbad : ¬ (part = 0 ∨ part = 1)) (ou : Nat) (cL : ClassId) (of : Nat → Int) : Met l yL_holds (Cond.codeWith yL_holds cL_holds 6 (Option.some Jvm.ClassFile.FieldType.int) [((0 : Nat), (11 : Nat), (14 : Nat), (19 : Nat))] :: gw) rh_holds_1 (PcH [.ref x0, .int (zi ((j : Int))), .int (zi (to)), .int (zi (part)), .ref ou] (dC, dI) vwCl [(x0, .inr (2, [.ref pa, .int (zi ((pn : Int))), .ref ba, .int (zi ((bn : Int))), .ref ax, .ref ay, .int (zi ((ln : Int))), .ref sp, .ref ss, .int (zi ((sn : Int))), .ref vs, .ref fr])), (pa, .inl (cQ, 6, .inr (.inr (.inr (.inr (pf)))))), (h0, .inr (1, [.ref h1, .ref h2, .int (zi ((n : Int))), .int (zi (th)), .int (zi (wc))])), (h1, .inl (cA, 12, .inl (zA (hs)))), (h2, .inl (cA, 12, .inl (zA (rs)))), (ou, .inl (cL, 1, .inr (.inl (zB (of)))))] [(cQ, .object "PotVolumes$Profile"), (cA, .int), (cL, .long)] sz) (NwQ (some (.int (zi (1)))) (dC, dI) vwCl (fun w9 => w9 = [(x0, .inr (2, [.ref pa, .int (zi ((pn : Int))), .ref ba, .int (zi ((bn : Int))), .ref ax, .ref ay, .int (zi ((ln : Int))), .ref sp, .ref ss, .int (zi ((sn : Int))), .ref vs, .ref fr])), (pa, .inl (cQ, 6, .inr (.inr (.inr (.inr (pf)))))), (h0, .inr (1, [.ref h1, .ref h2, .int (zi ((n : Int))), .int (zi (th)), .int (zi (wc))])), (h1, .inl (cA, 12, .inl (zA (hs)))), (h2, .inl (cA, 12, .inl (zA (rs)))), (ou, .inl (cL, 1, .inr (.inl (zB (of)))))]) (va_A [(x0, .inr (2, [.ref pa, .int (zi ((pn : Int))), .ref ba, .int (zi ((bn : Int))), .ref ax, .ref ay, .int (zi ((ln : Int))), .ref sp, .ref ss, .int (zi ((sn : Int))), .ref vs, .ref fr])), (pa, .inl (cQ, 6, .inr (.inr (.inr (.inr (pf)))))), (h0, .inr (1, [.ref h1, .ref h2, .int (zi ((n : Int))), .int (zi (th)), .int (zi (wc))])), (h1, .inl (cA, 12, .inl (zA (hs)))), (h2, .inl (cA, 12, .inl (zA (rs)))), (ou, .inl (cL, 1, .inr (.inl (zB (of)))))] sz)) 1 6 (va_A [(x0, .inr (2, [.ref pa, .int (zi ((pn : Int))), .ref ba, .int (zi ((bn : Int))), .ref ax, .ref ay, .int (zi ((ln : Int))), .ref sp, .ref ss, .int (zi ((sn : Int))), .ref vs, .ref fr])), (pa, .inl (cQ, 6, .inr (.inr (.inr (.inr (pf)))))), (h0, .inr (1, [.ref h1, .ref h2, .int (zi ((n : Int))), .int (zi (th)), .int (zi (wc))])), (h1, .inl (cA, 12, .inl (zA (hs)))), (h2, .inl (cA, 12, .inl (zA (rs)))), (ou, .inl (cL, 1, .inr (.inl (zB (of)))))] sz) := by
  refine va_MetW (cc := cL_holds) (maxL := 6) (ret := (Option.some Jvm.ClassFile.FieldType.int)) (hh := [((0 : Nat), (11 : Nat), (14 : Nat), (19 : Nat))]) (by decide) rfl ?_
  intro p e s m args below meth c s₁ B hml hv
  obtain ⟨hargs, hsz, hP, hK, hD0, hXA⟩ := hv
  have hx := B.exec
  have hb := B.bytes
  have hr := B.returns
  have hts := atoms_spec (ws := Cond.codeWith yL_holds cL_holds 6 (Option.some Jvm.ClassFile.FieldType.int) [((0 : Nat), (11 : Nat), (14 : Nat), (19 : Nat))] :: gw) B.pre
  have hg : ∀ w ∈ gw, w.before args s = true := fun w h => hts w (List.mem_cons_of_mem _ h)
  have hown : s.vm.findClass RL = some m.cls := findClass_of_methodNamed B.named
  have hlocks := B.notSynchronized
  have htab := vx_table (x := yL_holds) B (hts _ List.mem_cons_self)
  subst hsz
  have hD := hD0.self (sz := s.heap.size)
  generalize hAe : va_A [(x0, .inr (2, [.ref pa, .int (zi ((pn : Int))), .ref ba, .int (zi ((bn : Int))), .ref ax, .ref ay, .int (zi ((ln : Int))), .ref sp, .ref ss, .int (zi ((sn : Int))), .ref vs, .ref fr])), (pa, .inl (cQ, 6, .inr (.inr (.inr (.inr (pf)))))), (h0, .inr (1, [.ref h1, .ref h2, .int (zi ((n : Int))), .int (zi (th)), .int (zi (wc))])), (h1, .inl (cA, 12, .inl (zA (hs)))), (h2, .inl (cA, 12, .inl (zA (rs)))), (ou, .inl (cL, 1, .inr (.inl (zB (of)))))] s.heap.size = A at hD ⊢
  have hA : ∀ q : Nat, s.heap.size ≤ q → A q := fun q h => by rw [← hAe]; exact Or.inr h
  show W p l e rh_holds_1 s m args below meth c s.heap [] 0 0 _ _
  have hl := lv_entry ([.ref x0, .int (zi ((j : Int))), .int (zi (to)), .int (zi (part)), .ref ou]) (n := 6) (Nat.le_of_ble_eq_true rfl)
  rw [show entryFrame m args 6 = entryFrame m ([.ref x0, .int (zi ((j : Int))), .int (zi (to)), .int (zi (part)), .ref ou] : List Value).toArray 6 by rw [hargs], lg_entry_eq]
  generalize (lg_sl ([.ref x0, .int (zi ((j : Int))), .int (zi (to)), .int (zi (part)), .ref ou]) ++ List.replicate (6 - (lg_sl ([.ref x0, .int (zi ((j : Int))), .int (zi (to)), .int (zi (part)), .ref ou])).length) Slot.unset).toArray = ls at hl ⊢
  have hl : lv_has ls 6 [(0, .ref x0), (1, .int (zi ((j : Int)))), (2, .int (zi (to))), (3, .int (zi (part))), (4, .ref ou)] := hl
  refine lv_aload hx hb dL_holds_0 (lv_at hl 4 rfl) ?_
  refine lv_iconst (v := zi (0)) hx hb dL_holds_2 rfl ?_
  refine lv_aload_n hx hb dL_holds_3 rfl (lv_at hl 0 rfl) ?_
  refine lv_iload_n hx hb dL_holds_4 rfl (lv_at hl 1 rfl) ?_
  refine lv_iload_n hx hb dL_holds_5 rfl (lv_at hl 2 rfl) ?_
  refine lv_iload_n hx hb dL_holds_6 rfl (lv_at hl 3 rfl) ?_
  refine thKV (As := [.int (zi ((j : Int))), .int (zi (to)), .int (zi (part))]) (rest := [.int (zi (0)), .ref ou]) (n := 3) hx hb hml hown hg (t_holds_w l hl0 dC dI x0 pa ba ax ay sp ss vs fr pn bn ln sn cQ pf h0 h1 h2 cA n th wc hs rs j to part hn hH hR hj hf h_part hbad) (gwV wl_L_35 wm_X2_holds we_X2_holds wi_X2 wc_X2_holds) rfl rfl (by decide +kernel) ⟨(Nat.le_of_ble_eq_true rfl), (Nat.le_of_ble_eq_true rfl)⟩ (hK.sub [0, 1] rfl) (hP.sub [0, 1, 2, 3, 4] rfl) hXA.1 0 rfl rfl rfl rfl hl.1 rfl (Nat.le_of_ble_eq_true rfl) dL_holds_7 ⟨(Nat.le_of_ble_eq_true rfl), (Nat.le_of_ble_eq_true rfl)⟩ (fun q9 ce H1 locs1 hcell hcv hcl hS0 => ?_)
  refine vx_catch (E := KI) (name := KI) hown [] ⟨0, 11, 14, 19⟩ [] htab (fun z hz => by cases hz) (by decide) (by decide) (hg _ wl_L_19) (va_Nw.use rfl (hXA.1.1 KI (by decide))) hcell hcv hcl ?_
  refine lv_astore (lv' := [(5, .ref q9), (0, .ref x0), (1, .int (zi ((j : Int)))), (2, .int (zi (to))), (3, .int (zi (part))), (4, .ref ou)]) hx hb dL_holds_14 hl (by decide) rfl (fun ls hl => ?_)
  refine lv_iconst (v := zi (1)) hx hb dL_holds_16 rfl ?_
  exact nw_i hx hb hr hlocks rfl (F := (fun w9 => w9 = [(x0, .inr (2, [.ref pa, .int (zi ((pn : Int))), .ref ba, .int (zi ((bn : Int))), .ref ax, .ref ay, .int (zi ((ln : Int))), .ref sp, .ref ss, .int (zi ((sn : Int))), .ref vs, .ref fr])), (pa, .inl (cQ, 6, .inr (.inr (.inr (.inr (pf)))))), (h0, .inr (1, [.ref h1, .ref h2, .int (zi ((n : Int))), .int (zi (th)), .int (zi (wc))])), (h1, .inl (cA, 12, .inl (zA (hs)))), (h2, .inl (cA, 12, .inl (zA (rs)))), (ou, .inl (cL, 1, .inr (.inl (zB (of)))))])) rfl (thP hP hS0) hD (thS0 hS0) dL_holds_17
abbrev rh_enclosed_0 : Room := { frames := 9, cells := 0, slots := 0, locals := 200 }
set_option maxHeartbeats 4000000 in
set_option maxRecDepth 100000 in
theorem h_c_enclosed (l : Launch) (dC : Nat → ClassId) (dI : Nat → Nat → Nat) (sz : Nat) (x0 pa ba ax ay sp ss vs fr : Nat) (pn bn ln sn : Nat) (cQ : ClassId) (pf : Nat → Option Nat) (h0 h1 h2 : Nat) (cA : ClassId) (n : Nat) (th wc : Int) (hs rs : Nat → Int) (j : Nat) (a b en : Int) (hn : n ≤ 12) (hH : ∀ j, 0 ≤ hs j ∧ hs j ≤ 400) (hR : ∀ j, 0 ≤ rs j ∧ rs j ≤ 200) (hj : j < 6) (hf : pf j = some h0) (hth : 0 ≤ th ∧ th ≤ 50) (hp9 : en = 0 ∨ en = 1) (hok : p_oks n hs rs th (hs 0 + th) 400) (hsm : p_small (p_sum hs rs th (hs 0 + th) 400 (n - 1))) (ou : Nat) (cL : ClassId) (of : Nat → Int) : Met l yL_enclosed (Cond.codeWith yL_enclosed cL_enclosed 5 (Option.some Jvm.ClassFile.FieldType.int) [((0 : Nat), (9 : Nat), (12 : Nat), (19 : Nat))] :: gw) rh_enclosed_0 (PcH [.ref x0, .int (zi ((j : Int))), .int (zi (en)), .ref ou] (dC, dI) vwCl [(x0, .inr (2, [.ref pa, .int (zi ((pn : Int))), .ref ba, .int (zi ((bn : Int))), .ref ax, .ref ay, .int (zi ((ln : Int))), .ref sp, .ref ss, .int (zi ((sn : Int))), .ref vs, .ref fr])), (pa, .inl (cQ, 6, .inr (.inr (.inr (.inr (pf)))))), (h0, .inr (1, [.ref h1, .ref h2, .int (zi ((n : Int))), .int (zi (th)), .int (zi (wc))])), (h1, .inl (cA, 12, .inl (zA (hs)))), (h2, .inl (cA, 12, .inl (zA (rs)))), (fr, .inr (0, [.long (zl (a)), .long (zl (b))])), (ou, .inl (cL, 1, .inr (.inl (zB (of)))))] [(cQ, .object "PotVolumes$Profile"), (cA, .int), (cL, .long)] sz) (NwQ (some (.int (zi (0)))) (dC, dI) vwCl (fun w9 => w9 = [(x0, .inr (2, [.ref pa, .int (zi ((pn : Int))), .ref ba, .int (zi ((bn : Int))), .ref ax, .ref ay, .int (zi ((ln : Int))), .ref sp, .ref ss, .int (zi ((sn : Int))), .ref vs, .ref fr])), (pa, .inl (cQ, 6, .inr (.inr (.inr (.inr (pf)))))), (h0, .inr (1, [.ref h1, .ref h2, .int (zi ((n : Int))), .int (zi (th)), .int (zi (wc))])), (h1, .inl (cA, 12, .inl (zA (hs)))), (h2, .inl (cA, 12, .inl (zA (rs)))), (fr, .inr (0, [.long (zl ((((p_sum hs rs th (hs 0 + th) (400) (n - 1)).1 : Nat) : Int))), .long (zl ((((p_sum hs rs th (hs 0 + th) (400) (n - 1)).2 : Nat) : Int)))])), (ou, .inl (cL, 1, .inr (.inl (zB (zupd of (0) ((p_encl (p_sum hs rs th (hs 0 + th) 400 (n - 1)) en)))))))]) (va_A [(x0, .inr (2, [.ref pa, .int (zi ((pn : Int))), .ref ba, .int (zi ((bn : Int))), .ref ax, .ref ay, .int (zi ((ln : Int))), .ref sp, .ref ss, .int (zi ((sn : Int))), .ref vs, .ref fr])), (pa, .inl (cQ, 6, .inr (.inr (.inr (.inr (pf)))))), (h0, .inr (1, [.ref h1, .ref h2, .int (zi ((n : Int))), .int (zi (th)), .int (zi (wc))])), (h1, .inl (cA, 12, .inl (zA (hs)))), (h2, .inl (cA, 12, .inl (zA (rs)))), (fr, .inr (0, [.long (zl (a)), .long (zl (b))])), (ou, .inl (cL, 1, .inr (.inl (zB (of)))))] sz)) 0 0 (va_A [(x0, .inr (2, [.ref pa, .int (zi ((pn : Int))), .ref ba, .int (zi ((bn : Int))), .ref ax, .ref ay, .int (zi ((ln : Int))), .ref sp, .ref ss, .int (zi ((sn : Int))), .ref vs, .ref fr])), (pa, .inl (cQ, 6, .inr (.inr (.inr (.inr (pf)))))), (h0, .inr (1, [.ref h1, .ref h2, .int (zi ((n : Int))), .int (zi (th)), .int (zi (wc))])), (h1, .inl (cA, 12, .inl (zA (hs)))), (h2, .inl (cA, 12, .inl (zA (rs)))), (fr, .inr (0, [.long (zl (a)), .long (zl (b))])), (ou, .inl (cL, 1, .inr (.inl (zB (of)))))] sz) := by
  refine va_MetW (cc := cL_enclosed) (maxL := 5) (ret := (Option.some Jvm.ClassFile.FieldType.int)) (hh := [((0 : Nat), (9 : Nat), (12 : Nat), (19 : Nat))]) (by decide) rfl ?_
  intro p e s m args below meth c s₁ B hml hv
  obtain ⟨hargs, hsz, hP, hK, hD0, hXA⟩ := hv
  have hx := B.exec
  have hb := B.bytes
  have hr := B.returns
  have hts := atoms_spec (ws := Cond.codeWith yL_enclosed cL_enclosed 5 (Option.some Jvm.ClassFile.FieldType.int) [((0 : Nat), (9 : Nat), (12 : Nat), (19 : Nat))] :: gw) B.pre
  have hg : ∀ w ∈ gw, w.before args s = true := fun w h => hts w (List.mem_cons_of_mem _ h)
  have hown : s.vm.findClass RL = some m.cls := findClass_of_methodNamed B.named
  have hlocks := B.notSynchronized
  have htab := vx_table (x := yL_enclosed) B (hts _ List.mem_cons_self)
  subst hsz
  have hD := hD0.self (sz := s.heap.size)
  generalize hAe : va_A [(x0, .inr (2, [.ref pa, .int (zi ((pn : Int))), .ref ba, .int (zi ((bn : Int))), .ref ax, .ref ay, .int (zi ((ln : Int))), .ref sp, .ref ss, .int (zi ((sn : Int))), .ref vs, .ref fr])), (pa, .inl (cQ, 6, .inr (.inr (.inr (.inr (pf)))))), (h0, .inr (1, [.ref h1, .ref h2, .int (zi ((n : Int))), .int (zi (th)), .int (zi (wc))])), (h1, .inl (cA, 12, .inl (zA (hs)))), (h2, .inl (cA, 12, .inl (zA (rs)))), (fr, .inr (0, [.long (zl (a)), .long (zl (b))])), (ou, .inl (cL, 1, .inr (.inl (zB (of)))))] s.heap.size = A at hD ⊢
  have hA : ∀ q : Nat, s.heap.size ≤ q → A q := fun q h => by rw [← hAe]; exact Or.inr h
  show W p l e rh_enclosed_0 s m args below meth c s.heap [] 0 0 _ _
  have hl := lv_entry ([.ref x0, .int (zi ((j : Int))), .int (zi (en)), .ref ou]) (n := 5) (Nat.le_of_ble_eq_true rfl)
  rw [show entryFrame m args 5 = entryFrame m ([.ref x0, .int (zi ((j : Int))), .int (zi (en)), .ref ou] : List Value).toArray 5 by rw [hargs], lg_entry_eq]
  generalize (lg_sl ([.ref x0, .int (zi ((j : Int))), .int (zi (en)), .ref ou]) ++ List.replicate (5 - (lg_sl ([.ref x0, .int (zi ((j : Int))), .int (zi (en)), .ref ou])).length) Slot.unset).toArray = ls at hl ⊢
  have hl : lv_has ls 5 [(0, .ref x0), (1, .int (zi ((j : Int)))), (2, .int (zi (en))), (3, .ref ou)] := hl
  refine lv_aload_n hx hb dL_enclosed_0 rfl (lv_at hl 3 rfl) ?_
  refine lv_iconst (v := zi (0)) hx hb dL_enclosed_1 rfl ?_
  refine lv_aload_n hx hb dL_enclosed_2 rfl (lv_at hl 0 rfl) ?_
  refine lv_iload_n hx hb dL_enclosed_3 rfl (lv_at hl 1 rfl) ?_
  refine lv_iload_n hx hb dL_enclosed_4 rfl (lv_at hl 2 rfl) ?_
  obtain ⟨H, hHe⟩ : ∃ H : Heap, H = s.heap := ⟨_, rfl⟩
  obtain ⟨locs, hlc⟩ : ∃ x : List Loc, x = [] := ⟨_, rfl⟩
  have hS : va_S A s.heap H locs := by rw [hHe, hlc]; exact va_S.rf
  have hP : va_P (dC, dI) vwCl [(x0, .inr (2, [.ref pa, .int (zi ((pn : Int))), .ref ba, .int (zi ((bn : Int))), .ref ax, .ref ay, .int (zi ((ln : Int))), .ref sp, .ref ss, .int (zi ((sn : Int))), .ref vs, .ref fr])), (pa, .inl (cQ, 6, .inr (.inr (.inr (.inr (pf)))))), (h0, .inr (1, [.ref h1, .ref h2, .int (zi ((n : Int))), .int (zi (th)), .int (zi (wc))])), (h1, .inl (cA, 12, .inl (zA (hs)))), (h2, .inl (cA, 12, .inl (zA (rs)))), (fr, .inr (0, [.long (zl (a)), .long (zl (b))])), (ou, .inl (cL, 1, .inr (.inl (zB (of)))))] H := by rw [hHe]; exact hP
  rw [← hHe, ← hlc]
  refine wrV (As := [.int (zi ((j : Int))), .int (zi (en))]) (rest := [.int (zi (0)), .ref ou]) (n := 2) (ws' := [(x0, .inr (2, [.ref pa, .int (zi ((pn : Int))), .ref ba, .int (zi ((bn : Int))), .ref ax, .ref ay, .int (zi ((ln : Int))), .ref sp, .ref ss, .int (zi ((sn : Int))), .ref vs, .ref fr])), (pa, .inl (cQ, 6, .inr (.inr (.inr (.inr (pf)))))), (h0, .inr (1, [.ref h1, .ref h2, .int (zi ((n : Int))), .int (zi (th)), .int (zi (wc))])), (h1, .inl (cA, 12, .inl (zA (hs)))), (h2, .inl (cA, 12, .inl (zA (rs)))), (fr, .inr (0, [.long (zl ((((p_sum hs rs th (hs 0 + th) (400) (n - 1)).1 : Nat) : Int))), .long (zl ((((p_sum hs rs th (hs 0 + th) (400) (n - 1)).2 : Nat) : Int)))])), (ou, .inl (cL, 1, .inr (.inl (zB (of)))))]) hx hb hml hown hg (c_enclosed l dC dI H.size x0 pa ba ax ay sp ss vs fr pn bn ln sn cQ pf h0 h1 h2 cA n th wc hs rs j a b en hn hH hR hj hf hth hp9 hok hsm) (gwV wl_L_38 wm_X2_enclosed we_X2_enclosed wi_X2 wc_X2_enclosed) rfl rfl (by decide +kernel) ⟨(Nat.le_of_ble_eq_true rfl), (Nat.le_of_ble_eq_true rfl)⟩ (hK.sub [0, 1] rfl) hP hD hS hA [0, 1, 2, 3, 4, 5] rfl (by decide) [(true, 0), (true, 1), (true, 2), (true, 3), (true, 4), (true, 5), (false, 6)] rfl (by decide) rfl 0 rfl rfl rfl rfl hl.1 rfl (Nat.le_of_ble_eq_true rfl) dL_enclosed_5 ⟨Nat.zero_le _, Nat.zero_le _⟩ (fun H locs hP hD hS => ?_)
  refine zz_last hx hb hK hP hD hS 6 2 rfl rfl (0) (by omega) (by omega) (by decide) dL_enclosed_8 (fun H locs hP hD hS => ?_)
  refine lv_goto (tgt := 16) hx hb dL_enclosed_9 (by decide) ?_
  refine lv_iconst (v := zi (0)) hx hb dL_enclosed_16 rfl ?_
  exact nw_i hx hb hr hlocks rfl (F := (fun w9 => w9 = [(x0, .inr (2, [.ref pa, .int (zi ((pn : Int))), .ref ba, .int (zi ((bn : Int))), .ref ax, .ref ay, .int (zi ((ln : Int))), .ref sp, .ref ss, .int (zi ((sn : Int))), .ref vs, .ref fr])), (pa, .inl (cQ, 6, .inr (.inr (.inr (.inr (pf)))))), (h0, .inr (1, [.ref h1, .ref h2, .int (zi ((n : Int))), .int (zi (th)), .int (zi (wc))])), (h1, .inl (cA, 12, .inl (zA (hs)))), (h2, .inl (cA, 12, .inl (zA (rs)))), (fr, .inr (0, [.long (zl ((((p_sum hs rs th (hs 0 + th) (400) (n - 1)).1 : Nat) : Int))), .long (zl ((((p_sum hs rs th (hs 0 + th) (400) (n - 1)).2 : Nat) : Int)))])), (ou, .inl (cL, 1, .inr (.inl (zB (zupd of (0) ((p_encl (p_sum hs rs th (hs 0 + th) 400 (n - 1)) en)))))))])) rfl hP hD hS dL_enclosed_17
abbrev rh_enclosed_1 : Room := { frames := 9, cells := 1, slots := 6, locals := 200 }
set_option maxHeartbeats 4000000 in
set_option maxRecDepth 100000 in
theorem h_t_enclosed_p (l : Launch) (hl0 : l.stackTraces = false) (dC : Nat → ClassId) (dI : Nat → Nat → Nat) (sz : Nat) (x0 pa ba ax ay sp ss vs fr : Nat) (pn bn ln sn : Nat) (cQ : ClassId) (pf : Nat → Option Nat) (i part : Int) (hi : -2147483648 ≤ i ∧ i < 2147483648) (hbad : i < 0 ∨ 6 ≤ i ∨ pf i.toNat = none) (ou : Nat) (cL : ClassId) (of : Nat → Int) : Met l yL_enclosed (Cond.codeWith yL_enclosed cL_enclosed 5 (Option.some Jvm.ClassFile.FieldType.int) [((0 : Nat), (9 : Nat), (12 : Nat), (19 : Nat))] :: gw) rh_enclosed_1 (PcH [.ref x0, .int (zi (i)), .int (zi (part)), .ref ou] (dC, dI) vwCl [(x0, .inr (2, [.ref pa, .int (zi ((pn : Int))), .ref ba, .int (zi ((bn : Int))), .ref ax, .ref ay, .int (zi ((ln : Int))), .ref sp, .ref ss, .int (zi ((sn : Int))), .ref vs, .ref fr])), (pa, .inl (cQ, 6, .inr (.inr (.inr (.inr (pf)))))), (ou, .inl (cL, 1, .inr (.inl (zB (of)))))] [(cQ, .object "PotVolumes$Profile"), (cL, .long)] sz) (NwQ (some (.int (zi (1)))) (dC, dI) vwCl (fun w9 => w9 = [(x0, .inr (2, [.ref pa, .int (zi ((pn : Int))), .ref ba, .int (zi ((bn : Int))), .ref ax, .ref ay, .int (zi ((ln : Int))), .ref sp, .ref ss, .int (zi ((sn : Int))), .ref vs, .ref fr])), (pa, .inl (cQ, 6, .inr (.inr (.inr (.inr (pf)))))), (ou, .inl (cL, 1, .inr (.inl (zB (of)))))]) (va_A [(x0, .inr (2, [.ref pa, .int (zi ((pn : Int))), .ref ba, .int (zi ((bn : Int))), .ref ax, .ref ay, .int (zi ((ln : Int))), .ref sp, .ref ss, .int (zi ((sn : Int))), .ref vs, .ref fr])), (pa, .inl (cQ, 6, .inr (.inr (.inr (.inr (pf)))))), (ou, .inl (cL, 1, .inr (.inl (zB (of)))))] sz)) 1 6 (va_A [(x0, .inr (2, [.ref pa, .int (zi ((pn : Int))), .ref ba, .int (zi ((bn : Int))), .ref ax, .ref ay, .int (zi ((ln : Int))), .ref sp, .ref ss, .int (zi ((sn : Int))), .ref vs, .ref fr])), (pa, .inl (cQ, 6, .inr (.inr (.inr (.inr (pf)))))), (ou, .inl (cL, 1, .inr (.inl (zB (of)))))] sz) := by
  refine va_MetW (cc := cL_enclosed) (maxL := 5) (ret := (Option.some Jvm.ClassFile.FieldType.int)) (hh := [((0 : Nat), (9 : Nat), (12 : Nat), (19 : Nat))]) (by decide) rfl ?_
  intro p e s m args below meth c s₁ B hml hv
  obtain ⟨hargs, hsz, hP, hK, hD0, hXA⟩ := hv
  have hx := B.exec
  have hb := B.bytes
  have hr := B.returns
  have hts := atoms_spec (ws := Cond.codeWith yL_enclosed cL_enclosed 5 (Option.some Jvm.ClassFile.FieldType.int) [((0 : Nat), (9 : Nat), (12 : Nat), (19 : Nat))] :: gw) B.pre
  have hg : ∀ w ∈ gw, w.before args s = true := fun w h => hts w (List.mem_cons_of_mem _ h)
  have hown : s.vm.findClass RL = some m.cls := findClass_of_methodNamed B.named
  have hlocks := B.notSynchronized
  have htab := vx_table (x := yL_enclosed) B (hts _ List.mem_cons_self)
  subst hsz
  have hD := hD0.self (sz := s.heap.size)
  generalize hAe : va_A [(x0, .inr (2, [.ref pa, .int (zi ((pn : Int))), .ref ba, .int (zi ((bn : Int))), .ref ax, .ref ay, .int (zi ((ln : Int))), .ref sp, .ref ss, .int (zi ((sn : Int))), .ref vs, .ref fr])), (pa, .inl (cQ, 6, .inr (.inr (.inr (.inr (pf)))))), (ou, .inl (cL, 1, .inr (.inl (zB (of)))))] s.heap.size = A at hD ⊢
  have hA : ∀ q : Nat, s.heap.size ≤ q → A q := fun q h => by rw [← hAe]; exact Or.inr h
  show W p l e rh_enclosed_1 s m args below meth c s.heap [] 0 0 _ _
  have hl := lv_entry ([.ref x0, .int (zi (i)), .int (zi (part)), .ref ou]) (n := 5) (Nat.le_of_ble_eq_true rfl)
  rw [show entryFrame m args 5 = entryFrame m ([.ref x0, .int (zi (i)), .int (zi (part)), .ref ou] : List Value).toArray 5 by rw [hargs], lg_entry_eq]
  generalize (lg_sl ([.ref x0, .int (zi (i)), .int (zi (part)), .ref ou]) ++ List.replicate (5 - (lg_sl ([.ref x0, .int (zi (i)), .int (zi (part)), .ref ou])).length) Slot.unset).toArray = ls at hl ⊢
  have hl : lv_has ls 5 [(0, .ref x0), (1, .int (zi (i))), (2, .int (zi (part))), (3, .ref ou)] := hl
  refine lv_aload_n hx hb dL_enclosed_0 rfl (lv_at hl 3 rfl) ?_
  refine lv_iconst (v := zi (0)) hx hb dL_enclosed_1 rfl ?_
  refine lv_aload_n hx hb dL_enclosed_2 rfl (lv_at hl 0 rfl) ?_
  refine lv_iload_n hx hb dL_enclosed_3 rfl (lv_at hl 1 rfl) ?_
  refine lv_iload_n hx hb dL_enclosed_4 rfl (lv_at hl 2 rfl) ?_
  refine thKV (As := [.int (zi (i)), .int (zi (part))]) (rest := [.int (zi (0)), .ref ou]) (n := 2) hx hb hml hown hg (t_enclosed_p l hl0 dC dI x0 pa ba ax ay sp ss vs fr pn bn ln sn cQ pf i part hi hbad) (gwV wl_L_38 wm_X2_enclosed we_X2_enclosed wi_X2 wc_X2_enclosed) rfl rfl (by decide +kernel) ⟨(Nat.le_of_ble_eq_true rfl), (Nat.le_of_ble_eq_true rfl)⟩ (hK.sub [0] rfl) (hP.sub [0, 1] rfl) hXA.1 0 rfl rfl rfl rfl hl.1 rfl (Nat.le_of_ble_eq_true rfl) dL_enclosed_5 ⟨(Nat.le_of_ble_eq_true rfl), (Nat.le_of_ble_eq_true rfl)⟩ (fun q9 ce H1 locs1 hcell hcv hcl hS0 => ?_)
  refine vx_catch (E := KI) (name := KI) hown [] ⟨0, 9, 12, 19⟩ [] htab (fun z hz => by cases hz) (by decide) (by decide) (hg _ wl_L_19) (va_Nw.use rfl (hXA.1.1 KI (by decide))) hcell hcv hcl ?_
  refine lv_astore (lv' := [(4, .ref q9), (0, .ref x0), (1, .int (zi (i))), (2, .int (zi (part))), (3, .ref ou)]) hx hb dL_enclosed_12 hl (by decide) rfl (fun ls hl => ?_)
  refine lv_iconst (v := zi (1)) hx hb dL_enclosed_14 rfl ?_
  exact nw_i hx hb hr hlocks rfl (F := (fun w9 => w9 = [(x0, .inr (2, [.ref pa, .int (zi ((pn : Int))), .ref ba, .int (zi ((bn : Int))), .ref ax, .ref ay, .int (zi ((ln : Int))), .ref sp, .ref ss, .int (zi ((sn : Int))), .ref vs, .ref fr])), (pa, .inl (cQ, 6, .inr (.inr (.inr (.inr (pf)))))), (ou, .inl (cL, 1, .inr (.inl (zB (of)))))])) rfl (thP hP hS0) hD (thS0 hS0) dL_enclosed_15
set_option maxHeartbeats 4000000 in
set_option maxRecDepth 100000 in
theorem h_t_enclosed_w (l : Launch) (hl0 : l.stackTraces = false) (dC : Nat → ClassId) (dI : Nat → Nat → Nat) (sz : Nat) (x0 pa ba ax ay sp ss vs fr : Nat) (pn bn ln sn : Nat) (cQ : ClassId) (pf : Nat → Option Nat) (h0 h1 h2 : Nat) (cA : ClassId) (n : Nat) (th wc : Int) (hs rs : Nat → Int) (j : Nat) (en : Int) (hn : n ≤ 12) (hH : ∀ j, 0 ≤ hs j ∧ hs j ≤ 400) (hR : ∀ j, 0 ≤ rs j ∧ rs j ≤ 200) (hj : j < 6) (hf : pf j = some h0) (h_en : -2147483648 ≤ en ∧ en < 2147483648) (hbad : ¬ (en = 0 ∨ en = 1)) (ou : Nat) (cL : ClassId) (of : Nat → Int) : Met l yL_enclosed (Cond.codeWith yL_enclosed cL_enclosed 5 (Option.some Jvm.ClassFile.FieldType.int) [((0 : Nat), (9 : Nat), (12 : Nat), (19 : Nat))] :: gw) rh_enclosed_1 (PcH [.ref x0, .int (zi ((j : Int))), .int (zi (en)), .ref ou] (dC, dI) vwCl [(x0, .inr (2, [.ref pa, .int (zi ((pn : Int))), .ref ba, .int (zi ((bn : Int))), .ref ax, .ref ay, .int (zi ((ln : Int))), .ref sp, .ref ss, .int (zi ((sn : Int))), .ref vs, .ref fr])), (pa, .inl (cQ, 6, .inr (.inr (.inr (.inr (pf)))))), (h0, .inr (1, [.ref h1, .ref h2, .int (zi ((n : Int))), .int (zi (th)), .int (zi (wc))])), (h1, .inl (cA, 12, .inl (zA (hs)))), (h2, .inl (cA, 12, .inl (zA (rs)))), (ou, .inl (cL, 1, .inr (.inl (zB (of)))))] [(cQ, .object "PotVolumes$Profile"), (cA, .int), (cL, .long)] sz) (NwQ (some (.int (zi (1)))) (dC, dI) vwCl (fun w9 => w9 = [(x0, .inr (2, [.ref pa, .int (zi ((pn : Int))), .ref ba, .int (zi ((bn : Int))), .ref ax, .ref ay, .int (zi ((ln : Int))), .ref sp, .ref ss, .int (zi ((sn : Int))), .ref vs, .ref fr])), (pa, .inl (cQ, 6, .inr (.inr (.inr (.inr (pf)))))), (h0, .inr (1, [.ref h1, .ref h2, .int (zi ((n : Int))), .int (zi (th)), .int (zi (wc))])), (h1, .inl (cA, 12, .inl (zA (hs)))), (h2, .inl (cA, 12, .inl (zA (rs)))), (ou, .inl (cL, 1, .inr (.inl (zB (of)))))]) (va_A [(x0, .inr (2, [.ref pa, .int (zi ((pn : Int))), .ref ba, .int (zi ((bn : Int))), .ref ax, .ref ay, .int (zi ((ln : Int))), .ref sp, .ref ss, .int (zi ((sn : Int))), .ref vs, .ref fr])), (pa, .inl (cQ, 6, .inr (.inr (.inr (.inr (pf)))))), (h0, .inr (1, [.ref h1, .ref h2, .int (zi ((n : Int))), .int (zi (th)), .int (zi (wc))])), (h1, .inl (cA, 12, .inl (zA (hs)))), (h2, .inl (cA, 12, .inl (zA (rs)))), (ou, .inl (cL, 1, .inr (.inl (zB (of)))))] sz)) 1 6 (va_A [(x0, .inr (2, [.ref pa, .int (zi ((pn : Int))), .ref ba, .int (zi ((bn : Int))), .ref ax, .ref ay, .int (zi ((ln : Int))), .ref sp, .ref ss, .int (zi ((sn : Int))), .ref vs, .ref fr])), (pa, .inl (cQ, 6, .inr (.inr (.inr (.inr (pf)))))), (h0, .inr (1, [.ref h1, .ref h2, .int (zi ((n : Int))), .int (zi (th)), .int (zi (wc))])), (h1, .inl (cA, 12, .inl (zA (hs)))), (h2, .inl (cA, 12, .inl (zA (rs)))), (ou, .inl (cL, 1, .inr (.inl (zB (of)))))] sz) := by
  refine va_MetW (cc := cL_enclosed) (maxL := 5) (ret := (Option.some Jvm.ClassFile.FieldType.int)) (hh := [((0 : Nat), (9 : Nat), (12 : Nat), (19 : Nat))]) (by decide) rfl ?_
  intro p e s m args below meth c s₁ B hml hv
  obtain ⟨hargs, hsz, hP, hK, hD0, hXA⟩ := hv
  have hx := B.exec
  have hb := B.bytes
  have hr := B.returns
  have hts := atoms_spec (ws := Cond.codeWith yL_enclosed cL_enclosed 5 (Option.some Jvm.ClassFile.FieldType.int) [((0 : Nat), (9 : Nat), (12 : Nat), (19 : Nat))] :: gw) B.pre
  have hg : ∀ w ∈ gw, w.before args s = true := fun w h => hts w (List.mem_cons_of_mem _ h)
  have hown : s.vm.findClass RL = some m.cls := findClass_of_methodNamed B.named
  have hlocks := B.notSynchronized
  have htab := vx_table (x := yL_enclosed) B (hts _ List.mem_cons_self)
  subst hsz
  have hD := hD0.self (sz := s.heap.size)
  generalize hAe : va_A [(x0, .inr (2, [.ref pa, .int (zi ((pn : Int))), .ref ba, .int (zi ((bn : Int))), .ref ax, .ref ay, .int (zi ((ln : Int))), .ref sp, .ref ss, .int (zi ((sn : Int))), .ref vs, .ref fr])), (pa, .inl (cQ, 6, .inr (.inr (.inr (.inr (pf)))))), (h0, .inr (1, [.ref h1, .ref h2, .int (zi ((n : Int))), .int (zi (th)), .int (zi (wc))])), (h1, .inl (cA, 12, .inl (zA (hs)))), (h2, .inl (cA, 12, .inl (zA (rs)))), (ou, .inl (cL, 1, .inr (.inl (zB (of)))))] s.heap.size = A at hD ⊢
  have hA : ∀ q : Nat, s.heap.size ≤ q → A q := fun q h => by rw [← hAe]; exact Or.inr h
  show W p l e rh_enclosed_1 s m args below meth c s.heap [] 0 0 _ _
  have hl := lv_entry ([.ref x0, .int (zi ((j : Int))), .int (zi (en)), .ref ou]) (n := 5) (Nat.le_of_ble_eq_true rfl)
  rw [show entryFrame m args 5 = entryFrame m ([.ref x0, .int (zi ((j : Int))), .int (zi (en)), .ref ou] : List Value).toArray 5 by rw [hargs], lg_entry_eq]
  generalize (lg_sl ([.ref x0, .int (zi ((j : Int))), .int (zi (en)), .ref ou]) ++ List.replicate (5 - (lg_sl ([.ref x0, .int (zi ((j : Int))), .int (zi (en)), .ref ou])).length) Slot.unset).toArray = ls at hl ⊢
  have hl : lv_has ls 5 [(0, .ref x0), (1, .int (zi ((j : Int)))), (2, .int (zi (en))), (3, .ref ou)] := hl
  refine lv_aload_n hx hb dL_enclosed_0 rfl (lv_at hl 3 rfl) ?_
  refine lv_iconst (v := zi (0)) hx hb dL_enclosed_1 rfl ?_
  refine lv_aload_n hx hb dL_enclosed_2 rfl (lv_at hl 0 rfl) ?_
  refine lv_iload_n hx hb dL_enclosed_3 rfl (lv_at hl 1 rfl) ?_
  refine lv_iload_n hx hb dL_enclosed_4 rfl (lv_at hl 2 rfl) ?_
  refine thKV (As := [.int (zi ((j : Int))), .int (zi (en))]) (rest := [.int (zi (0)), .ref ou]) (n := 2) hx hb hml hown hg (t_enclosed_w l hl0 dC dI x0 pa ba ax ay sp ss vs fr pn bn ln sn cQ pf h0 h1 h2 cA n th wc hs rs j en hn hH hR hj hf h_en hbad) (gwV wl_L_38 wm_X2_enclosed we_X2_enclosed wi_X2 wc_X2_enclosed) rfl rfl (by decide +kernel) ⟨(Nat.le_of_ble_eq_true rfl), (Nat.le_of_ble_eq_true rfl)⟩ (hK.sub [0, 1] rfl) (hP.sub [0, 1, 2, 3, 4] rfl) hXA.1 0 rfl rfl rfl rfl hl.1 rfl (Nat.le_of_ble_eq_true rfl) dL_enclosed_5 ⟨(Nat.le_of_ble_eq_true rfl), (Nat.le_of_ble_eq_true rfl)⟩ (fun q9 ce H1 locs1 hcell hcv hcl hS0 => ?_)
  refine vx_catch (E := KI) (name := KI) hown [] ⟨0, 9, 12, 19⟩ [] htab (fun z hz => by cases hz) (by decide) (by decide) (hg _ wl_L_19) (va_Nw.use rfl (hXA.1.1 KI (by decide))) hcell hcv hcl ?_
  refine lv_astore (lv' := [(4, .ref q9), (0, .ref x0), (1, .int (zi ((j : Int)))), (2, .int (zi (en))), (3, .ref ou)]) hx hb dL_enclosed_12 hl (by decide) rfl (fun ls hl => ?_)
  refine lv_iconst (v := zi (1)) hx hb dL_enclosed_14 rfl ?_
  exact nw_i hx hb hr hlocks rfl (F := (fun w9 => w9 = [(x0, .inr (2, [.ref pa, .int (zi ((pn : Int))), .ref ba, .int (zi ((bn : Int))), .ref ax, .ref ay, .int (zi ((ln : Int))), .ref sp, .ref ss, .int (zi ((sn : Int))), .ref vs, .ref fr])), (pa, .inl (cQ, 6, .inr (.inr (.inr (.inr (pf)))))), (h0, .inr (1, [.ref h1, .ref h2, .int (zi ((n : Int))), .int (zi (th)), .int (zi (wc))])), (h1, .inl (cA, 12, .inl (zA (hs)))), (h2, .inl (cA, 12, .inl (zA (rs)))), (ou, .inl (cL, 1, .inr (.inl (zB (of)))))])) rfl (thP hP hS0) hD (thS0 hS0) dL_enclosed_15
abbrev rh_wall_0 : Room := { frames := 9, cells := 0, slots := 0, locals := 200 }
set_option maxHeartbeats 4000000 in
set_option maxRecDepth 100000 in
theorem h_c_wall (l : Launch) (dC : Nat → ClassId) (dI : Nat → Nat → Nat) (sz : Nat) (x0 pa ba ax ay sp ss vs fr : Nat) (pn bn ln sn : Nat) (cQ : ClassId) (pf : Nat → Option Nat) (h0 h1 h2 : Nat) (cA : ClassId) (n : Nat) (th wc : Int) (hs rs : Nat → Int) (j : Nat) (v : Int) (hn : n ≤ 12) (hH : ∀ j, 0 ≤ hs j ∧ hs j ≤ 400) (hR : ∀ j, 0 ≤ rs j ∧ rs j ≤ 200) (hj : j < 6) (hf : pf j = some h0) (hv9 : 0 ≤ v ∧ v ≤ 50) (ou : Nat) (cL : ClassId) (of : Nat → Int) : Met l yL_wall (Cond.codeWith yL_wall cL_wall 5 (Option.some Jvm.ClassFile.FieldType.int) [((0 : Nat), (10 : Nat), (13 : Nat), (19 : Nat)), ((0 : Nat), (10 : Nat), (17 : Nat), (21 : Nat))] :: gw) rh_wall_0 (PcH [.ref x0, .int (zi ((j : Int))), .int (zi (v)), .ref ou] (dC, dI) vwCl [(x0, .inr (2, [.ref pa, .int (zi ((pn : Int))), .ref ba, .int (zi ((bn : Int))), .ref ax, .ref ay, .int (zi ((ln : Int))), .ref sp, .ref ss, .int (zi ((sn : Int))), .ref vs, .ref fr])), (pa, .inl (cQ, 6, .inr (.inr (.inr (.inr (pf)))))), (h0, .inr (1, [.ref h1, .ref h2, .int (zi ((n : Int))), .int (zi (th)), .int (zi (wc))])), (h1, .inl (cA, 12, .inl (zA (hs)))), (h2, .inl (cA, 12, .inl (zA (rs)))), (ou, .inl (cL, 1, .inr (.inl (zB (of)))))] [(cQ, .object "PotVolumes$Profile"), (cA, .int), (cL, .long)] sz) (NwQ (some (.int (zi (0)))) (dC, dI) vwCl (fun w9 => w9 = [(x0, .inr (2, [.ref pa, .int (zi ((pn : Int))), .ref ba, .int (zi ((bn : Int))), .ref ax, .ref ay, .int (zi ((ln : Int))), .ref sp, .ref ss, .int (zi ((sn : Int))), .ref vs, .ref fr])), (pa, .inl (cQ, 6, .inr (.inr (.inr (.inr (pf)))))), (h0, .inr (1, [.ref h1, .ref h2, .int (zi ((n : Int))), .int (zi (v)), .int (zi (wc))])), (h1, .inl (cA, 12, .inl (zA (hs)))), (h2, .inl (cA, 12, .inl (zA (rs)))), (ou, .inl (cL, 1, .inr (.inl (zB (zupd of (0) ((zi (th)).toInt))))))]) (va_A [(x0, .inr (2, [.ref pa, .int (zi ((pn : Int))), .ref ba, .int (zi ((bn : Int))), .ref ax, .ref ay, .int (zi ((ln : Int))), .ref sp, .ref ss, .int (zi ((sn : Int))), .ref vs, .ref fr])), (pa, .inl (cQ, 6, .inr (.inr (.inr (.inr (pf)))))), (h0, .inr (1, [.ref h1, .ref h2, .int (zi ((n : Int))), .int (zi (th)), .int (zi (wc))])), (h1, .inl (cA, 12, .inl (zA (hs)))), (h2, .inl (cA, 12, .inl (zA (rs)))), (ou, .inl (cL, 1, .inr (.inl (zB (of)))))] sz)) 0 0 (va_A [(x0, .inr (2, [.ref pa, .int (zi ((pn : Int))), .ref ba, .int (zi ((bn : Int))), .ref ax, .ref ay, .int (zi ((ln : Int))), .ref sp, .ref ss, .int (zi ((sn : Int))), .ref vs, .ref fr])), (pa, .inl (cQ, 6, .inr (.inr (.inr (.inr (pf)))))), (h0, .inr (1, [.ref h1, .ref h2, .int (zi ((n : Int))), .int (zi (th)), .int (zi (wc))])), (h1, .inl (cA, 12, .inl (zA (hs)))), (h2, .inl (cA, 12, .inl (zA (rs)))), (ou, .inl (cL, 1, .inr (.inl (zB (of)))))] sz) := by
  refine va_MetW (cc := cL_wall) (maxL := 5) (ret := (Option.some Jvm.ClassFile.FieldType.int)) (hh := [((0 : Nat), (10 : Nat), (13 : Nat), (19 : Nat)), ((0 : Nat), (10 : Nat), (17 : Nat), (21 : Nat))]) (by decide) rfl ?_
  intro p e s m args below meth c s₁ B hml hv
  obtain ⟨hargs, hsz, hP, hK, hD0, hXA⟩ := hv
  have hx := B.exec
  have hb := B.bytes
  have hr := B.returns
  have hts := atoms_spec (ws := Cond.codeWith yL_wall cL_wall 5 (Option.some Jvm.ClassFile.FieldType.int) [((0 : Nat), (10 : Nat), (13 : Nat), (19 : Nat)), ((0 : Nat), (10 : Nat), (17 : Nat), (21 : Nat))] :: gw) B.pre
  have hg : ∀ w ∈ gw, w.before args s = true := fun w h => hts w (List.mem_cons_of_mem _ h)
  have hown : s.vm.findClass RL = some m.cls := findClass_of_methodNamed B.named
  have hlocks := B.notSynchronized
  have htab := vx_table (x := yL_wall) B (hts _ List.mem_cons_self)
  subst hsz
  have hD := hD0.self (sz := s.heap.size)
  generalize hAe : va_A [(x0, .inr (2, [.ref pa, .int (zi ((pn : Int))), .ref ba, .int (zi ((bn : Int))), .ref ax, .ref ay, .int (zi ((ln : Int))), .ref sp, .ref ss, .int (zi ((sn : Int))), .ref vs, .ref fr])), (pa, .inl (cQ, 6, .inr (.inr (.inr (.inr (pf)))))), (h0, .inr (1, [.ref h1, .ref h2, .int (zi ((n : Int))), .int (zi (th)), .int (zi (wc))])), (h1, .inl (cA, 12, .inl (zA (hs)))), (h2, .inl (cA, 12, .inl (zA (rs)))), (ou, .inl (cL, 1, .inr (.inl (zB (of)))))] s.heap.size = A at hD ⊢
  have hA : ∀ q : Nat, s.heap.size ≤ q → A q := fun q h => by rw [← hAe]; exact Or.inr h
  show W p l e rh_wall_0 s m args below meth c s.heap [] 0 0 _ _
  have hl := lv_entry ([.ref x0, .int (zi ((j : Int))), .int (zi (v)), .ref ou]) (n := 5) (Nat.le_of_ble_eq_true rfl)
  rw [show entryFrame m args 5 = entryFrame m ([.ref x0, .int (zi ((j : Int))), .int (zi (v)), .ref ou] : List Value).toArray 5 by rw [hargs], lg_entry_eq]
  generalize (lg_sl ([.ref x0, .int (zi ((j : Int))), .int (zi (v)), .ref ou]) ++ List.replicate (5 - (lg_sl ([.ref x0, .int (zi ((j : Int))), .int (zi (v)), .ref ou])).length) Slot.unset).toArray = ls at hl ⊢
  have hl : lv_has ls 5 [(0, .ref x0), (1, .int (zi ((j : Int)))), (2, .int (zi (v))), (3, .ref ou)] := hl
  refine lv_aload_n hx hb dL_wall_0 rfl (lv_at hl 3 rfl) ?_
  refine lv_iconst (v := zi (0)) hx hb dL_wall_1 rfl ?_
  refine lv_aload_n hx hb dL_wall_2 rfl (lv_at hl 0 rfl) ?_
  refine lv_iload_n hx hb dL_wall_3 rfl (lv_at hl 1 rfl) ?_
  refine lv_iload_n hx hb dL_wall_4 rfl (lv_at hl 2 rfl) ?_
  obtain ⟨H, hHe⟩ : ∃ H : Heap, H = s.heap := ⟨_, rfl⟩
  obtain ⟨locs, hlc⟩ : ∃ x : List Loc, x = [] := ⟨_, rfl⟩
  have hS : va_S A s.heap H locs := by rw [hHe, hlc]; exact va_S.rf
  have hP : va_P (dC, dI) vwCl [(x0, .inr (2, [.ref pa, .int (zi ((pn : Int))), .ref ba, .int (zi ((bn : Int))), .ref ax, .ref ay, .int (zi ((ln : Int))), .ref sp, .ref ss, .int (zi ((sn : Int))), .ref vs, .ref fr])), (pa, .inl (cQ, 6, .inr (.inr (.inr (.inr (pf)))))), (h0, .inr (1, [.ref h1, .ref h2, .int (zi ((n : Int))), .int (zi (th)), .int (zi (wc))])), (h1, .inl (cA, 12, .inl (zA (hs)))), (h2, .inl (cA, 12, .inl (zA (rs)))), (ou, .inl (cL, 1, .inr (.inl (zB (of)))))] H := by rw [hHe]; exact hP
  rw [← hHe, ← hlc]
  refine wrV (As := [.int (zi ((j : Int))), .int (zi (v))]) (rest := [.int (zi (0)), .ref ou]) (n := 2) (ws' := [(x0, .inr (2, [.ref pa, .int (zi ((pn : Int))), .ref ba, .int (zi ((bn : Int))), .ref ax, .ref ay, .int (zi ((ln : Int))), .ref sp, .ref ss, .int (zi ((sn : Int))), .ref vs, .ref fr])), (pa, .inl (cQ, 6, .inr (.inr (.inr (.inr (pf)))))), (h0, .inr (1, [.ref h1, .ref h2, .int (zi ((n : Int))), .int (zi (v)), .int (zi (wc))])), (h1, .inl (cA, 12, .inl (zA (hs)))), (h2, .inl (cA, 12, .inl (zA (rs)))), (ou, .inl (cL, 1, .inr (.inl (zB (of)))))]) hx hb hml hown hg (c_wall l dC dI H.size x0 pa ba ax ay sp ss vs fr pn bn ln sn cQ pf h0 h1 h2 cA n th wc hs rs j v hn hH hR hj hf hv9) (gwV wl_L_42 wm_X2_wall we_X2_wall wi_X2 wc_X2_wall) rfl rfl (by decide +kernel) ⟨(Nat.le_of_ble_eq_true rfl), (Nat.le_of_ble_eq_true rfl)⟩ (hK.sub [0, 1] rfl) hP hD hS hA [0, 1, 2, 3, 4] rfl (by decide) [(true, 0), (true, 1), (true, 2), (true, 3), (true, 4), (false, 5)] rfl (by decide) rfl 0 rfl rfl rfl rfl hl.1 rfl (Nat.le_of_ble_eq_true rfl) dL_wall_5 ⟨Nat.zero_le _, Nat.zero_le _⟩ (fun H locs hP hD hS => ?_)
  refine zz_i2lr hx hb dL_wall_8 ?_
  refine zz_last hx hb hK hP hD hS 5 2 rfl rfl (0) (by omega) (by omega) (by decide) dL_wall_9 (fun H locs hP hD hS => ?_)
  refine lv_goto (tgt := 21) hx hb dL_wall_10 (by decide) ?_
  refine lv_iconst (v := zi (0)) hx hb dL_wall_21 rfl ?_
  exact nw_i hx hb hr hlocks rfl (F := (fun w9 => w9 = [(x0, .inr (2, [.ref pa, .int (zi ((pn : Int))), .ref ba, .int (zi ((bn : Int))), .ref ax, .ref ay, .int (zi ((ln : Int))), .ref sp, .ref ss, .int (zi ((sn : Int))), .ref vs, .ref fr])), (pa, .inl (cQ, 6, .inr (.inr (.inr (.inr (pf)))))), (h0, .inr (1, [.ref h1, .ref h2, .int (zi ((n : Int))), .int (zi (v)), .int (zi (wc))])), (h1, .inl (cA, 12, .inl (zA (hs)))), (h2, .inl (cA, 12, .inl (zA (rs)))), (ou, .inl (cL, 1, .inr (.inl (zB (zupd of (0) ((zi (th)).toInt))))))])) rfl hP hD hS dL_wall_22
abbrev rh_wall_1 : Room := { frames := 9, cells := 1, slots := 6, locals := 200 }
set_option maxHeartbeats 4000000 in
set_option maxRecDepth 100000 in
theorem h_t_wall_p (l : Launch) (hl0 : l.stackTraces = false) (dC : Nat → ClassId) (dI : Nat → Nat → Nat) (sz : Nat) (x0 pa ba ax ay sp ss vs fr : Nat) (pn bn ln sn : Nat) (cQ : ClassId) (pf : Nat → Option Nat) (i v : Int) (hi : -2147483648 ≤ i ∧ i < 2147483648) (hbad : i < 0 ∨ 6 ≤ i ∨ pf i.toNat = none) (ou : Nat) (cL : ClassId) (of : Nat → Int) : Met l yL_wall (Cond.codeWith yL_wall cL_wall 5 (Option.some Jvm.ClassFile.FieldType.int) [((0 : Nat), (10 : Nat), (13 : Nat), (19 : Nat)), ((0 : Nat), (10 : Nat), (17 : Nat), (21 : Nat))] :: gw) rh_wall_1 (PcH [.ref x0, .int (zi (i)), .int (zi (v)), .ref ou] (dC, dI) vwCl [(x0, .inr (2, [.ref pa, .int (zi ((pn : Int))), .ref ba, .int (zi ((bn : Int))), .ref ax, .ref ay, .int (zi ((ln : Int))), .ref sp, .ref ss, .int (zi ((sn : Int))), .ref vs, .ref fr])), (pa, .inl (cQ, 6, .inr (.inr (.inr (.inr (pf)))))), (ou, .inl (cL, 1, .inr (.inl (zB (of)))))] [(cQ, .object "PotVolumes$Profile"), (cL, .long)] sz) (NwQ (some (.int (zi (1)))) (dC, dI) vwCl (fun w9 => w9 = [(x0, .inr (2, [.ref pa, .int (zi ((pn : Int))), .ref ba, .int (zi ((bn : Int))), .ref ax, .ref ay, .int (zi ((ln : Int))), .ref sp, .ref ss, .int (zi ((sn : Int))), .ref vs, .ref fr])), (pa, .inl (cQ, 6, .inr (.inr (.inr (.inr (pf)))))), (ou, .inl (cL, 1, .inr (.inl (zB (of)))))]) (va_A [(x0, .inr (2, [.ref pa, .int (zi ((pn : Int))), .ref ba, .int (zi ((bn : Int))), .ref ax, .ref ay, .int (zi ((ln : Int))), .ref sp, .ref ss, .int (zi ((sn : Int))), .ref vs, .ref fr])), (pa, .inl (cQ, 6, .inr (.inr (.inr (.inr (pf)))))), (ou, .inl (cL, 1, .inr (.inl (zB (of)))))] sz)) 1 6 (va_A [(x0, .inr (2, [.ref pa, .int (zi ((pn : Int))), .ref ba, .int (zi ((bn : Int))), .ref ax, .ref ay, .int (zi ((ln : Int))), .ref sp, .ref ss, .int (zi ((sn : Int))), .ref vs, .ref fr])), (pa, .inl (cQ, 6, .inr (.inr (.inr (.inr (pf)))))), (ou, .inl (cL, 1, .inr (.inl (zB (of)))))] sz) := by
  refine va_MetW (cc := cL_wall) (maxL := 5) (ret := (Option.some Jvm.ClassFile.FieldType.int)) (hh := [((0 : Nat), (10 : Nat), (13 : Nat), (19 : Nat)), ((0 : Nat), (10 : Nat), (17 : Nat), (21 : Nat))]) (by decide) rfl ?_
  intro p e s m args below meth c s₁ B hml hv
  obtain ⟨hargs, hsz, hP, hK, hD0, hXA⟩ := hv
  have hx := B.exec
  have hb := B.bytes
  have hr := B.returns
  have hts := atoms_spec (ws := Cond.codeWith yL_wall cL_wall 5 (Option.some Jvm.ClassFile.FieldType.int) [((0 : Nat), (10 : Nat), (13 : Nat), (19 : Nat)), ((0 : Nat), (10 : Nat), (17 : Nat), (21 : Nat))] :: gw) B.pre
  have hg : ∀ w ∈ gw, w.before args s = true := fun w h => hts w (List.mem_cons_of_mem _ h)
  have hown : s.vm.findClass RL = some m.cls := findClass_of_methodNamed B.named
  have hlocks := B.notSynchronized
  have htab := vx_table (x := yL_wall) B (hts _ List.mem_cons_self)
  subst hsz
  have hD := hD0.self (sz := s.heap.size)
  generalize hAe : va_A [(x0, .inr (2, [.ref pa, .int (zi ((pn : Int))), .ref ba, .int (zi ((bn : Int))), .ref ax, .ref ay, .int (zi ((ln : Int))), .ref sp, .ref ss, .int (zi ((sn : Int))), .ref vs, .ref fr])), (pa, .inl (cQ, 6, .inr (.inr (.inr (.inr (pf)))))), (ou, .inl (cL, 1, .inr (.inl (zB (of)))))] s.heap.size = A at hD ⊢
  have hA : ∀ q : Nat, s.heap.size ≤ q → A q := fun q h => by rw [← hAe]; exact Or.inr h
  show W p l e rh_wall_1 s m args below meth c s.heap [] 0 0 _ _
  have hl := lv_entry ([.ref x0, .int (zi (i)), .int (zi (v)), .ref ou]) (n := 5) (Nat.le_of_ble_eq_true rfl)
  rw [show entryFrame m args 5 = entryFrame m ([.ref x0, .int (zi (i)), .int (zi (v)), .ref ou] : List Value).toArray 5 by rw [hargs], lg_entry_eq]
  generalize (lg_sl ([.ref x0, .int (zi (i)), .int (zi (v)), .ref ou]) ++ List.replicate (5 - (lg_sl ([.ref x0, .int (zi (i)), .int (zi (v)), .ref ou])).length) Slot.unset).toArray = ls at hl ⊢
  have hl : lv_has ls 5 [(0, .ref x0), (1, .int (zi (i))), (2, .int (zi (v))), (3, .ref ou)] := hl
  refine lv_aload_n hx hb dL_wall_0 rfl (lv_at hl 3 rfl) ?_
  refine lv_iconst (v := zi (0)) hx hb dL_wall_1 rfl ?_
  refine lv_aload_n hx hb dL_wall_2 rfl (lv_at hl 0 rfl) ?_
  refine lv_iload_n hx hb dL_wall_3 rfl (lv_at hl 1 rfl) ?_
  refine lv_iload_n hx hb dL_wall_4 rfl (lv_at hl 2 rfl) ?_
  refine thKV (As := [.int (zi (i)), .int (zi (v))]) (rest := [.int (zi (0)), .ref ou]) (n := 2) hx hb hml hown hg (t_wall_p l hl0 dC dI x0 pa ba ax ay sp ss vs fr pn bn ln sn cQ pf i v hi hbad) (gwV wl_L_42 wm_X2_wall we_X2_wall wi_X2 wc_X2_wall) rfl rfl (by decide +kernel) ⟨(Nat.le_of_ble_eq_true rfl), (Nat.le_of_ble_eq_true rfl)⟩ (hK.sub [0] rfl) (hP.sub [0, 1] rfl) hXA.1 0 rfl rfl rfl rfl hl.1 rfl (Nat.le_of_ble_eq_true rfl) dL_wall_5 ⟨(Nat.le_of_ble_eq_true rfl), (Nat.le_of_ble_eq_true rfl)⟩ (fun q9 ce H1 locs1 hcell hcv hcl hS0 => ?_)
  refine vx_catch (E := KI) (name := KI) hown [] ⟨0, 10, 13, 19⟩ [⟨0, 10, 17, 21⟩] htab (fun z hz => by cases hz) (by decide) (by decide) (hg _ wl_L_19) (va_Nw.use rfl (hXA.1.1 KI (by decide))) hcell hcv hcl ?_
  refine lv_astore (lv' := [(4, .ref q9), (0, .ref x0), (1, .int (zi (i))), (2, .int (zi (v))), (3, .ref ou)]) hx hb dL_wall_13 hl (by decide) rfl (fun ls hl => ?_)
  refine lv_iconst (v := zi (1)) hx hb dL_wall_15 rfl ?_
  exact nw_i hx hb hr hlocks rfl (F := (fun w9 => w9 = [(x0, .inr (2, [.ref pa, .int (zi ((pn : Int))), .ref ba, .int (zi ((bn : Int))), .ref ax, .ref ay, .int (zi ((ln : Int))), .ref sp, .ref ss, .int (zi ((sn : Int))), .ref vs, .ref fr])), (pa, .inl (cQ, 6, .inr (.inr (.inr (.inr (pf)))))), (ou, .inl (cL, 1, .inr (.inl (zB (of)))))])) rfl (thP hP hS0) hD (thS0 hS0) dL_wall_16
set_option maxHeartbeats 4000000 in
set_option maxRecDepth 100000 in
theorem h_t_wall_A (l : Launch) (hl0 : l.stackTraces = false) (dC : Nat → ClassId) (dI : Nat → Nat → Nat) (sz : Nat) (x0 pa ba ax ay sp ss vs fr : Nat) (pn bn ln sn : Nat) (cQ : ClassId) (pf : Nat → Option Nat) (h0 h1 h2 : Nat) (cA : ClassId) (n : Nat) (th wc : Int) (hs rs : Nat → Int) (j : Nat) (v : Int) (hn : n ≤ 12) (hH : ∀ j, 0 ≤ hs j ∧ hs j ≤ 400) (hR : ∀ j, 0 ≤ rs j ∧ rs j ≤ 200) (hj : j < 6) (hf : pf j = some h0) (h_v : -2147483648 ≤ v ∧ v < 2147483648) (hbad : ¬ (0 ≤ v ∧ v ≤ 50)) (ou : Nat) (cL : ClassId) (of : Nat → Int) : Met l yL_wall (Cond.codeWith yL_wall cL_wall 5 (Option.some Jvm.ClassFile.FieldType.int) [((0 : Nat), (10 : Nat), (13 : Nat), (19 : Nat)), ((0 : Nat), (10 : Nat), (17 : Nat), (21 : Nat))] :: gw) rh_wall_1 (PcH [.ref x0, .int (zi ((j : Int))), .int (zi (v)), .ref ou] (dC, dI) vwCl [(x0, .inr (2, [.ref pa, .int (zi ((pn : Int))), .ref ba, .int (zi ((bn : Int))), .ref ax, .ref ay, .int (zi ((ln : Int))), .ref sp, .ref ss, .int (zi ((sn : Int))), .ref vs, .ref fr])), (pa, .inl (cQ, 6, .inr (.inr (.inr (.inr (pf)))))), (h0, .inr (1, [.ref h1, .ref h2, .int (zi ((n : Int))), .int (zi (th)), .int (zi (wc))])), (h1, .inl (cA, 12, .inl (zA (hs)))), (h2, .inl (cA, 12, .inl (zA (rs)))), (ou, .inl (cL, 1, .inr (.inl (zB (of)))))] [(cQ, .object "PotVolumes$Profile"), (cA, .int), (cL, .long)] sz) (NwQ (some (.int (zi (2)))) (dC, dI) vwCl (fun w9 => w9 = [(x0, .inr (2, [.ref pa, .int (zi ((pn : Int))), .ref ba, .int (zi ((bn : Int))), .ref ax, .ref ay, .int (zi ((ln : Int))), .ref sp, .ref ss, .int (zi ((sn : Int))), .ref vs, .ref fr])), (pa, .inl (cQ, 6, .inr (.inr (.inr (.inr (pf)))))), (h0, .inr (1, [.ref h1, .ref h2, .int (zi ((n : Int))), .int (zi (th)), .int (zi (wc))])), (h1, .inl (cA, 12, .inl (zA (hs)))), (h2, .inl (cA, 12, .inl (zA (rs)))), (ou, .inl (cL, 1, .inr (.inl (zB (of)))))]) (va_A [(x0, .inr (2, [.ref pa, .int (zi ((pn : Int))), .ref ba, .int (zi ((bn : Int))), .ref ax, .ref ay, .int (zi ((ln : Int))), .ref sp, .ref ss, .int (zi ((sn : Int))), .ref vs, .ref fr])), (pa, .inl (cQ, 6, .inr (.inr (.inr (.inr (pf)))))), (h0, .inr (1, [.ref h1, .ref h2, .int (zi ((n : Int))), .int (zi (th)), .int (zi (wc))])), (h1, .inl (cA, 12, .inl (zA (hs)))), (h2, .inl (cA, 12, .inl (zA (rs)))), (ou, .inl (cL, 1, .inr (.inl (zB (of)))))] sz)) 1 6 (va_A [(x0, .inr (2, [.ref pa, .int (zi ((pn : Int))), .ref ba, .int (zi ((bn : Int))), .ref ax, .ref ay, .int (zi ((ln : Int))), .ref sp, .ref ss, .int (zi ((sn : Int))), .ref vs, .ref fr])), (pa, .inl (cQ, 6, .inr (.inr (.inr (.inr (pf)))))), (h0, .inr (1, [.ref h1, .ref h2, .int (zi ((n : Int))), .int (zi (th)), .int (zi (wc))])), (h1, .inl (cA, 12, .inl (zA (hs)))), (h2, .inl (cA, 12, .inl (zA (rs)))), (ou, .inl (cL, 1, .inr (.inl (zB (of)))))] sz) := by
  refine va_MetW (cc := cL_wall) (maxL := 5) (ret := (Option.some Jvm.ClassFile.FieldType.int)) (hh := [((0 : Nat), (10 : Nat), (13 : Nat), (19 : Nat)), ((0 : Nat), (10 : Nat), (17 : Nat), (21 : Nat))]) (by decide) rfl ?_
  intro p e s m args below meth c s₁ B hml hv
  obtain ⟨hargs, hsz, hP, hK, hD0, hXA⟩ := hv
  have hx := B.exec
  have hb := B.bytes
  have hr := B.returns
  have hts := atoms_spec (ws := Cond.codeWith yL_wall cL_wall 5 (Option.some Jvm.ClassFile.FieldType.int) [((0 : Nat), (10 : Nat), (13 : Nat), (19 : Nat)), ((0 : Nat), (10 : Nat), (17 : Nat), (21 : Nat))] :: gw) B.pre
  have hg : ∀ w ∈ gw, w.before args s = true := fun w h => hts w (List.mem_cons_of_mem _ h)
  have hown : s.vm.findClass RL = some m.cls := findClass_of_methodNamed B.named
  have hlocks := B.notSynchronized
  have htab := vx_table (x := yL_wall) B (hts _ List.mem_cons_self)
  subst hsz
  have hD := hD0.self (sz := s.heap.size)
  generalize hAe : va_A [(x0, .inr (2, [.ref pa, .int (zi ((pn : Int))), .ref ba, .int (zi ((bn : Int))), .ref ax, .ref ay, .int (zi ((ln : Int))), .ref sp, .ref ss, .int (zi ((sn : Int))), .ref vs, .ref fr])), (pa, .inl (cQ, 6, .inr (.inr (.inr (.inr (pf)))))), (h0, .inr (1, [.ref h1, .ref h2, .int (zi ((n : Int))), .int (zi (th)), .int (zi (wc))])), (h1, .inl (cA, 12, .inl (zA (hs)))), (h2, .inl (cA, 12, .inl (zA (rs)))), (ou, .inl (cL, 1, .inr (.inl (zB (of)))))] s.heap.size = A at hD ⊢
  have hA : ∀ q : Nat, s.heap.size ≤ q → A q := fun q h => by rw [← hAe]; exact Or.inr h
  show W p l e rh_wall_1 s m args below meth c s.heap [] 0 0 _ _
  have hl := lv_entry ([.ref x0, .int (zi ((j : Int))), .int (zi (v)), .ref ou]) (n := 5) (Nat.le_of_ble_eq_true rfl)
  rw [show entryFrame m args 5 = entryFrame m ([.ref x0, .int (zi ((j : Int))), .int (zi (v)), .ref ou] : List Value).toArray 5 by rw [hargs], lg_entry_eq]
  generalize (lg_sl ([.ref x0, .int (zi ((j : Int))), .int (zi (v)), .ref ou]) ++ List.replicate (5 - (lg_sl ([.ref x0, .int (zi ((j : Int))), .int (zi (v)), .ref ou])).length) Slot.unset).toArray = ls at hl ⊢
  have hl : lv_has ls 5 [(0, .ref x0), (1, .int (zi ((j : Int)))), (2, .int (zi (v))), (3, .ref ou)] := hl
  refine lv_aload_n hx hb dL_wall_0 rfl (lv_at hl 3 rfl) ?_
  refine lv_iconst (v := zi (0)) hx hb dL_wall_1 rfl ?_
  refine lv_aload_n hx hb dL_wall_2 rfl (lv_at hl 0 rfl) ?_
  refine lv_iload_n hx hb dL_wall_3 rfl (lv_at hl 1 rfl) ?_
  refine lv_iload_n hx hb dL_wall_4 rfl (lv_at hl 2 rfl) ?_
  refine thKV (As := [.int (zi ((j : Int))), .int (zi (v))]) (rest := [.int (zi (0)), .ref ou]) (n := 2) hx hb hml hown hg (t_wall_A l hl0 dC dI x0 pa ba ax ay sp ss vs fr pn bn ln sn cQ pf h0 h1 h2 cA n th wc hs rs j v hn hH hR hj hf h_v hbad) (gwV wl_L_42 wm_X2_wall we_X2_wall wi_X2 wc_X2_wall) rfl rfl (by decide +kernel) ⟨(Nat.le_of_ble_eq_true rfl), (Nat.le_of_ble_eq_true rfl)⟩ (hK.sub [0, 1] rfl) (hP.sub [0, 1, 2, 3, 4] rfl) hXA.1 0 rfl rfl rfl rfl hl.1 rfl (Nat.le_of_ble_eq_true rfl) dL_wall_5 ⟨(Nat.le_of_ble_eq_true rfl), (Nat.le_of_ble_eq_true rfl)⟩ (fun q9 ce H1 locs1 hcell hcv hcl hS0 => ?_)
  refine vx_catch (E := KA) (name := KA) hown [⟨0, 10, 13, 19⟩] ⟨0, 10, 17, 21⟩ [] htab (fun z hz => by rcases List.mem_singleton.mp hz with rfl; exact Or.inr ⟨by decide, KI, hg _ wl_L_19, hXA.2.2.1⟩) (by decide) (by decide) (hg _ wl_L_21) (va_Nw.use rfl (hXA.1.1 KA (by decide))) hcell hcv hcl ?_
  refine lv_astore (lv' := [(4, .ref q9), (0, .ref x0), (1, .int (zi ((j : Int)))), (2, .int (zi (v))), (3, .ref ou)]) hx hb dL_wall_17 hl (by decide) rfl (fun ls hl => ?_)
  refine lv_iconst (v := zi (2)) hx hb dL_wall_19 rfl ?_
  exact nw_i hx hb hr hlocks rfl (F := (fun w9 => w9 = [(x0, .inr (2, [.ref pa, .int (zi ((pn : Int))), .ref ba, .int (zi ((bn : Int))), .ref ax, .ref ay, .int (zi ((ln : Int))), .ref sp, .ref ss, .int (zi ((sn : Int))), .ref vs, .ref fr])), (pa, .inl (cQ, 6, .inr (.inr (.inr (.inr (pf)))))), (h0, .inr (1, [.ref h1, .ref h2, .int (zi ((n : Int))), .int (zi (th)), .int (zi (wc))])), (h1, .inl (cA, 12, .inl (zA (hs)))), (h2, .inl (cA, 12, .inl (zA (rs)))), (ou, .inl (cL, 1, .inr (.inl (zB (of)))))])) rfl (thP hP hS0) hD (thS0 hS0) dL_wall_20
abbrev rh_unlike_0 : Room := { frames := 9, cells := 0, slots := 0, locals := 200 }
set_option maxHeartbeats 4000000 in
set_option maxRecDepth 100000 in
theorem h_c_unlike_s (l : Launch) (dC : Nat → ClassId) (dI : Nat → Nat → Nat) (sz : Nat) (x0 pa ba ax ay sp ss vs fr : Nat) (pn bn ln sn : Nat) (cQ : ClassId) (pf : Nat → Option Nat) (h0 h1 h2 : Nat) (cA : ClassId) (n : Nat) (th wc : Int) (hs rs : Nat → Int) (j : Nat) (hn : n ≤ 12) (hH : ∀ j, 0 ≤ hs j ∧ hs j ≤ 400) (hR : ∀ j, 0 ≤ rs j ∧ rs j ≤ 200) (hj : j < 6) (hf : pf j = some h0) (ou : Nat) (cL : ClassId) (of : Nat → Int) : Met l yL_unlike (Cond.codeWith yL_unlike cL_unlike 5 (Option.some Jvm.ClassFile.FieldType.int) [((0 : Nat), (10 : Nat), (13 : Nat), (19 : Nat))] :: gw) rh_unlike_0 (PcH [.ref x0, .int (zi ((j : Int))), .int (zi ((j : Int))), .ref ou] (dC, dI) vwCl [(x0, .inr (2, [.ref pa, .int (zi ((pn : Int))), .ref ba, .int (zi ((bn : Int))), .ref ax, .ref ay, .int (zi ((ln : Int))), .ref sp, .ref ss, .int (zi ((sn : Int))), .ref vs, .ref fr])), (pa, .inl (cQ, 6, .inr (.inr (.inr (.inr (pf)))))), (h0, .inr (1, [.ref h1, .ref h2, .int (zi ((n : Int))), .int (zi (th)), .int (zi (wc))])), (h1, .inl (cA, 12, .inl (zA (hs)))), (h2, .inl (cA, 12, .inl (zA (rs)))), (ou, .inl (cL, 1, .inr (.inl (zB (of)))))] [(cQ, .object "PotVolumes$Profile"), (cA, .int), (cL, .long)] sz) (NwQ (some (.int (zi (0)))) (dC, dI) vwCl (fun w9 => w9 = [(x0, .inr (2, [.ref pa, .int (zi ((pn : Int))), .ref ba, .int (zi ((bn : Int))), .ref ax, .ref ay, .int (zi ((ln : Int))), .ref sp, .ref ss, .int (zi ((sn : Int))), .ref vs, .ref fr])), (pa, .inl (cQ, 6, .inr (.inr (.inr (.inr (pf)))))), (h0, .inr (1, [.ref h1, .ref h2, .int (zi ((n : Int))), .int (zi (th)), .int (zi (wc))])), (h1, .inl (cA, 12, .inl (zA (hs)))), (h2, .inl (cA, 12, .inl (zA (rs)))), (ou, .inl (cL, 1, .inr (.inl (zB (zupd of (0) ((zi ((p_unl (p_radius n hs rs) (p_radius n hs rs) 401))).toInt))))))]) (va_A [(x0, .inr (2, [.ref pa, .int (zi ((pn : Int))), .ref ba, .int (zi ((bn : Int))), .ref ax, .ref ay, .int (zi ((ln : Int))), .ref sp, .ref ss, .int (zi ((sn : Int))), .ref vs, .ref fr])), (pa, .inl (cQ, 6, .inr (.inr (.inr (.inr (pf)))))), (h0, .inr (1, [.ref h1, .ref h2, .int (zi ((n : Int))), .int (zi (th)), .int (zi (wc))])), (h1, .inl (cA, 12, .inl (zA (hs)))), (h2, .inl (cA, 12, .inl (zA (rs)))), (ou, .inl (cL, 1, .inr (.inl (zB (of)))))] sz)) 0 0 (va_A [(x0, .inr (2, [.ref pa, .int (zi ((pn : Int))), .ref ba, .int (zi ((bn : Int))), .ref ax, .ref ay, .int (zi ((ln : Int))), .ref sp, .ref ss, .int (zi ((sn : Int))), .ref vs, .ref fr])), (pa, .inl (cQ, 6, .inr (.inr (.inr (.inr (pf)))))), (h0, .inr (1, [.ref h1, .ref h2, .int (zi ((n : Int))), .int (zi (th)), .int (zi (wc))])), (h1, .inl (cA, 12, .inl (zA (hs)))), (h2, .inl (cA, 12, .inl (zA (rs)))), (ou, .inl (cL, 1, .inr (.inl (zB (of)))))] sz) := by
  refine va_MetW (cc := cL_unlike) (maxL := 5) (ret := (Option.some Jvm.ClassFile.FieldType.int)) (hh := [((0 : Nat), (10 : Nat), (13 : Nat), (19 : Nat))]) (by decide) rfl ?_
  intro p e s m args below meth c s₁ B hml hv
  obtain ⟨hargs, hsz, hP, hK, hD0, hXA⟩ := hv
  have hx := B.exec
  have hb := B.bytes
  have hr := B.returns
  have hts := atoms_spec (ws := Cond.codeWith yL_unlike cL_unlike 5 (Option.some Jvm.ClassFile.FieldType.int) [((0 : Nat), (10 : Nat), (13 : Nat), (19 : Nat))] :: gw) B.pre
  have hg : ∀ w ∈ gw, w.before args s = true := fun w h => hts w (List.mem_cons_of_mem _ h)
  have hown : s.vm.findClass RL = some m.cls := findClass_of_methodNamed B.named
  have hlocks := B.notSynchronized
  have htab := vx_table (x := yL_unlike) B (hts _ List.mem_cons_self)
  subst hsz
  have hD := hD0.self (sz := s.heap.size)
  generalize hAe : va_A [(x0, .inr (2, [.ref pa, .int (zi ((pn : Int))), .ref ba, .int (zi ((bn : Int))), .ref ax, .ref ay, .int (zi ((ln : Int))), .ref sp, .ref ss, .int (zi ((sn : Int))), .ref vs, .ref fr])), (pa, .inl (cQ, 6, .inr (.inr (.inr (.inr (pf)))))), (h0, .inr (1, [.ref h1, .ref h2, .int (zi ((n : Int))), .int (zi (th)), .int (zi (wc))])), (h1, .inl (cA, 12, .inl (zA (hs)))), (h2, .inl (cA, 12, .inl (zA (rs)))), (ou, .inl (cL, 1, .inr (.inl (zB (of)))))] s.heap.size = A at hD ⊢
  have hA : ∀ q : Nat, s.heap.size ≤ q → A q := fun q h => by rw [← hAe]; exact Or.inr h
  show W p l e rh_unlike_0 s m args below meth c s.heap [] 0 0 _ _
  have hl := lv_entry ([.ref x0, .int (zi ((j : Int))), .int (zi ((j : Int))), .ref ou]) (n := 5) (Nat.le_of_ble_eq_true rfl)
  rw [show entryFrame m args 5 = entryFrame m ([.ref x0, .int (zi ((j : Int))), .int (zi ((j : Int))), .ref ou] : List Value).toArray 5 by rw [hargs], lg_entry_eq]
  generalize (lg_sl ([.ref x0, .int (zi ((j : Int))), .int (zi ((j : Int))), .ref ou]) ++ List.replicate (5 - (lg_sl ([.ref x0, .int (zi ((j : Int))), .int (zi ((j : Int))), .ref ou])).length) Slot.unset).toArray = ls at hl ⊢
  have hl : lv_has ls 5 [(0, .ref x0), (1, .int (zi ((j : Int)))), (2, .int (zi ((j : Int)))), (3, .ref ou)] := hl
  refine lv_aload_n hx hb dL_unlike_0 rfl (lv_at hl 3 rfl) ?_
  refine lv_iconst (v := zi (0)) hx hb dL_unlike_1 rfl ?_
  refine lv_aload_n hx hb dL_unlike_2 rfl (lv_at hl 0 rfl) ?_
  refine lv_iload_n hx hb dL_unlike_3 rfl (lv_at hl 1 rfl) ?_
  refine lv_iload_n hx hb dL_unlike_4 rfl (lv_at hl 2 rfl) ?_
  obtain ⟨H, hHe⟩ : ∃ H : Heap, H = s.heap := ⟨_, rfl⟩
  obtain ⟨locs, hlc⟩ : ∃ x : List Loc, x = [] := ⟨_, rfl⟩
  have hS : va_S A s.heap H locs := by rw [hHe, hlc]; exact va_S.rf
  have hP : va_P (dC, dI) vwCl [(x0, .inr (2, [.ref pa, .int (zi ((pn : Int))), .ref ba, .int (zi ((bn : Int))), .ref ax, .ref ay, .int (zi ((ln : Int))), .ref sp, .ref ss, .int (zi ((sn : Int))), .ref vs, .ref fr])), (pa, .inl (cQ, 6, .inr (.inr (.inr (.inr (pf)))))), (h0, .inr (1, [.ref h1, .ref h2, .int (zi ((n : Int))), .int (zi (th)), .int (zi (wc))])), (h1, .inl (cA, 12, .inl (zA (hs)))), (h2, .inl (cA, 12, .inl (zA (rs)))), (ou, .inl (cL, 1, .inr (.inl (zB (of)))))] H := by rw [hHe]; exact hP
  rw [← hHe, ← hlc]
  refine rdV (As := [.int (zi ((j : Int))), .int (zi ((j : Int)))]) (rest := [.int (zi (0)), .ref ou]) (n := 2) hx hb hml hown hg (c_unlike_s l dC dI x0 pa ba ax ay sp ss vs fr pn bn ln sn cQ pf h0 h1 h2 cA n th wc hs rs j hn hH hR hj hf) (gwV wl_L_45 wm_X2_unlike we_X2_unlike wi_X2 wc_X2_unlike) rfl rfl (by decide +kernel) ⟨(Nat.le_of_ble_eq_true rfl), (Nat.le_of_ble_eq_true rfl)⟩ (hK.sub [0, 1] rfl) (hP.sub [0, 1, 2, 3, 4] rfl) 0 rfl rfl rfl rfl hl.1 rfl (Nat.le_of_ble_eq_true rfl) dL_unlike_5 ⟨Nat.zero_le _, Nat.zero_le _⟩ ?_
  refine zz_i2lr hx hb dL_unlike_8 ?_
  refine zz_last hx hb hK hP hD hS 5 2 rfl rfl (0) (by omega) (by omega) (by decide) dL_unlike_9 (fun H locs hP hD hS => ?_)
  refine lv_goto (tgt := 17) hx hb dL_unlike_10 (by decide) ?_
  refine lv_iconst (v := zi (0)) hx hb dL_unlike_17 rfl ?_
  exact nw_i hx hb hr hlocks rfl (F := (fun w9 => w9 = [(x0, .inr (2, [.ref pa, .int (zi ((pn : Int))), .ref ba, .int (zi ((bn : Int))), .ref ax, .ref ay, .int (zi ((ln : Int))), .ref sp, .ref ss, .int (zi ((sn : Int))), .ref vs, .ref fr])), (pa, .inl (cQ, 6, .inr (.inr (.inr (.inr (pf)))))), (h0, .inr (1, [.ref h1, .ref h2, .int (zi ((n : Int))), .int (zi (th)), .int (zi (wc))])), (h1, .inl (cA, 12, .inl (zA (hs)))), (h2, .inl (cA, 12, .inl (zA (rs)))), (ou, .inl (cL, 1, .inr (.inl (zB (zupd of (0) ((zi ((p_unl (p_radius n hs rs) (p_radius n hs rs) 401))).toInt))))))])) rfl hP hD hS dL_unlike_18
set_option maxHeartbeats 4000000 in
set_option maxRecDepth 100000 in
theorem h_c_unlike_d (l : Launch) (dC : Nat → ClassId) (dI : Nat → Nat → Nat) (sz : Nat) (x0 pa ba ax ay sp ss vs fr : Nat) (pn bn ln sn : Nat) (cQ : ClassId) (pf : Nat → Option Nat) (h0 h1 h2 : Nat) (cA : ClassId) (n : Nat) (th wc : Int) (hs rs : Nat → Int) (j : Nat) (q : Nat) (g0 g1 g2 : Nat) (n' : Nat) (th' wc' : Int) (hs' rs' : Nat → Int) (hn : n ≤ 12) (hH : ∀ j, 0 ≤ hs j ∧ hs j ≤ 400) (hR : ∀ j, 0 ≤ rs j ∧ rs j ≤ 200) (hj : j < 6) (hf : pf j = some h0) (hn' : n' ≤ 12) (hH' : ∀ j, 0 ≤ hs' j ∧ hs' j ≤ 400) (hR' : ∀ j, 0 ≤ rs' j ∧ rs' j ≤ 200) (hq : q < 6) (hf2 : pf q = some g0) (ou : Nat) (cL : ClassId) (of : Nat → Int) : Met l yL_unlike (Cond.codeWith yL_unlike cL_unlike 5 (Option.some Jvm.ClassFile.FieldType.int) [((0 : Nat), (10 : Nat), (13 : Nat), (19 : Nat))] :: gw) rh_unlike_0 (PcH [.ref x0, .int (zi ((j : Int))), .int (zi ((q : Int))), .ref ou] (dC, dI) vwCl [(x0, .inr (2, [.ref pa, .int (zi ((pn : Int))), .ref ba, .int (zi ((bn : Int))), .ref ax, .ref ay, .int (zi ((ln : Int))), .ref sp, .ref ss, .int (zi ((sn : Int))), .ref vs, .ref fr])), (pa, .inl (cQ, 6, .inr (.inr (.inr (.inr (pf)))))), (h0, .inr (1, [.ref h1, .ref h2, .int (zi ((n : Int))), .int (zi (th)), .int (zi (wc))])), (h1, .inl (cA, 12, .inl (zA (hs)))), (h2, .inl (cA, 12, .inl (zA (rs)))), (g0, .inr (1, [.ref g1, .ref g2, .int (zi ((n' : Int))), .int (zi (th')), .int (zi (wc'))])), (g1, .inl (cA, 12, .inl (zA (hs')))), (g2, .inl (cA, 12, .inl (zA (rs')))), (ou, .inl (cL, 1, .inr (.inl (zB (of)))))] [(cQ, .object "PotVolumes$Profile"), (cA, .int), (cL, .long)] sz) (NwQ (some (.int (zi (0)))) (dC, dI) vwCl (fun w9 => w9 = [(x0, .inr (2, [.ref pa, .int (zi ((pn : Int))), .ref ba, .int (zi ((bn : Int))), .ref ax, .ref ay, .int (zi ((ln : Int))), .ref sp, .ref ss, .int (zi ((sn : Int))), .ref vs, .ref fr])), (pa, .inl (cQ, 6, .inr (.inr (.inr (.inr (pf)))))), (h0, .inr (1, [.ref h1, .ref h2, .int (zi ((n : Int))), .int (zi (th)), .int (zi (wc))])), (h1, .inl (cA, 12, .inl (zA (hs)))), (h2, .inl (cA, 12, .inl (zA (rs)))), (g0, .inr (1, [.ref g1, .ref g2, .int (zi ((n' : Int))), .int (zi (th')), .int (zi (wc'))])), (g1, .inl (cA, 12, .inl (zA (hs')))), (g2, .inl (cA, 12, .inl (zA (rs')))), (ou, .inl (cL, 1, .inr (.inl (zB (zupd of (0) ((zi ((p_unl (p_radius n hs rs) (p_radius n' hs' rs') 401))).toInt))))))]) (va_A [(x0, .inr (2, [.ref pa, .int (zi ((pn : Int))), .ref ba, .int (zi ((bn : Int))), .ref ax, .ref ay, .int (zi ((ln : Int))), .ref sp, .ref ss, .int (zi ((sn : Int))), .ref vs, .ref fr])), (pa, .inl (cQ, 6, .inr (.inr (.inr (.inr (pf)))))), (h0, .inr (1, [.ref h1, .ref h2, .int (zi ((n : Int))), .int (zi (th)), .int (zi (wc))])), (h1, .inl (cA, 12, .inl (zA (hs)))), (h2, .inl (cA, 12, .inl (zA (rs)))), (g0, .inr (1, [.ref g1, .ref g2, .int (zi ((n' : Int))), .int (zi (th')), .int (zi (wc'))])), (g1, .inl (cA, 12, .inl (zA (hs')))), (g2, .inl (cA, 12, .inl (zA (rs')))), (ou, .inl (cL, 1, .inr (.inl (zB (of)))))] sz)) 0 0 (va_A [(x0, .inr (2, [.ref pa, .int (zi ((pn : Int))), .ref ba, .int (zi ((bn : Int))), .ref ax, .ref ay, .int (zi ((ln : Int))), .ref sp, .ref ss, .int (zi ((sn : Int))), .ref vs, .ref fr])), (pa, .inl (cQ, 6, .inr (.inr (.inr (.inr (pf)))))), (h0, .inr (1, [.ref h1, .ref h2, .int (zi ((n : Int))), .int (zi (th)), .int (zi (wc))])), (h1, .inl (cA, 12, .inl (zA (hs)))), (h2, .inl (cA, 12, .inl (zA (rs)))), (g0, .inr (1, [.ref g1, .ref g2, .int (zi ((n' : Int))), .int (zi (th')), .int (zi (wc'))])), (g1, .inl (cA, 12, .inl (zA (hs')))), (g2, .inl (cA, 12, .inl (zA (rs')))), (ou, .inl (cL, 1, .inr (.inl (zB (of)))))] sz) := by
  refine va_MetW (cc := cL_unlike) (maxL := 5) (ret := (Option.some Jvm.ClassFile.FieldType.int)) (hh := [((0 : Nat), (10 : Nat), (13 : Nat), (19 : Nat))]) (by decide) rfl ?_
  intro p e s m args below meth c s₁ B hml hv
  obtain ⟨hargs, hsz, hP, hK, hD0, hXA⟩ := hv
  have hx := B.exec
  have hb := B.bytes
  have hr := B.returns
  have hts := atoms_spec (ws := Cond.codeWith yL_unlike cL_unlike 5 (Option.some Jvm.ClassFile.FieldType.int) [((0 : Nat), (10 : Nat), (13 : Nat), (19 : Nat))] :: gw) B.pre
  have hg : ∀ w ∈ gw, w.before args s = true := fun w h => hts w (List.mem_cons_of_mem _ h)
  have hown : s.vm.findClass RL = some m.cls := findClass_of_methodNamed B.named
  have hlocks := B.notSynchronized
  have htab := vx_table (x := yL_unlike) B (hts _ List.mem_cons_self)
  subst hsz
  have hD := hD0.self (sz := s.heap.size)
  generalize hAe : va_A [(x0, .inr (2, [.ref pa, .int (zi ((pn : Int))), .ref ba, .int (zi ((bn : Int))), .ref ax, .ref ay, .int (zi ((ln : Int))), .ref sp, .ref ss, .int (zi ((sn : Int))), .ref vs, .ref fr])), (pa, .inl (cQ, 6, .inr (.inr (.inr (.inr (pf)))))), (h0, .inr (1, [.ref h1, .ref h2, .int (zi ((n : Int))), .int (zi (th)), .int (zi (wc))])), (h1, .inl (cA, 12, .inl (zA (hs)))), (h2, .inl (cA, 12, .inl (zA (rs)))), (g0, .inr (1, [.ref g1, .ref g2, .int (zi ((n' : Int))), .int (zi (th')), .int (zi (wc'))])), (g1, .inl (cA, 12, .inl (zA (hs')))), (g2, .inl (cA, 12, .inl (zA (rs')))), (ou, .inl (cL, 1, .inr (.inl (zB (of)))))] s.heap.size = A at hD ⊢
  have hA : ∀ q : Nat, s.heap.size ≤ q → A q := fun q h => by rw [← hAe]; exact Or.inr h
  show W p l e rh_unlike_0 s m args below meth c s.heap [] 0 0 _ _
  have hl := lv_entry ([.ref x0, .int (zi ((j : Int))), .int (zi ((q : Int))), .ref ou]) (n := 5) (Nat.le_of_ble_eq_true rfl)
  rw [show entryFrame m args 5 = entryFrame m ([.ref x0, .int (zi ((j : Int))), .int (zi ((q : Int))), .ref ou] : List Value).toArray 5 by rw [hargs], lg_entry_eq]
  generalize (lg_sl ([.ref x0, .int (zi ((j : Int))), .int (zi ((q : Int))), .ref ou]) ++ List.replicate (5 - (lg_sl ([.ref x0, .int (zi ((j : Int))), .int (zi ((q : Int))), .ref ou])).length) Slot.unset).toArray = ls at hl ⊢
  have hl : lv_has ls 5 [(0, .ref x0), (1, .int (zi ((j : Int)))), (2, .int (zi ((q : Int)))), (3, .ref ou)] := hl
  refine lv_aload_n hx hb dL_unlike_0 rfl (lv_at hl 3 rfl) ?_
  refine lv_iconst (v := zi (0)) hx hb dL_unlike_1 rfl ?_
  refine lv_aload_n hx hb dL_unlike_2 rfl (lv_at hl 0 rfl) ?_
  refine lv_iload_n hx hb dL_unlike_3 rfl (lv_at hl 1 rfl) ?_
  refine lv_iload_n hx hb dL_unlike_4 rfl (lv_at hl 2 rfl) ?_
  obtain ⟨H, hHe⟩ : ∃ H : Heap, H = s.heap := ⟨_, rfl⟩
  obtain ⟨locs, hlc⟩ : ∃ x : List Loc, x = [] := ⟨_, rfl⟩
  have hS : va_S A s.heap H locs := by rw [hHe, hlc]; exact va_S.rf
  have hP : va_P (dC, dI) vwCl [(x0, .inr (2, [.ref pa, .int (zi ((pn : Int))), .ref ba, .int (zi ((bn : Int))), .ref ax, .ref ay, .int (zi ((ln : Int))), .ref sp, .ref ss, .int (zi ((sn : Int))), .ref vs, .ref fr])), (pa, .inl (cQ, 6, .inr (.inr (.inr (.inr (pf)))))), (h0, .inr (1, [.ref h1, .ref h2, .int (zi ((n : Int))), .int (zi (th)), .int (zi (wc))])), (h1, .inl (cA, 12, .inl (zA (hs)))), (h2, .inl (cA, 12, .inl (zA (rs)))), (g0, .inr (1, [.ref g1, .ref g2, .int (zi ((n' : Int))), .int (zi (th')), .int (zi (wc'))])), (g1, .inl (cA, 12, .inl (zA (hs')))), (g2, .inl (cA, 12, .inl (zA (rs')))), (ou, .inl (cL, 1, .inr (.inl (zB (of)))))] H := by rw [hHe]; exact hP
  rw [← hHe, ← hlc]
  refine rdV (As := [.int (zi ((j : Int))), .int (zi ((q : Int)))]) (rest := [.int (zi (0)), .ref ou]) (n := 2) hx hb hml hown hg (c_unlike_d l dC dI x0 pa ba ax ay sp ss vs fr pn bn ln sn cQ pf h0 h1 h2 cA n th wc hs rs j q g0 g1 g2 n' th' wc' hs' rs' hn hH hR hj hf hn' hH' hR' hq hf2) (gwV wl_L_45 wm_X2_unlike we_X2_unlike wi_X2 wc_X2_unlike) rfl rfl (by decide +kernel) ⟨(Nat.le_of_ble_eq_true rfl), (Nat.le_of_ble_eq_true rfl)⟩ (hK.sub [0, 1] rfl) (hP.sub [0, 1, 2, 3, 4, 5, 6, 7] rfl) 0 rfl rfl rfl rfl hl.1 rfl (Nat.le_of_ble_eq_true rfl) dL_unlike_5 ⟨Nat.zero_le _, Nat.zero_le _⟩ ?_
  refine zz_i2lr hx hb dL_unlike_8 ?_
  refine zz_last hx hb hK hP hD hS 8 2 rfl rfl (0) (by omega) (by omega) (by decide) dL_unlike_9 (fun H locs hP hD hS => ?_)
  refine lv_goto (tgt := 17) hx hb dL_unlike_10 (by decide) ?_
  refine lv_iconst (v := zi (0)) hx hb dL_unlike_17 rfl ?_
  exact nw_i hx hb hr hlocks rfl (F := (fun w9 => w9 = [(x0, .inr (2, [.ref pa, .int (zi ((pn : Int))), .ref ba, .int (zi ((bn : Int))), .ref ax, .ref ay, .int (zi ((ln : Int))), .ref sp, .ref ss, .int (zi ((sn : Int))), .ref vs, .ref fr])), (pa, .inl (cQ, 6, .inr (.inr (.inr (.inr (pf)))))), (h0, .inr (1, [.ref h1, .ref h2, .int (zi ((n : Int))), .int (zi (th)), .int (zi (wc))])), (h1, .inl (cA, 12, .inl (zA (hs)))), (h2, .inl (cA, 12, .inl (zA (rs)))), (g0, .inr (1, [.ref g1, .ref g2, .int (zi ((n' : Int))), .int (zi (th')), .int (zi (wc'))])), (g1, .inl (cA, 12, .inl (zA (hs')))), (g2, .inl (cA, 12, .inl (zA (rs')))), (ou, .inl (cL, 1, .inr (.inl (zB (zupd of (0) ((zi ((p_unl (p_radius n hs rs) (p_radius n' hs' rs') 401))).toInt))))))])) rfl hP hD hS dL_unlike_18
abbrev rh_unlike_1 : Room := { frames := 9, cells := 1, slots := 6, locals := 200 }
set_option maxHeartbeats 4000000 in
set_option maxRecDepth 100000 in
theorem h_t_unlike_p (l : Launch) (hl0 : l.stackTraces = false) (dC : Nat → ClassId) (dI : Nat → Nat → Nat) (sz : Nat) (x0 pa ba ax ay sp ss vs fr : Nat) (pn bn ln sn : Nat) (cQ : ClassId) (pf : Nat → Option Nat) (i b : Int) (hi : -2147483648 ≤ i ∧ i < 2147483648) (hbad : i < 0 ∨ 6 ≤ i ∨ pf i.toNat = none) (ou : Nat) (cL : ClassId) (of : Nat → Int) : Met l yL_unlike (Cond.codeWith yL_unlike cL_unlike 5 (Option.some Jvm.ClassFile.FieldType.int) [((0 : Nat), (10 : Nat), (13 : Nat), (19 : Nat))] :: gw) rh_unlike_1 (PcH [.ref x0, .int (zi (i)), .int (zi (b)), .ref ou] (dC, dI) vwCl [(x0, .inr (2, [.ref pa, .int (zi ((pn : Int))), .ref ba, .int (zi ((bn : Int))), .ref ax, .ref ay, .int (zi ((ln : Int))), .ref sp, .ref ss, .int (zi ((sn : Int))), .ref vs, .ref fr])), (pa, .inl (cQ, 6, .inr (.inr (.inr (.inr (pf)))))), (ou, .inl (cL, 1, .inr (.inl (zB (of)))))] [(cQ, .object "PotVolumes$Profile"), (cL, .long)] sz) (NwQ (some (.int (zi (1)))) (dC, dI) vwCl (fun w9 => w9 = [(x0, .inr (2, [.ref pa, .int (zi ((pn : Int))), .ref ba, .int (zi ((bn : Int))), .ref ax, .ref ay, .int (zi ((ln : Int))), .ref sp, .ref ss, .int (zi ((sn : Int))), .ref vs, .ref fr])), (pa, .inl (cQ, 6, .inr (.inr (.inr (.inr (pf)))))), (ou, .inl (cL, 1, .inr (.inl (zB (of)))))]) (va_A [(x0, .inr (2, [.ref pa, .int (zi ((pn : Int))), .ref ba, .int (zi ((bn : Int))), .ref ax, .ref ay, .int (zi ((ln : Int))), .ref sp, .ref ss, .int (zi ((sn : Int))), .ref vs, .ref fr])), (pa, .inl (cQ, 6, .inr (.inr (.inr (.inr (pf)))))), (ou, .inl (cL, 1, .inr (.inl (zB (of)))))] sz)) 1 6 (va_A [(x0, .inr (2, [.ref pa, .int (zi ((pn : Int))), .ref ba, .int (zi ((bn : Int))), .ref ax, .ref ay, .int (zi ((ln : Int))), .ref sp, .ref ss, .int (zi ((sn : Int))), .ref vs, .ref fr])), (pa, .inl (cQ, 6, .inr (.inr (.inr (.inr (pf)))))), (ou, .inl (cL, 1, .inr (.inl (zB (of)))))] sz) := by
  refine va_MetW (cc := cL_unlike) (maxL := 5) (ret := (Option.some Jvm.ClassFile.FieldType.int)) (hh := [((0 : Nat), (10 : Nat), (13 : Nat), (19 : Nat))]) (by decide) rfl ?_
  intro p e s m args below meth c s₁ B hml hv
  obtain ⟨hargs, hsz, hP, hK, hD0, hXA⟩ := hv
  have hx := B.exec
  have hb := B.bytes
  have hr := B.returns
  have hts := atoms_spec (ws := Cond.codeWith yL_unlike cL_unlike 5 (Option.some Jvm.ClassFile.FieldType.int) [((0 : Nat), (10 : Nat), (13 : Nat), (19 : Nat))] :: gw) B.pre
  have hg : ∀ w ∈ gw, w.before args s = true := fun w h => hts w (List.mem_cons_of_mem _ h)
  have hown : s.vm.findClass RL = some m.cls := findClass_of_methodNamed B.named
  have hlocks := B.notSynchronized
  have htab := vx_table (x := yL_unlike) B (hts _ List.mem_cons_self)
  subst hsz
  have hD := hD0.self (sz := s.heap.size)
  generalize hAe : va_A [(x0, .inr (2, [.ref pa, .int (zi ((pn : Int))), .ref ba, .int (zi ((bn : Int))), .ref ax, .ref ay, .int (zi ((ln : Int))), .ref sp, .ref ss, .int (zi ((sn : Int))), .ref vs, .ref fr])), (pa, .inl (cQ, 6, .inr (.inr (.inr (.inr (pf)))))), (ou, .inl (cL, 1, .inr (.inl (zB (of)))))] s.heap.size = A at hD ⊢
  have hA : ∀ q : Nat, s.heap.size ≤ q → A q := fun q h => by rw [← hAe]; exact Or.inr h
  show W p l e rh_unlike_1 s m args below meth c s.heap [] 0 0 _ _
  have hl := lv_entry ([.ref x0, .int (zi (i)), .int (zi (b)), .ref ou]) (n := 5) (Nat.le_of_ble_eq_true rfl)
  rw [show entryFrame m args 5 = entryFrame m ([.ref x0, .int (zi (i)), .int (zi (b)), .ref ou] : List Value).toArray 5 by rw [hargs], lg_entry_eq]
  generalize (lg_sl ([.ref x0, .int (zi (i)), .int (zi (b)), .ref ou]) ++ List.replicate (5 - (lg_sl ([.ref x0, .int (zi (i)), .int (zi (b)), .ref ou])).length) Slot.unset).toArray = ls at hl ⊢
  have hl : lv_has ls 5 [(0, .ref x0), (1, .int (zi (i))), (2, .int (zi (b))), (3, .ref ou)] := hl
  refine lv_aload_n hx hb dL_unlike_0 rfl (lv_at hl 3 rfl) ?_
  refine lv_iconst (v := zi (0)) hx hb dL_unlike_1 rfl ?_
  refine lv_aload_n hx hb dL_unlike_2 rfl (lv_at hl 0 rfl) ?_
  refine lv_iload_n hx hb dL_unlike_3 rfl (lv_at hl 1 rfl) ?_
  refine lv_iload_n hx hb dL_unlike_4 rfl (lv_at hl 2 rfl) ?_
  refine thKV (As := [.int (zi (i)), .int (zi (b))]) (rest := [.int (zi (0)), .ref ou]) (n := 2) hx hb hml hown hg (t_unlike_p l hl0 dC dI x0 pa ba ax ay sp ss vs fr pn bn ln sn cQ pf i b hi hbad) (gwV wl_L_45 wm_X2_unlike we_X2_unlike wi_X2 wc_X2_unlike) rfl rfl (by decide +kernel) ⟨(Nat.le_of_ble_eq_true rfl), (Nat.le_of_ble_eq_true rfl)⟩ (hK.sub [0] rfl) (hP.sub [0, 1] rfl) hXA.1 0 rfl rfl rfl rfl hl.1 rfl (Nat.le_of_ble_eq_true rfl) dL_unlike_5 ⟨(Nat.le_of_ble_eq_true rfl), (Nat.le_of_ble_eq_true rfl)⟩ (fun q9 ce H1 locs1 hcell hcv hcl hS0 => ?_)
  refine vx_catch (E := KI) (name := KI) hown [] ⟨0, 10, 13, 19⟩ [] htab (fun z hz => by cases hz) (by decide) (by decide) (hg _ wl_L_19) (va_Nw.use rfl (hXA.1.1 KI (by decide))) hcell hcv hcl ?_
  refine lv_astore (lv' := [(4, .ref q9), (0, .ref x0), (1, .int (zi (i))), (2, .int (zi (b))), (3, .ref ou)]) hx hb dL_unlike_13 hl (by decide) rfl (fun ls hl => ?_)
  refine lv_iconst (v := zi (1)) hx hb dL_unlike_15 rfl ?_
  exact nw_i hx hb hr hlocks rfl (F := (fun w9 => w9 = [(x0, .inr (2, [.ref pa, .int (zi ((pn : Int))), .ref ba, .int (zi ((bn : Int))), .ref ax, .ref ay, .int (zi ((ln : Int))), .ref sp, .ref ss, .int (zi ((sn : Int))), .ref vs, .ref fr])), (pa, .inl (cQ, 6, .inr (.inr (.inr (.inr (pf)))))), (ou, .inl (cL, 1, .inr (.inl (zB (of)))))])) rfl (thP hP hS0) hD (thS0 hS0) dL_unlike_16
set_option maxHeartbeats 4000000 in
set_option maxRecDepth 100000 in
theorem h_t_unlike_q (l : Launch) (hl0 : l.stackTraces = false) (dC : Nat → ClassId) (dI : Nat → Nat → Nat) (sz : Nat) (x0 pa ba ax ay sp ss vs fr : Nat) (pn bn ln sn : Nat) (cQ : ClassId) (pf : Nat → Option Nat) (h0 h1 h2 : Nat) (cA : ClassId) (n : Nat) (th wc : Int) (hs rs : Nat → Int) (j : Nat) (i : Int) (hn : n ≤ 12) (hH : ∀ j, 0 ≤ hs j ∧ hs j ≤ 400) (hR : ∀ j, 0 ≤ rs j ∧ rs j ≤ 200) (hj : j < 6) (hf : pf j = some h0) (hi : -2147483648 ≤ i ∧ i < 2147483648) (hbad : i < 0 ∨ 6 ≤ i ∨ pf i.toNat = none) (ou : Nat) (cL : ClassId) (of : Nat → Int) : Met l yL_unlike (Cond.codeWith yL_unlike cL_unlike 5 (Option.some Jvm.ClassFile.FieldType.int) [((0 : Nat), (10 : Nat), (13 : Nat), (19 : Nat))] :: gw) rh_unlike_1 (PcH [.ref x0, .int (zi ((j : Int))), .int (zi (i)), .ref ou] (dC, dI) vwCl [(x0, .inr (2, [.ref pa, .int (zi ((pn : Int))), .ref ba, .int (zi ((bn : Int))), .ref ax, .ref ay, .int (zi ((ln : Int))), .ref sp, .ref ss, .int (zi ((sn : Int))), .ref vs, .ref fr])), (pa, .inl (cQ, 6, .inr (.inr (.inr (.inr (pf)))))), (h0, .inr (1, [.ref h1, .ref h2, .int (zi ((n : Int))), .int (zi (th)), .int (zi (wc))])), (h1, .inl (cA, 12, .inl (zA (hs)))), (h2, .inl (cA, 12, .inl (zA (rs)))), (ou, .inl (cL, 1, .inr (.inl (zB (of)))))] [(cQ, .object "PotVolumes$Profile"), (cA, .int), (cL, .long)] sz) (NwQ (some (.int (zi (1)))) (dC, dI) vwCl (fun w9 => w9 = [(x0, .inr (2, [.ref pa, .int (zi ((pn : Int))), .ref ba, .int (zi ((bn : Int))), .ref ax, .ref ay, .int (zi ((ln : Int))), .ref sp, .ref ss, .int (zi ((sn : Int))), .ref vs, .ref fr])), (pa, .inl (cQ, 6, .inr (.inr (.inr (.inr (pf)))))), (h0, .inr (1, [.ref h1, .ref h2, .int (zi ((n : Int))), .int (zi (th)), .int (zi (wc))])), (h1, .inl (cA, 12, .inl (zA (hs)))), (h2, .inl (cA, 12, .inl (zA (rs)))), (ou, .inl (cL, 1, .inr (.inl (zB (of)))))]) (va_A [(x0, .inr (2, [.ref pa, .int (zi ((pn : Int))), .ref ba, .int (zi ((bn : Int))), .ref ax, .ref ay, .int (zi ((ln : Int))), .ref sp, .ref ss, .int (zi ((sn : Int))), .ref vs, .ref fr])), (pa, .inl (cQ, 6, .inr (.inr (.inr (.inr (pf)))))), (h0, .inr (1, [.ref h1, .ref h2, .int (zi ((n : Int))), .int (zi (th)), .int (zi (wc))])), (h1, .inl (cA, 12, .inl (zA (hs)))), (h2, .inl (cA, 12, .inl (zA (rs)))), (ou, .inl (cL, 1, .inr (.inl (zB (of)))))] sz)) 1 6 (va_A [(x0, .inr (2, [.ref pa, .int (zi ((pn : Int))), .ref ba, .int (zi ((bn : Int))), .ref ax, .ref ay, .int (zi ((ln : Int))), .ref sp, .ref ss, .int (zi ((sn : Int))), .ref vs, .ref fr])), (pa, .inl (cQ, 6, .inr (.inr (.inr (.inr (pf)))))), (h0, .inr (1, [.ref h1, .ref h2, .int (zi ((n : Int))), .int (zi (th)), .int (zi (wc))])), (h1, .inl (cA, 12, .inl (zA (hs)))), (h2, .inl (cA, 12, .inl (zA (rs)))), (ou, .inl (cL, 1, .inr (.inl (zB (of)))))] sz) := by
  refine va_MetW (cc := cL_unlike) (maxL := 5) (ret := (Option.some Jvm.ClassFile.FieldType.int)) (hh := [((0 : Nat), (10 : Nat), (13 : Nat), (19 : Nat))]) (by decide) rfl ?_
  intro p e s m args below meth c s₁ B hml hv
  obtain ⟨hargs, hsz, hP, hK, hD0, hXA⟩ := hv
  have hx := B.exec
  have hb := B.bytes
  have hr := B.returns
  have hts := atoms_spec (ws := Cond.codeWith yL_unlike cL_unlike 5 (Option.some Jvm.ClassFile.FieldType.int) [((0 : Nat), (10 : Nat), (13 : Nat), (19 : Nat))] :: gw) B.pre
  have hg : ∀ w ∈ gw, w.before args s = true := fun w h => hts w (List.mem_cons_of_mem _ h)
  have hown : s.vm.findClass RL = some m.cls := findClass_of_methodNamed B.named
  have hlocks := B.notSynchronized
  have htab := vx_table (x := yL_unlike) B (hts _ List.mem_cons_self)
  subst hsz
  have hD := hD0.self (sz := s.heap.size)
  generalize hAe : va_A [(x0, .inr (2, [.ref pa, .int (zi ((pn : Int))), .ref ba, .int (zi ((bn : Int))), .ref ax, .ref ay, .int (zi ((ln : Int))), .ref sp, .ref ss, .int (zi ((sn : Int))), .ref vs, .ref fr])), (pa, .inl (cQ, 6, .inr (.inr (.inr (.inr (pf)))))), (h0, .inr (1, [.ref h1, .ref h2, .int (zi ((n : Int))), .int (zi (th)), .int (zi (wc))])), (h1, .inl (cA, 12, .inl (zA (hs)))), (h2, .inl (cA, 12, .inl (zA (rs)))), (ou, .inl (cL, 1, .inr (.inl (zB (of)))))] s.heap.size = A at hD ⊢
  have hA : ∀ q : Nat, s.heap.size ≤ q → A q := fun q h => by rw [← hAe]; exact Or.inr h
  show W p l e rh_unlike_1 s m args below meth c s.heap [] 0 0 _ _
  have hl := lv_entry ([.ref x0, .int (zi ((j : Int))), .int (zi (i)), .ref ou]) (n := 5) (Nat.le_of_ble_eq_true rfl)
  rw [show entryFrame m args 5 = entryFrame m ([.ref x0, .int (zi ((j : Int))), .int (zi (i)), .ref ou] : List Value).toArray 5 by rw [hargs], lg_entry_eq]
  generalize (lg_sl ([.ref x0, .int (zi ((j : Int))), .int (zi (i)), .ref ou]) ++ List.replicate (5 - (lg_sl ([.ref x0, .int (zi ((j : Int))), .int (zi (i)), .ref ou])).length) Slot.unset).toArray = ls at hl ⊢
  have hl : lv_has ls 5 [(0, .ref x0), (1, .int (zi ((j : Int)))), (2, .int (zi (i))), (3, .ref ou)] := hl
  refine lv_aload_n hx hb dL_unlike_0 rfl (lv_at hl 3 rfl) ?_
  refine lv_iconst (v := zi (0)) hx hb dL_unlike_1 rfl ?_
  refine lv_aload_n hx hb dL_unlike_2 rfl (lv_at hl 0 rfl) ?_
  refine lv_iload_n hx hb dL_unlike_3 rfl (lv_at hl 1 rfl) ?_
  refine lv_iload_n hx hb dL_unlike_4 rfl (lv_at hl 2 rfl) ?_
  refine thKV (As := [.int (zi ((j : Int))), .int (zi (i))]) (rest := [.int (zi (0)), .ref ou]) (n := 2) hx hb hml hown hg (t_unlike_q l hl0 dC dI x0 pa ba ax ay sp ss vs fr pn bn ln sn cQ pf h0 h1 h2 cA n th wc hs rs j i hn hH hR hj hf hi hbad) (gwV wl_L_45 wm_X2_unlike we_X2_unlike wi_X2 wc_X2_unlike) rfl rfl (by decide +kernel) ⟨(Nat.le_of_ble_eq_true rfl), (Nat.le_of_ble_eq_true rfl)⟩ (hK.sub [0, 1] rfl) (hP.sub [0, 1, 2, 3, 4] rfl) hXA.1 0 rfl rfl rfl rfl hl.1 rfl (Nat.le_of_ble_eq_true rfl) dL_unlike_5 ⟨(Nat.le_of_ble_eq_true rfl), (Nat.le_of_ble_eq_true rfl)⟩ (fun q9 ce H1 locs1 hcell hcv hcl hS0 => ?_)
  refine vx_catch (E := KI) (name := KI) hown [] ⟨0, 10, 13, 19⟩ [] htab (fun z hz => by cases hz) (by decide) (by decide) (hg _ wl_L_19) (va_Nw.use rfl (hXA.1.1 KI (by decide))) hcell hcv hcl ?_
  refine lv_astore (lv' := [(4, .ref q9), (0, .ref x0), (1, .int (zi ((j : Int)))), (2, .int (zi (i))), (3, .ref ou)]) hx hb dL_unlike_13 hl (by decide) rfl (fun ls hl => ?_)
  refine lv_iconst (v := zi (1)) hx hb dL_unlike_15 rfl ?_
  exact nw_i hx hb hr hlocks rfl (F := (fun w9 => w9 = [(x0, .inr (2, [.ref pa, .int (zi ((pn : Int))), .ref ba, .int (zi ((bn : Int))), .ref ax, .ref ay, .int (zi ((ln : Int))), .ref sp, .ref ss, .int (zi ((sn : Int))), .ref vs, .ref fr])), (pa, .inl (cQ, 6, .inr (.inr (.inr (.inr (pf)))))), (h0, .inr (1, [.ref h1, .ref h2, .int (zi ((n : Int))), .int (zi (th)), .int (zi (wc))])), (h1, .inl (cA, 12, .inl (zA (hs)))), (h2, .inl (cA, 12, .inl (zA (rs)))), (ou, .inl (cL, 1, .inr (.inl (zB (of)))))])) rfl (thP hP hS0) hD (thS0 hS0) dL_unlike_16
abbrev rh_cut_0 : Room := { frames := 9, cells := 0, slots := 0, locals := 200 }
set_option maxHeartbeats 4000000 in
set_option maxRecDepth 100000 in
theorem h_c_cut_n (l : Launch) (dC : Nat → ClassId) (dI : Nat → Nat → Nat) (sz : Nat) (x0 pa ba ax ay sp ss vs fr : Nat) (pn bn ln sn : Nat) (cQ : ClassId) (pf : Nat → Option Nat) (h0 h1 h2 : Nat) (cA : ClassId) (n : Nat) (th wc : Int) (hs rs : Nat → Int) (j : Nat) (h : Int) (hn : n ≤ 12) (hH : ∀ j, 0 ≤ hs j ∧ hs j ≤ 400) (hR : ∀ j, 0 ≤ rs j ∧ rs j ≤ 200) (hj : j < 6) (hf : pf j = some h0) (hw : wc = 0 ∨ wc = 1) (hh : -2147483648 ≤ h ∧ h < 2147483648) (hy : wc = 1 ∨ n = 0 ∨ h ≤ hs 0 ∨ hs (n - 1) ≤ h) (ou : Nat) (cL : ClassId) (of : Nat → Int) : Met l yL_cut (Cond.codeWith yL_cut cL_cut 5 (Option.some Jvm.ClassFile.FieldType.int) [((0 : Nat), (17 : Nat), (20 : Nat), (19 : Nat))] :: gw) rh_cut_0 (PcH [.ref x0, .int (zi ((j : Int))), .int (zi (h)), .ref ou] (dC, dI) vwCl [(x0, .inr (2, [.ref pa, .int (zi ((pn : Int))), .ref ba, .int (zi ((bn : Int))), .ref ax, .ref ay, .int (zi ((ln : Int))), .ref sp, .ref ss, .int (zi ((sn : Int))), .ref vs, .ref fr])), (pa, .inl (cQ, 6, .inr (.inr (.inr (.inr (pf)))))), (h0, .inr (1, [.ref h1, .ref h2, .int (zi ((n : Int))), .int (zi (th)), .int (zi (wc))])), (h1, .inl (cA, 12, .inl (zA (hs)))), (h2, .inl (cA, 12, .inl (zA (rs)))), (ou, .inl (cL, 1, .inr (.inl (zB (of)))))] [(cQ, .object "PotVolumes$Profile"), (cA, .int), (cL, .long)] sz) (NwQ (some (.int (zi (0)))) (dC, dI) vwCl (fun w9 => w9 = [(x0, .inr (2, [.ref pa, .int (zi ((pn : Int))), .ref ba, .int (zi ((bn : Int))), .ref ax, .ref ay, .int (zi ((ln : Int))), .ref sp, .ref ss, .int (zi ((sn : Int))), .ref vs, .ref fr])), (pa, .inl (cQ, 6, .inr (.inr (.inr (.inr (pf)))))), (h0, .inr (1, [.ref h1, .ref h2, .int (zi ((n : Int))), .int (zi (th)), .int (zi (wc))])), (h1, .inl (cA, 12, .inl (zA (hs)))), (h2, .inl (cA, 12, .inl (zA (rs)))), (ou, .inl (cL, 1, .inr (.inl (zB (zupd of (0) (0))))))]) (va_A [(x0, .inr (2, [.ref pa, .int (zi ((pn : Int))), .ref ba, .int (zi ((bn : Int))), .ref ax, .ref ay, .int (zi ((ln : Int))), .ref sp, .ref ss, .int (zi ((sn : Int))), .ref vs, .ref fr])), (pa, .inl (cQ, 6, .inr (.inr (.inr (.inr (pf)))))), (h0, .inr (1, [.ref h1, .ref h2, .int (zi ((n : Int))), .int (zi (th)), .int (zi (wc))])), (h1, .inl (cA, 12, .inl (zA (hs)))), (h2, .inl (cA, 12, .inl (zA (rs)))), (ou, .inl (cL, 1, .inr (.inl (zB (of)))))] sz)) 0 0 (va_A [(x0, .inr (2, [.ref pa, .int (zi ((pn : Int))), .ref ba, .int (zi ((bn : Int))), .ref ax, .ref ay, .int (zi ((ln : Int))), .ref sp, .ref ss, .int (zi ((sn : Int))), .ref vs, .ref fr])), (pa, .inl (cQ, 6, .inr (.inr (.inr (.inr (pf)))))), (h0, .inr (1, [.ref h1, .ref h2, .int (zi ((n : Int))), .int (zi (th)), .int (zi (wc))])), (h1, .inl (cA, 12, .inl (zA (hs)))), (h2, .inl (cA, 12, .inl (zA (rs)))), (ou, .inl (cL, 1, .inr (.inl (zB (of)))))] sz) := by
  refine va_MetW (cc := cL_cut) (maxL := 5) (ret := (Option.some Jvm.ClassFile.FieldType.int)) (hh := [((0 : Nat), (17 : Nat), (20 : Nat), (19 : Nat))]) (by decide) rfl ?_
  intro p e s m args below meth c s₁ B hml hv
  obtain ⟨hargs, hsz, hP, hK, hD0, hXA⟩ := hv
  have hx := B.exec
  have hb := B.bytes
  have hr := B.returns
  have hts := atoms_spec (ws := Cond.codeWith yL_cut cL_cut 5 (Option.some Jvm.ClassFile.FieldType.int) [((0 : Nat), (17 : Nat), (20 : Nat), (19 : Nat))] :: gw) B.pre
  have hg : ∀ w ∈ gw, w.before args s = true := fun w h => hts w (List.mem_cons_of_mem _ h)
  have hown : s.vm.findClass RL = some m.cls := findClass_of_methodNamed B.named
  have hlocks := B.notSynchronized
  have htab := vx_table (x := yL_cut) B (hts _ List.mem_cons_self)
  subst hsz
  have hD := hD0.self (sz := s.heap.size)
  generalize hAe : va_A [(x0, .inr (2, [.ref pa, .int (zi ((pn : Int))), .ref ba, .int (zi ((bn : Int))), .ref ax, .ref ay, .int (zi ((ln : Int))), .ref sp, .ref ss, .int (zi ((sn : Int))), .ref vs, .ref fr])), (pa, .inl (cQ, 6, .inr (.inr (.inr (.inr (pf)))))), (h0, .inr (1, [.ref h1, .ref h2, .int (zi ((n : Int))), .int (zi (th)), .int (zi (wc))])), (h1, .inl (cA, 12, .inl (zA (hs)))), (h2, .inl (cA, 12, .inl (zA (rs)))), (ou, .inl (cL, 1, .inr (.inl (zB (of)))))] s.heap.size = A at hD ⊢
  have hA : ∀ q : Nat, s.heap.size ≤ q → A q := fun q h => by rw [← hAe]; exact Or.inr h
  show W p l e rh_cut_0 s m args below meth c s.heap [] 0 0 _ _
  have hl := lv_entry ([.ref x0, .int (zi ((j : Int))), .int (zi (h)), .ref ou]) (n := 5) (Nat.le_of_ble_eq_true rfl)
  rw [show entryFrame m args 5 = entryFrame m ([.ref x0, .int (zi ((j : Int))), .int (zi (h)), .ref ou] : List Value).toArray 5 by rw [hargs], lg_entry_eq]
  generalize (lg_sl ([.ref x0, .int (zi ((j : Int))), .int (zi (h)), .ref ou]) ++ List.replicate (5 - (lg_sl ([.ref x0, .int (zi ((j : Int))), .int (zi (h)), .ref ou])).length) Slot.unset).toArray = ls at hl ⊢
  have hl : lv_has ls 5 [(0, .ref x0), (1, .int (zi ((j : Int)))), (2, .int (zi (h))), (3, .ref ou)] := hl
  refine lv_aload_n hx hb dL_cut_0 rfl (lv_at hl 3 rfl) ?_
  refine lv_iconst (v := zi (0)) hx hb dL_cut_1 rfl ?_
  refine lv_aload_n hx hb dL_cut_2 rfl (lv_at hl 0 rfl) ?_
  refine lv_iload_n hx hb dL_cut_3 rfl (lv_at hl 1 rfl) ?_
  refine lv_iload_n hx hb dL_cut_4 rfl (lv_at hl 2 rfl) ?_
  obtain ⟨H, hHe⟩ : ∃ H : Heap, H = s.heap := ⟨_, rfl⟩
  obtain ⟨locs, hlc⟩ : ∃ x : List Loc, x = [] := ⟨_, rfl⟩
  have hS : va_S A s.heap H locs := by rw [hHe, hlc]; exact va_S.rf
  have hP : va_P (dC, dI) vwCl [(x0, .inr (2, [.ref pa, .int (zi ((pn : Int))), .ref ba, .int (zi ((bn : Int))), .ref ax, .ref ay, .int (zi ((ln : Int))), .ref sp, .ref ss, .int (zi ((sn : Int))), .ref vs, .ref fr])), (pa, .inl (cQ, 6, .inr (.inr (.inr (.inr (pf)))))), (h0, .inr (1, [.ref h1, .ref h2, .int (zi ((n : Int))), .int (zi (th)), .int (zi (wc))])), (h1, .inl (cA, 12, .inl (zA (hs)))), (h2, .inl (cA, 12, .inl (zA (rs)))), (ou, .inl (cL, 1, .inr (.inl (zB (of)))))] H := by rw [hHe]; exact hP
  rw [← hHe, ← hlc]
  refine wrV (As := [.int (zi ((j : Int))), .int (zi (h))]) (rest := [.int (zi (0)), .ref ou]) (n := 2) (ws' := [(x0, .inr (2, [.ref pa, .int (zi ((pn : Int))), .ref ba, .int (zi ((bn : Int))), .ref ax, .ref ay, .int (zi ((ln : Int))), .ref sp, .ref ss, .int (zi ((sn : Int))), .ref vs, .ref fr])), (pa, .inl (cQ, 6, .inr (.inr (.inr (.inr (pf)))))), (h0, .inr (1, [.ref h1, .ref h2, .int (zi ((n : Int))), .int (zi (th)), .int (zi (wc))])), (h1, .inl (cA, 12, .inl (zA (hs)))), (h2, .inl (cA, 12, .inl (zA (rs)))), (ou, .inl (cL, 1, .inr (.inl (zB (of)))))]) hx hb hml hown hg (c_cut_n l dC dI H.size x0 pa ba ax ay sp ss vs fr pn bn ln sn cQ pf h0 h1 h2 cA n th wc hs rs j h hn hH hR hj hf hw hh hy) (gwV wl_L_48 wm_X2_cut we_X2_cut wi_X2 wc_X2_cut) rfl rfl (by decide +kernel) ⟨(Nat.le_of_ble_eq_true rfl), (Nat.le_of_ble_eq_true rfl)⟩ (hK.sub [0, 1] rfl) hP hD hS hA [0, 1, 2, 3, 4] rfl (by decide) [(true, 0), (true, 1), (true, 2), (true, 3), (true, 4), (false, 5)] rfl (by decide) rfl 0 rfl rfl rfl rfl hl.1 rfl (Nat.le_of_ble_eq_true rfl) dL_cut_5 ⟨Nat.zero_le _, Nat.zero_le _⟩ (fun H locs hP hD hS => ?_)
  refine zz_if_eq (tgt := 15) hx hb (by decide) dL_cut_8 (by decide) (fun _ => ?_) (fun q => absurd rfl q)
  refine lv_lconst (v := zl (0)) hx hb dL_cut_15 (by decide) ?_
  refine zz_last hx hb hK hP hD hS 5 2 rfl rfl (0) (by omega) (by omega) (by decide) dL_cut_16 (fun H locs hP hD hS => ?_)
  refine lv_goto (tgt := 24) hx hb dL_cut_17 (by decide) ?_
  refine lv_iconst (v := zi (0)) hx hb dL_cut_24 rfl ?_
  exact nw_i hx hb hr hlocks rfl (F := (fun w9 => w9 = [(x0, .inr (2, [.ref pa, .int (zi ((pn : Int))), .ref ba, .int (zi ((bn : Int))), .ref ax, .ref ay, .int (zi ((ln : Int))), .ref sp, .ref ss, .int (zi ((sn : Int))), .ref vs, .ref fr])), (pa, .inl (cQ, 6, .inr (.inr (.inr (.inr (pf)))))), (h0, .inr (1, [.ref h1, .ref h2, .int (zi ((n : Int))), .int (zi (th)), .int (zi (wc))])), (h1, .inl (cA, 12, .inl (zA (hs)))), (h2, .inl (cA, 12, .inl (zA (rs)))), (ou, .inl (cL, 1, .inr (.inl (zB (zupd of (0) (0))))))])) rfl hP hD hS dL_cut_25
set_option maxHeartbeats 4000000 in
set_option maxRecDepth 100000 in
theorem h_c_cut_a (l : Launch) (dC : Nat → ClassId) (dI : Nat → Nat → Nat) (sz : Nat) (x0 pa ba ax ay sp ss vs fr : Nat) (pn bn ln sn : Nat) (cQ : ClassId) (pf : Nat → Option Nat) (h0 h1 h2 : Nat) (cA : ClassId) (n : Nat) (th wc : Int) (hs rs : Nat → Int) (j : Nat) (h : Int) (hn : n ≤ 12) (hH : ∀ j, 0 ≤ hs j ∧ hs j ≤ 400) (hR : ∀ j, 0 ≤ rs j ∧ rs j ≤ 200) (hj : j < 6) (hf : pf j = some h0) (hw : wc = 0 ∨ wc = 1) (hh : -2147483648 ≤ h ∧ h < 2147483648) (hy : wc = 0 ∧ 0 < n ∧ hs 0 < h ∧ h < hs (n - 1)) (hc1 : 0 < p_cu hs h n ∧ p_cu hs h n < 12 ∧ hs (p_cu hs h n - 1) ≠ h) (ou : Nat) (cL : ClassId) (of : Nat → Int) : Met l yL_cut (Cond.codeWith yL_cut cL_cut 5 (Option.some Jvm.ClassFile.FieldType.int) [((0 : Nat), (17 : Nat), (20 : Nat), (19 : Nat))] :: gw) rh_cut_0 (PcH [.ref x0, .int (zi ((j : Int))), .int (zi (h)), .ref ou] (dC, dI) vwCl [(x0, .inr (2, [.ref pa, .int (zi ((pn : Int))), .ref ba, .int (zi ((bn : Int))), .ref ax, .ref ay, .int (zi ((ln : Int))), .ref sp, .ref ss, .int (zi ((sn : Int))), .ref vs, .ref fr])), (pa, .inl (cQ, 6, .inr (.inr (.inr (.inr (pf)))))), (h0, .inr (1, [.ref h1, .ref h2, .int (zi ((n : Int))), .int (zi (th)), .int (zi (wc))])), (h1, .inl (cA, 12, .inl (zA (hs)))), (h2, .inl (cA, 12, .inl (zA (rs)))), (ou, .inl (cL, 1, .inr (.inl (zB (of)))))] [(cQ, .object "PotVolumes$Profile"), (cA, .int), (cL, .long)] sz) (NwQ (some (.int (zi (0)))) (dC, dI) vwCl (fun w9 => w9 = [(x0, .inr (2, [.ref pa, .int (zi ((pn : Int))), .ref ba, .int (zi ((bn : Int))), .ref ax, .ref ay, .int (zi ((ln : Int))), .ref sp, .ref ss, .int (zi ((sn : Int))), .ref vs, .ref fr])), (pa, .inl (cQ, 6, .inr (.inr (.inr (.inr (pf)))))), (h0, .inr (1, [.ref h1, .ref h2, .int (zi (((p_cu hs h n + 1 : Nat) : Int))), .int (zi (th)), .int (zi (1))])), (h1, .inl (cA, 12, .inl (zA (zupd hs (p_cu hs h n) (h))))), (h2, .inl (cA, 12, .inl (zA (zupd rs (p_cu hs h n) (p_radius n hs rs (h)))))), (ou, .inl (cL, 1, .inr (.inl (zB (zupd of (0) (1))))))]) (va_A [(x0, .inr (2, [.ref pa, .int (zi ((pn : Int))), .ref ba, .int (zi ((bn : Int))), .ref ax, .ref ay, .int (zi ((ln : Int))), .ref sp, .ref ss, .int (zi ((sn : Int))), .ref vs, .ref fr])), (pa, .inl (cQ, 6, .inr (.inr (.inr (.inr (pf)))))), (h0, .inr (1, [.ref h1, .ref h2, .int (zi ((n : Int))), .int (zi (th)), .int (zi (wc))])), (h1, .inl (cA, 12, .inl (zA (hs)))), (h2, .inl (cA, 12, .inl (zA (rs)))), (ou, .inl (cL, 1, .inr (.inl (zB (of)))))] sz)) 0 0 (va_A [(x0, .inr (2, [.ref pa, .int (zi ((pn : Int))), .ref ba, .int (zi ((bn : Int))), .ref ax, .ref ay, .int (zi ((ln : Int))), .ref sp, .ref ss, .int (zi ((sn : Int))), .ref vs, .ref fr])), (pa, .inl (cQ, 6, .inr (.inr (.inr (.inr (pf)))))), (h0, .inr (1, [.ref h1, .ref h2, .int (zi ((n : Int))), .int (zi (th)), .int (zi (wc))])), (h1, .inl (cA, 12, .inl (zA (hs)))), (h2, .inl (cA, 12, .inl (zA (rs)))), (ou, .inl (cL, 1, .inr (.inl (zB (of)))))] sz) := by
  refine va_MetW (cc := cL_cut) (maxL := 5) (ret := (Option.some Jvm.ClassFile.FieldType.int)) (hh := [((0 : Nat), (17 : Nat), (20 : Nat), (19 : Nat))]) (by decide) rfl ?_
  intro p e s m args below meth c s₁ B hml hv
  obtain ⟨hargs, hsz, hP, hK, hD0, hXA⟩ := hv
  have hx := B.exec
  have hb := B.bytes
  have hr := B.returns
  have hts := atoms_spec (ws := Cond.codeWith yL_cut cL_cut 5 (Option.some Jvm.ClassFile.FieldType.int) [((0 : Nat), (17 : Nat), (20 : Nat), (19 : Nat))] :: gw) B.pre
  have hg : ∀ w ∈ gw, w.before args s = true := fun w h => hts w (List.mem_cons_of_mem _ h)
  have hown : s.vm.findClass RL = some m.cls := findClass_of_methodNamed B.named
  have hlocks := B.notSynchronized
  have htab := vx_table (x := yL_cut) B (hts _ List.mem_cons_self)
  subst hsz
  have hD := hD0.self (sz := s.heap.size)
  generalize hAe : va_A [(x0, .inr (2, [.ref pa, .int (zi ((pn : Int))), .ref ba, .int (zi ((bn : Int))), .ref ax, .ref ay, .int (zi ((ln : Int))), .ref sp, .ref ss, .int (zi ((sn : Int))), .ref vs, .ref fr])), (pa, .inl (cQ, 6, .inr (.inr (.inr (.inr (pf)))))), (h0, .inr (1, [.ref h1, .ref h2, .int (zi ((n : Int))), .int (zi (th)), .int (zi (wc))])), (h1, .inl (cA, 12, .inl (zA (hs)))), (h2, .inl (cA, 12, .inl (zA (rs)))), (ou, .inl (cL, 1, .inr (.inl (zB (of)))))] s.heap.size = A at hD ⊢
  have hA : ∀ q : Nat, s.heap.size ≤ q → A q := fun q h => by rw [← hAe]; exact Or.inr h
  show W p l e rh_cut_0 s m args below meth c s.heap [] 0 0 _ _
  have hl := lv_entry ([.ref x0, .int (zi ((j : Int))), .int (zi (h)), .ref ou]) (n := 5) (Nat.le_of_ble_eq_true rfl)
  rw [show entryFrame m args 5 = entryFrame m ([.ref x0, .int (zi ((j : Int))), .int (zi (h)), .ref ou] : List Value).toArray 5 by rw [hargs], lg_entry_eq]
  generalize (lg_sl ([.ref x0, .int (zi ((j : Int))), .int (zi (h)), .ref ou]) ++ List.replicate (5 - (lg_sl ([.ref x0, .int (zi ((j : Int))), .int (zi (h)), .ref ou])).length) Slot.unset).toArray = ls at hl ⊢
  have hl : lv_has ls 5 [(0, .ref x0), (1, .int (zi ((j : Int)))), (2, .int (zi (h))), (3, .ref ou)] := hl
  refine lv_aload_n hx hb dL_cut_0 rfl (lv_at hl 3 rfl) ?_
  refine lv_iconst (v := zi (0)) hx hb dL_cut_1 rfl ?_
  refine lv_aload_n hx hb dL_cut_2 rfl (lv_at hl 0 rfl) ?_
  refine lv_iload_n hx hb dL_cut_3 rfl (lv_at hl 1 rfl) ?_
  refine lv_iload_n hx hb dL_cut_4 rfl (lv_at hl 2 rfl) ?_
  obtain ⟨H, hHe⟩ : ∃ H : Heap, H = s.heap := ⟨_, rfl⟩
  obtain ⟨locs, hlc⟩ : ∃ x : List Loc, x = [] := ⟨_, rfl⟩
  have hS : va_S A s.heap H locs := by rw [hHe, hlc]; exact va_S.rf
  have hP : va_P (dC, dI) vwCl [(x0, .inr (2, [.ref pa, .int (zi ((pn : Int))), .ref ba, .int (zi ((bn : Int))), .ref ax, .ref ay, .int (zi ((ln : Int))), .ref sp, .ref ss, .int (zi ((sn : Int))), .ref vs, .ref fr])), (pa, .inl (cQ, 6, .inr (.inr (.inr (.inr (pf)))))), (h0, .inr (1, [.ref h1, .ref h2, .int (zi ((n : Int))), .int (zi (th)), .int (zi (wc))])), (h1, .inl (cA, 12, .inl (zA (hs)))), (h2, .inl (cA, 12, .inl (zA (rs)))), (ou, .inl (cL, 1, .inr (.inl (zB (of)))))] H := by rw [hHe]; exact hP
  rw [← hHe, ← hlc]
  refine wrV (As := [.int (zi ((j : Int))), .int (zi (h))]) (rest := [.int (zi (0)), .ref ou]) (n := 2) (ws' := [(x0, .inr (2, [.ref pa, .int (zi ((pn : Int))), .ref ba, .int (zi ((bn : Int))), .ref ax, .ref ay, .int (zi ((ln : Int))), .ref sp, .ref ss, .int (zi ((sn : Int))), .ref vs, .ref fr])), (pa, .inl (cQ, 6, .inr (.inr (.inr (.inr (pf)))))), (h0, .inr (1, [.ref h1, .ref h2, .int (zi (((p_cu hs h n + 1 : Nat) : Int))), .int (zi (th)), .int (zi (1))])), (h1, .inl (cA, 12, .inl (zA (zupd hs (p_cu hs h n) (h))))), (h2, .inl (cA, 12, .inl (zA (zupd rs (p_cu hs h n) (p_radius n hs rs (h)))))), (ou, .inl (cL, 1, .inr (.inl (zB (of)))))]) hx hb hml hown hg (c_cut_a l dC dI H.size x0 pa ba ax ay sp ss vs fr pn bn ln sn cQ pf h0 h1 h2 cA n th wc hs rs j h hn hH hR hj hf hw hh hy hc1) (gwV wl_L_48 wm_X2_cut we_X2_cut wi_X2 wc_X2_cut) rfl rfl (by decide +kernel) ⟨(Nat.le_of_ble_eq_true rfl), (Nat.le_of_ble_eq_true rfl)⟩ (hK.sub [0, 1] rfl) hP hD hS hA [0, 1, 2, 3, 4] rfl (by decide) [(true, 0), (true, 1), (true, 2), (true, 3), (true, 4), (false, 5)] rfl (by decide) rfl 0 rfl rfl rfl rfl hl.1 rfl (Nat.le_of_ble_eq_true rfl) dL_cut_5 ⟨Nat.zero_le _, Nat.zero_le _⟩ (fun H locs hP hD hS => ?_)
  refine zz_if_eq (tgt := 15) hx hb (by decide) dL_cut_8 (by decide) (fun q => absurd q (by decide)) (fun _ => ?_)
  refine lv_lconst (v := zl (1)) hx hb dL_cut_11 (by decide) ?_
  refine lv_goto (tgt := 16) hx hb dL_cut_12 (by decide) ?_
  refine zz_last hx hb hK hP hD hS 5 2 rfl rfl (0) (by omega) (by omega) (by decide) dL_cut_16 (fun H locs hP hD hS => ?_)
  refine lv_goto (tgt := 24) hx hb dL_cut_17 (by decide) ?_
  refine lv_iconst (v := zi (0)) hx hb dL_cut_24 rfl ?_
  exact nw_i hx hb hr hlocks rfl (F := (fun w9 => w9 = [(x0, .inr (2, [.ref pa, .int (zi ((pn : Int))), .ref ba, .int (zi ((bn : Int))), .ref ax, .ref ay, .int (zi ((ln : Int))), .ref sp, .ref ss, .int (zi ((sn : Int))), .ref vs, .ref fr])), (pa, .inl (cQ, 6, .inr (.inr (.inr (.inr (pf)))))), (h0, .inr (1, [.ref h1, .ref h2, .int (zi (((p_cu hs h n + 1 : Nat) : Int))), .int (zi (th)), .int (zi (1))])), (h1, .inl (cA, 12, .inl (zA (zupd hs (p_cu hs h n) (h))))), (h2, .inl (cA, 12, .inl (zA (zupd rs (p_cu hs h n) (p_radius n hs rs (h)))))), (ou, .inl (cL, 1, .inr (.inl (zB (zupd of (0) (1))))))])) rfl hP hD hS dL_cut_25
set_option maxHeartbeats 4000000 in
set_option maxRecDepth 100000 in
theorem h_c_cut_b (l : Launch) (dC : Nat → ClassId) (dI : Nat → Nat → Nat) (sz : Nat) (x0 pa ba ax ay sp ss vs fr : Nat) (pn bn ln sn : Nat) (cQ : ClassId) (pf : Nat → Option Nat) (h0 h1 h2 : Nat) (cA : ClassId) (n : Nat) (th wc : Int) (hs rs : Nat → Int) (j : Nat) (h : Int) (hn : n ≤ 12) (hH : ∀ j, 0 ≤ hs j ∧ hs j ≤ 400) (hR : ∀ j, 0 ≤ rs j ∧ rs j ≤ 200) (hj : j < 6) (hf : pf j = some h0) (hw : wc = 0 ∨ wc = 1) (hh : -2147483648 ≤ h ∧ h < 2147483648) (hy : wc = 0 ∧ 0 < n ∧ hs 0 < h ∧ h < hs (n - 1)) (hc1 : ¬ (0 < p_cu hs h n ∧ p_cu hs h n < 12 ∧ hs (p_cu hs h n - 1) ≠ h)) (ou : Nat) (cL : ClassId) (of : Nat → Int) : Met l yL_cut (Cond.codeWith yL_cut cL_cut 5 (Option.some Jvm.ClassFile.FieldType.int) [((0 : Nat), (17 : Nat), (20 : Nat), (19 : Nat))] :: gw) rh_cut_0 (PcH [.ref x0, .int (zi ((j : Int))), .int (zi (h)), .ref ou] (dC, dI) vwCl [(x0, .inr (2, [.ref pa, .int (zi ((pn : Int))), .ref ba, .int (zi ((bn : Int))), .ref ax, .ref ay, .int (zi ((ln : Int))), .ref sp, .ref ss, .int (zi ((sn : Int))), .ref vs, .ref fr])), (pa, .inl (cQ, 6, .inr (.inr (.inr (.inr (pf)))))), (h0, .inr (1, [.ref h1, .ref h2, .int (zi ((n : Int))), .int (zi (th)), .int (zi (wc))])), (h1, .inl (cA, 12, .inl (zA (hs)))), (h2, .inl (cA, 12, .inl (zA (rs)))), (ou, .inl (cL, 1, .inr (.inl (zB (of)))))] [(cQ, .object "PotVolumes$Profile"), (cA, .int), (cL, .long)] sz) (NwQ (some (.int (zi (0)))) (dC, dI) vwCl (fun w9 => w9 = [(x0, .inr (2, [.ref pa, .int (zi ((pn : Int))), .ref ba, .int (zi ((bn : Int))), .ref ax, .ref ay, .int (zi ((ln : Int))), .ref sp, .ref ss, .int (zi ((sn : Int))), .ref vs, .ref fr])), (pa, .inl (cQ, 6, .inr (.inr (.inr (.inr (pf)))))), (h0, .inr (1, [.ref h1, .ref h2, .int (zi (((p_cu hs h n : Nat) : Int))), .int (zi (th)), .int (zi (1))])), (h1, .inl (cA, 12, .inl (zA (hs)))), (h2, .inl (cA, 12, .inl (zA (rs)))), (ou, .inl (cL, 1, .inr (.inl (zB (zupd of (0) (1))))))]) (va_A [(x0, .inr (2, [.ref pa, .int (zi ((pn : Int))), .ref ba, .int (zi ((bn : Int))), .ref ax, .ref ay, .int (zi ((ln : Int))), .ref sp, .ref ss, .int (zi ((sn : Int))), .ref vs, .ref fr])), (pa, .inl (cQ, 6, .inr (.inr (.inr (.inr (pf)))))), (h0, .inr (1, [.ref h1, .ref h2, .int (zi ((n : Int))), .int (zi (th)), .int (zi (wc))])), (h1, .inl (cA, 12, .inl (zA (hs)))), (h2, .inl (cA, 12, .inl (zA (rs)))), (ou, .inl (cL, 1, .inr (.inl (zB (of)))))] sz)) 0 0 (va_A [(x0, .inr (2, [.ref pa, .int (zi ((pn : Int))), .ref ba, .int (zi ((bn : Int))), .ref ax, .ref ay, .int (zi ((ln : Int))), .ref sp, .ref ss, .int (zi ((sn : Int))), .ref vs, .ref fr])), (pa, .inl (cQ, 6, .inr (.inr (.inr (.inr (pf)))))), (h0, .inr (1, [.ref h1, .ref h2, .int (zi ((n : Int))), .int (zi (th)), .int (zi (wc))])), (h1, .inl (cA, 12, .inl (zA (hs)))), (h2, .inl (cA, 12, .inl (zA (rs)))), (ou, .inl (cL, 1, .inr (.inl (zB (of)))))] sz) := by
  refine va_MetW (cc := cL_cut) (maxL := 5) (ret := (Option.some Jvm.ClassFile.FieldType.int)) (hh := [((0 : Nat), (17 : Nat), (20 : Nat), (19 : Nat))]) (by decide) rfl ?_
  intro p e s m args below meth c s₁ B hml hv
  obtain ⟨hargs, hsz, hP, hK, hD0, hXA⟩ := hv
  have hx := B.exec
  have hb := B.bytes
  have hr := B.returns
  have hts := atoms_spec (ws := Cond.codeWith yL_cut cL_cut 5 (Option.some Jvm.ClassFile.FieldType.int) [((0 : Nat), (17 : Nat), (20 : Nat), (19 : Nat))] :: gw) B.pre
  have hg : ∀ w ∈ gw, w.before args s = true := fun w h => hts w (List.mem_cons_of_mem _ h)
  have hown : s.vm.findClass RL = some m.cls := findClass_of_methodNamed B.named
  have hlocks := B.notSynchronized
  have htab := vx_table (x := yL_cut) B (hts _ List.mem_cons_self)
  subst hsz
  have hD := hD0.self (sz := s.heap.size)
  generalize hAe : va_A [(x0, .inr (2, [.ref pa, .int (zi ((pn : Int))), .ref ba, .int (zi ((bn : Int))), .ref ax, .ref ay, .int (zi ((ln : Int))), .ref sp, .ref ss, .int (zi ((sn : Int))), .ref vs, .ref fr])), (pa, .inl (cQ, 6, .inr (.inr (.inr (.inr (pf)))))), (h0, .inr (1, [.ref h1, .ref h2, .int (zi ((n : Int))), .int (zi (th)), .int (zi (wc))])), (h1, .inl (cA, 12, .inl (zA (hs)))), (h2, .inl (cA, 12, .inl (zA (rs)))), (ou, .inl (cL, 1, .inr (.inl (zB (of)))))] s.heap.size = A at hD ⊢
  have hA : ∀ q : Nat, s.heap.size ≤ q → A q := fun q h => by rw [← hAe]; exact Or.inr h
  show W p l e rh_cut_0 s m args below meth c s.heap [] 0 0 _ _
  have hl := lv_entry ([.ref x0, .int (zi ((j : Int))), .int (zi (h)), .ref ou]) (n := 5) (Nat.le_of_ble_eq_true rfl)
  rw [show entryFrame m args 5 = entryFrame m ([.ref x0, .int (zi ((j : Int))), .int (zi (h)), .ref ou] : List Value).toArray 5 by rw [hargs], lg_entry_eq]
  generalize (lg_sl ([.ref x0, .int (zi ((j : Int))), .int (zi (h)), .ref ou]) ++ List.replicate (5 - (lg_sl ([.ref x0, .int (zi ((j : Int))), .int (zi (h)), .ref ou])).length) Slot.unset).toArray = ls at hl ⊢
  have hl : lv_has ls 5 [(0, .ref x0), (1, .int (zi ((j : Int)))), (2, .int (zi (h))), (3, .ref ou)] := hl
  refine lv_aload_n hx hb dL_cut_0 rfl (lv_at hl 3 rfl) ?_
  refine lv_iconst (v := zi (0)) hx hb dL_cut_1 rfl ?_
  refine lv_aload_n hx hb dL_cut_2 rfl (lv_at hl 0 rfl) ?_
  refine lv_iload_n hx hb dL_cut_3 rfl (lv_at hl 1 rfl) ?_
  refine lv_iload_n hx hb dL_cut_4 rfl (lv_at hl 2 rfl) ?_
  obtain ⟨H, hHe⟩ : ∃ H : Heap, H = s.heap := ⟨_, rfl⟩
  obtain ⟨locs, hlc⟩ : ∃ x : List Loc, x = [] := ⟨_, rfl⟩
  have hS : va_S A s.heap H locs := by rw [hHe, hlc]; exact va_S.rf
  have hP : va_P (dC, dI) vwCl [(x0, .inr (2, [.ref pa, .int (zi ((pn : Int))), .ref ba, .int (zi ((bn : Int))), .ref ax, .ref ay, .int (zi ((ln : Int))), .ref sp, .ref ss, .int (zi ((sn : Int))), .ref vs, .ref fr])), (pa, .inl (cQ, 6, .inr (.inr (.inr (.inr (pf)))))), (h0, .inr (1, [.ref h1, .ref h2, .int (zi ((n : Int))), .int (zi (th)), .int (zi (wc))])), (h1, .inl (cA, 12, .inl (zA (hs)))), (h2, .inl (cA, 12, .inl (zA (rs)))), (ou, .inl (cL, 1, .inr (.inl (zB (of)))))] H := by rw [hHe]; exact hP
  rw [← hHe, ← hlc]
  refine wrV (As := [.int (zi ((j : Int))), .int (zi (h))]) (rest := [.int (zi (0)), .ref ou]) (n := 2) (ws' := [(x0, .inr (2, [.ref pa, .int (zi ((pn : Int))), .ref ba, .int (zi ((bn : Int))), .ref ax, .ref ay, .int (zi ((ln : Int))), .ref sp, .ref ss, .int (zi ((sn : Int))), .ref vs, .ref fr])), (pa, .inl (cQ, 6, .inr (.inr (.inr (.inr (pf)))))), (h0, .inr (1, [.ref h1, .ref h2, .int (zi (((p_cu hs h n : Nat) : Int))), .int (zi (th)), .int (zi (1))])), (h1, .inl (cA, 12, .inl (zA (hs)))), (h2, .inl (cA, 12, .inl (zA (rs)))), (ou, .inl (cL, 1, .inr (.inl (zB (of)))))]) hx hb hml hown hg (c_cut_b l dC dI H.size x0 pa ba ax ay sp ss vs fr pn bn ln sn cQ pf h0 h1 h2 cA n th wc hs rs j h hn hH hR hj hf hw hh hy hc1) (gwV wl_L_48 wm_X2_cut we_X2_cut wi_X2 wc_X2_cut) rfl rfl (by decide +kernel) ⟨(Nat.le_of_ble_eq_true rfl), (Nat.le_of_ble_eq_true rfl)⟩ (hK.sub [0, 1] rfl) hP hD hS hA [0, 1, 2, 3, 4] rfl (by decide) [(true, 0), (true, 1), (true, 2), (true, 3), (true, 4), (false, 5)] rfl (by decide) rfl 0 rfl rfl rfl rfl hl.1 rfl (Nat.le_of_ble_eq_true rfl) dL_cut_5 ⟨Nat.zero_le _, Nat.zero_le _⟩ (fun H locs hP hD hS => ?_)
  refine zz_if_eq (tgt := 15) hx hb (by decide) dL_cut_8 (by decide) (fun q => absurd q (by decide)) (fun _ => ?_)
  refine lv_lconst (v := zl (1)) hx hb dL_cut_11 (by decide) ?_
  refine lv_goto (tgt := 16) hx hb dL_cut_12 (by decide) ?_
  refine zz_last hx hb hK hP hD hS 5 2 rfl rfl (0) (by omega) (by omega) (by decide) dL_cut_16 (fun H locs hP hD hS => ?_)
  refine lv_goto (tgt := 24) hx hb dL_cut_17 (by decide) ?_
  refine lv_iconst (v := zi (0)) hx hb dL_cut_24 rfl ?_
  exact nw_i hx hb hr hlocks rfl (F := (fun w9 => w9 = [(x0, .inr (2, [.ref pa, .int (zi ((pn : Int))), .ref ba, .int (zi ((bn : Int))), .ref ax, .ref ay, .int (zi ((ln : Int))), .ref sp, .ref ss, .int (zi ((sn : Int))), .ref vs, .ref fr])), (pa, .inl (cQ, 6, .inr (.inr (.inr (.inr (pf)))))), (h0, .inr (1, [.ref h1, .ref h2, .int (zi (((p_cu hs h n : Nat) : Int))), .int (zi (th)), .int (zi (1))])), (h1, .inl (cA, 12, .inl (zA (hs)))), (h2, .inl (cA, 12, .inl (zA (rs)))), (ou, .inl (cL, 1, .inr (.inl (zB (zupd of (0) (1))))))])) rfl hP hD hS dL_cut_25
abbrev rh_cut_1 : Room := { frames := 9, cells := 1, slots := 6, locals := 200 }
set_option maxHeartbeats 4000000 in
set_option maxRecDepth 100000 in
theorem h_t_cut_p (l : Launch) (hl0 : l.stackTraces = false) (dC : Nat → ClassId) (dI : Nat → Nat → Nat) (sz : Nat) (x0 pa ba ax ay sp ss vs fr : Nat) (pn bn ln sn : Nat) (cQ : ClassId) (pf : Nat → Option Nat) (i h : Int) (hi : -2147483648 ≤ i ∧ i < 2147483648) (hbad : i < 0 ∨ 6 ≤ i ∨ pf i.toNat = none) (ou : Nat) (cL : ClassId) (of : Nat → Int) : Met l yL_cut (Cond.codeWith yL_cut cL_cut 5 (Option.some Jvm.ClassFile.FieldType.int) [((0 : Nat), (17 : Nat), (20 : Nat), (19 : Nat))] :: gw) rh_cut_1 (PcH [.ref x0, .int (zi (i)), .int (zi (h)), .ref ou] (dC, dI) vwCl [(x0, .inr (2, [.ref pa, .int (zi ((pn : Int))), .ref ba, .int (zi ((bn : Int))), .ref ax, .ref ay, .int (zi ((ln : Int))), .ref sp, .ref ss, .int (zi ((sn : Int))), .ref vs, .ref fr])), (pa, .inl (cQ, 6, .inr (.inr (.inr (.inr (pf)))))), (ou, .inl (cL, 1, .inr (.inl (zB (of)))))] [(cQ, .object "PotVolumes$Profile"), (cL, .long)] sz) (NwQ (some (.int (zi (1)))) (dC, dI) vwCl (fun w9 => w9 = [(x0, .inr (2, [.ref pa, .int (zi ((pn : Int))), .ref ba, .int (zi ((bn : Int))), .ref ax, .ref ay, .int (zi ((ln : Int))), .ref sp, .ref ss, .int (zi ((sn : Int))), .ref vs, .ref fr])), (pa, .inl (cQ, 6, .inr (.inr (.inr (.inr (pf)))))), (ou, .inl (cL, 1, .inr (.inl (zB (of)))))]) (va_A [(x0, .inr (2, [.ref pa, .int (zi ((pn : Int))), .ref ba, .int (zi ((bn : Int))), .ref ax, .ref ay, .int (zi ((ln : Int))), .ref sp, .ref ss, .int (zi ((sn : Int))), .ref vs, .ref fr])), (pa, .inl (cQ, 6, .inr (.inr (.inr (.inr (pf)))))), (ou, .inl (cL, 1, .inr (.inl (zB (of)))))] sz)) 1 6 (va_A [(x0, .inr (2, [.ref pa, .int (zi ((pn : Int))), .ref ba, .int (zi ((bn : Int))), .ref ax, .ref ay, .int (zi ((ln : Int))), .ref sp, .ref ss, .int (zi ((sn : Int))), .ref vs, .ref fr])), (pa, .inl (cQ, 6, .inr (.inr (.inr (.inr (pf)))))), (ou, .inl (cL, 1, .inr (.inl (zB (of)))))] sz) := by
  refine va_MetW (cc := cL_cut) (maxL := 5) (ret := (Option.some Jvm.ClassFile.FieldType.int)) (hh := [((0 : Nat), (17 : Nat), (20 : Nat), (19 : Nat))]) (by decide) rfl ?_
  intro p e s m args below meth c s₁ B hml hv
  obtain ⟨hargs, hsz, hP, hK, hD0, hXA⟩ := hv
  have hx := B.exec
  have hb := B.bytes
  have hr := B.returns
  have hts := atoms_spec (ws := Cond.codeWith yL_cut cL_cut 5 (Option.some Jvm.ClassFile.FieldType.int) [((0 : Nat), (17 : Nat), (20 : Nat), (19 : Nat))] :: gw) B.pre
  have hg : ∀ w ∈ gw, w.before args s = true := fun w h => hts w (List.mem_cons_of_mem _ h)
  have hown : s.vm.findClass RL = some m.cls := findClass_of_methodNamed B.named
  have hlocks := B.notSynchronized
  have htab := vx_table (x := yL_cut) B (hts _ List.mem_cons_self)
  subst hsz
  have hD := hD0.self (sz := s.heap.size)
  generalize hAe : va_A [(x0, .inr (2, [.ref pa, .int (zi ((pn : Int))), .ref ba, .int (zi ((bn : Int))), .ref ax, .ref ay, .int (zi ((ln : Int))), .ref sp, .ref ss, .int (zi ((sn : Int))), .ref vs, .ref fr])), (pa, .inl (cQ, 6, .inr (.inr (.inr (.inr (pf)))))), (ou, .inl (cL, 1, .inr (.inl (zB (of)))))] s.heap.size = A at hD ⊢
  have hA : ∀ q : Nat, s.heap.size ≤ q → A q := fun q h => by rw [← hAe]; exact Or.inr h
  show W p l e rh_cut_1 s m args below meth c s.heap [] 0 0 _ _
  have hl := lv_entry ([.ref x0, .int (zi (i)), .int (zi (h)), .ref ou]) (n := 5) (Nat.le_of_ble_eq_true rfl)
  rw [show entryFrame m args 5 = entryFrame m ([.ref x0, .int (zi (i)), .int (zi (h)), .ref ou] : List Value).toArray 5 by rw [hargs], lg_entry_eq]
  generalize (lg_sl ([.ref x0, .int (zi (i)), .int (zi (h)), .ref ou]) ++ List.replicate (5 - (lg_sl ([.ref x0, .int (zi (i)), .int (zi (h)), .ref ou])).length) Slot.unset).toArray = ls at hl ⊢
  have hl : lv_has ls 5 [(0, .ref x0), (1, .int (zi (i))), (2, .int (zi (h))), (3, .ref ou)] := hl
  refine lv_aload_n hx hb dL_cut_0 rfl (lv_at hl 3 rfl) ?_
  refine lv_iconst (v := zi (0)) hx hb dL_cut_1 rfl ?_
  refine lv_aload_n hx hb dL_cut_2 rfl (lv_at hl 0 rfl) ?_
  refine lv_iload_n hx hb dL_cut_3 rfl (lv_at hl 1 rfl) ?_
  refine lv_iload_n hx hb dL_cut_4 rfl (lv_at hl 2 rfl) ?_
  refine thKV (As := [.int (zi (i)), .int (zi (h))]) (rest := [.int (zi (0)), .ref ou]) (n := 2) hx hb hml hown hg (t_cut_p l hl0 dC dI x0 pa ba ax ay sp ss vs fr pn bn ln sn cQ pf i h hi hbad) (gwV wl_L_48 wm_X2_cut we_X2_cut wi_X2 wc_X2_cut) rfl rfl (by decide +kernel) ⟨(Nat.le_of_ble_eq_true rfl), (Nat.le_of_ble_eq_true rfl)⟩ (hK.sub [0] rfl) (hP.sub [0, 1] rfl) hXA.1 0 rfl rfl rfl rfl hl.1 rfl (Nat.le_of_ble_eq_true rfl) dL_cut_5 ⟨(Nat.le_of_ble_eq_true rfl), (Nat.le_of_ble_eq_true rfl)⟩ (fun q9 ce H1 locs1 hcell hcv hcl hS0 => ?_)
  refine vx_catch (E := KI) (name := KI) hown [] ⟨0, 17, 20, 19⟩ [] htab (fun z hz => by cases hz) (by decide) (by decide) (hg _ wl_L_19) (va_Nw.use rfl (hXA.1.1 KI (by decide))) hcell hcv hcl ?_
  refine lv_astore (lv' := [(4, .ref q9), (0, .ref x0), (1, .int (zi (i))), (2, .int (zi (h))), (3, .ref ou)]) hx hb dL_cut_20 hl (by decide) rfl (fun ls hl => ?_)
  refine lv_iconst (v := zi (1)) hx hb dL_cut_22 rfl ?_
  exact nw_i hx hb hr hlocks rfl (F := (fun w9 => w9 = [(x0, .inr (2, [.ref pa, .int (zi ((pn : Int))), .ref ba, .int (zi ((bn : Int))), .ref ax, .ref ay, .int (zi ((ln : Int))), .ref sp, .ref ss, .int (zi ((sn : Int))), .ref vs, .ref fr])), (pa, .inl (cQ, 6, .inr (.inr (.inr (.inr (pf)))))), (ou, .inl (cL, 1, .inr (.inl (zB (of)))))])) rfl (thP hP hS0) hD (thS0 hS0) dL_cut_23
