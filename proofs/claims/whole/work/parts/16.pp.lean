def p_at (n : Nat) (hs rs : Nat → Int) (k what : Int) : Int := if k = -1 then (n : Int) else if what = 0 then hs k.toNat else rs k.toNat
def p_small (x : Nat × Nat) : Prop := 0 < x.2 ∧ x.2 < 29000000000 ∧ x.1 ≤ 20000000 * x.2
def p_unl (ra rb : Int → Int) : Nat → Int
  | 0 => 0
  | k + 1 => p_unl ra rb k + ((max 0 (ra (k : Int)) - max 0 (rb (k : Int))).natAbs : Int)
theorem p_unl_bd {ra rb : Int → Int} (h1 : ∀ k, -1 ≤ ra k ∧ ra k ≤ 200) (h2 : ∀ k, -1 ≤ rb k ∧ rb k ≤ 200) (k : Nat) : 0 ≤ p_unl ra rb k ∧ p_unl ra rb k ≤ 200 * k := by
  induction k with
  | zero => exact ⟨Int.le_refl _, by simp [p_unl]⟩
  | succ k ih =>
    have a := h1 (k : Int)
    have b := h2 (k : Int)
    unfold p_unl
    omega
def p_drw (n : Nat) (rs : Nat → Int) (k : Int) : Int := if k < n then (n : Int) - 1 - k else p_fo rs (k - n) n 0 0
def p_drawn (n : Nat) (hs rs : Nat → Int) (k what : Int) : Int := if k = -1 then (n : Int) + (p_co rs n : Nat) else if what = 1 then hs (p_drw n rs k).toNat else if k < n then -rs (p_drw n rs k).toNat else rs (p_drw n rs k).toNat
abbrev rt_X2_corner : Room := { frames := 8, cells := 1, slots := 6, locals := 140 }
set_option maxHeartbeats 4000000 in
set_option maxRecDepth 100000 in
theorem t_corner_p (l : Launch) (hl0 : l.stackTraces = false) (dC : Nat → ClassId) (dI : Nat → Nat → Nat) (x0 pa ba ax ay sp ss vs fr : Nat) (pn bn ln sn : Nat)(cQ : ClassId) (pf : Nat → Option Nat) (i h r : Int) (hi : -2147483648 ≤ i ∧ i < 2147483648) (hbad : i < 0 ∨ 6 ≤ i ∨ pf i.toNat = none) : ThM l yX2_corner cX2_corner 5 ((Option.some Jvm.ClassFile.FieldType.boolean)) rt_X2_corner (PcT [.ref x0, .int (zi (i)), .int (zi (h)), .int (zi (r))] (dC, dI) vwCl [(x0, .inr (2, [.ref pa, .int (zi ((pn : Int))), .ref ba, .int (zi ((bn : Int))), .ref ax, .ref ay, .int (zi ((ln : Int))), .ref sp, .ref ss, .int (zi ((sn : Int))), .ref vs, .ref fr])), (pa, .inl (cQ, 6, .inr (.inr (.inr (.inr (pf))))))] [(cQ, .object "PotVolumes$Profile")]) KI := by
  refine vx_ofW (cc := cX2_corner) (maxL := 5) (ret := ((Option.some Jvm.ClassFile.FieldType.boolean))) (by decide) rfl ?_
  intro p e s m args below meth c s₁ B hml hno hv
  obtain ⟨hargs, hP, hK, hE⟩ := hv
  have hx := B.exec
  have hb := B.bytes
  have hr := B.returns
  have hts := atoms_spec (ws := Cond.code yX2_corner cX2_corner 5 ((Option.some Jvm.ClassFile.FieldType.boolean)) :: gw) B.pre
  have hg : ∀ w ∈ gw, w.before args s = true := fun w h => hts w (List.mem_cons_of_mem _ h)
  have hown : s.vm.findClass RX2 = some m.cls := findClass_of_methodNamed B.named
  have hlocks := B.notSynchronized
  show W p l e rt_X2_corner s m args below meth c s.heap [] 0 0 _ _
  have hl := lv_entry ([.ref x0, .int (zi (i)), .int (zi (h)), .int (zi (r))]) (n := 5) (Nat.le_of_ble_eq_true rfl)
  rw [show entryFrame m args 5 = entryFrame m ([.ref x0, .int (zi (i)), .int (zi (h)), .int (zi (r))] : List Value).toArray 5 by rw [hargs], lg_entry_eq]
  generalize (lg_sl ([.ref x0, .int (zi (i)), .int (zi (h)), .int (zi (r))]) ++ List.replicate (5 - (lg_sl ([.ref x0, .int (zi (i)), .int (zi (h)), .int (zi (r))])).length) Slot.unset).toArray = ls at hl ⊢
  have hl : lv_has ls 5 [(0, .ref x0), (1, .int (zi (i))), (2, .int (zi (h))), (3, .int (zi (r)))] := hl
  obtain ⟨QQ, hQQ⟩ : ∃ Q, Q = vx_MQ below QF (XK KI) args s 1 6 (fun _ => False) := ⟨_, rfl⟩
  rw [← hQQ]
  refine lv_aload_n hx hb dX2_corner_0 rfl (lv_at hl 0 rfl) ?_
  refine lv_iload_n hx hb dX2_corner_1 rfl (lv_at hl 1 rfl) ?_
  rw [hQQ]
  exact thV (As := [.int (zi (i))]) (rest := []) (n := 1) hx hb hml hown hg (t_X2_profileOf l hl0 dC dI x0 pa ba ax ay sp ss vs fr pn bn ln sn cQ pf (i) hi hbad) (gwV wl_X2_53 wm_X2_profileOf we_X2_profileOf wi_X2 wc_X2_profileOf) rfl rfl (by decide +kernel) ⟨Nat.le_of_ble_eq_true rfl, Nat.le_of_ble_eq_true rfl⟩ (hK.sub [0] rfl) (hP.sub [0, 1] rfl) hE 0 rfl rfl rfl rfl hl.1 rfl (Nat.le_of_ble_eq_true rfl) dX2_corner_2 ⟨Nat.le_of_ble_eq_true rfl, Nat.le_of_ble_eq_true rfl⟩ hno hlocks

abbrev rt_X2_at : Room := { frames := 8, cells := 1, slots := 6, locals := 140 }
set_option maxHeartbeats 4000000 in
set_option maxRecDepth 100000 in
theorem t_at_p (l : Launch) (hl0 : l.stackTraces = false) (dC : Nat → ClassId) (dI : Nat → Nat → Nat) (x0 pa ba ax ay sp ss vs fr : Nat) (pn bn ln sn : Nat)(cQ : ClassId) (pf : Nat → Option Nat) (i k what : Int) (hi : -2147483648 ≤ i ∧ i < 2147483648) (hbad : i < 0 ∨ 6 ≤ i ∨ pf i.toNat = none) : ThM l yX2_at cX2_at 5 ((Option.some Jvm.ClassFile.FieldType.int)) rt_X2_at (PcT [.ref x0, .int (zi (i)), .int (zi (k)), .int (zi (what))] (dC, dI) vwCl [(x0, .inr (2, [.ref pa, .int (zi ((pn : Int))), .ref ba, .int (zi ((bn : Int))), .ref ax, .ref ay, .int (zi ((ln : Int))), .ref sp, .ref ss, .int (zi ((sn : Int))), .ref vs, .ref fr])), (pa, .inl (cQ, 6, .inr (.inr (.inr (.inr (pf))))))] [(cQ, .object "PotVolumes$Profile")]) KI := by
  refine vx_ofW (cc := cX2_at) (maxL := 5) (ret := ((Option.some Jvm.ClassFile.FieldType.int))) (by decide) rfl ?_
  intro p e s m args below meth c s₁ B hml hno hv
  obtain ⟨hargs, hP, hK, hE⟩ := hv
  have hx := B.exec
  have hb := B.bytes
  have hr := B.returns
  have hts := atoms_spec (ws := Cond.code yX2_at cX2_at 5 ((Option.some Jvm.ClassFile.FieldType.int)) :: gw) B.pre
  have hg : ∀ w ∈ gw, w.before args s = true := fun w h => hts w (List.mem_cons_of_mem _ h)
  have hown : s.vm.findClass RX2 = some m.cls := findClass_of_methodNamed B.named
  have hlocks := B.notSynchronized
  show W p l e rt_X2_at s m args below meth c s.heap [] 0 0 _ _
  have hl := lv_entry ([.ref x0, .int (zi (i)), .int (zi (k)), .int (zi (what))]) (n := 5) (Nat.le_of_ble_eq_true rfl)
  rw [show entryFrame m args 5 = entryFrame m ([.ref x0, .int (zi (i)), .int (zi (k)), .int (zi (what))] : List Value).toArray 5 by rw [hargs], lg_entry_eq]
  generalize (lg_sl ([.ref x0, .int (zi (i)), .int (zi (k)), .int (zi (what))]) ++ List.replicate (5 - (lg_sl ([.ref x0, .int (zi (i)), .int (zi (k)), .int (zi (what))])).length) Slot.unset).toArray = ls at hl ⊢
  have hl : lv_has ls 5 [(0, .ref x0), (1, .int (zi (i))), (2, .int (zi (k))), (3, .int (zi (what)))] := hl
  obtain ⟨QQ, hQQ⟩ : ∃ Q, Q = vx_MQ below QF (XK KI) args s 1 6 (fun _ => False) := ⟨_, rfl⟩
  rw [← hQQ]
  refine lv_aload_n hx hb dX2_at_0 rfl (lv_at hl 0 rfl) ?_
  refine lv_iload_n hx hb dX2_at_1 rfl (lv_at hl 1 rfl) ?_
  rw [hQQ]
  exact thV (As := [.int (zi (i))]) (rest := []) (n := 1) hx hb hml hown hg (t_X2_profileOf l hl0 dC dI x0 pa ba ax ay sp ss vs fr pn bn ln sn cQ pf (i) hi hbad) (gwV wl_X2_53 wm_X2_profileOf we_X2_profileOf wi_X2 wc_X2_profileOf) rfl rfl (by decide +kernel) ⟨Nat.le_of_ble_eq_true rfl, Nat.le_of_ble_eq_true rfl⟩ (hK.sub [0] rfl) (hP.sub [0, 1] rfl) hE 0 rfl rfl rfl rfl hl.1 rfl (Nat.le_of_ble_eq_true rfl) dX2_at_2 ⟨Nat.le_of_ble_eq_true rfl, Nat.le_of_ble_eq_true rfl⟩ hno hlocks

abbrev rt_X2_radius : Room := { frames := 8, cells := 1, slots := 6, locals := 140 }
set_option maxHeartbeats 4000000 in
set_option maxRecDepth 100000 in
theorem t_radius_p (l : Launch) (hl0 : l.stackTraces = false) (dC : Nat → ClassId) (dI : Nat → Nat → Nat) (x0 pa ba ax ay sp ss vs fr : Nat) (pn bn ln sn : Nat)(cQ : ClassId) (pf : Nat → Option Nat) (i h : Int) (hi : -2147483648 ≤ i ∧ i < 2147483648) (hbad : i < 0 ∨ 6 ≤ i ∨ pf i.toNat = none) : ThM l yX2_radius cX2_radius 3 ((Option.some Jvm.ClassFile.FieldType.int)) rt_X2_radius (PcT [.ref x0, .int (zi (i)), .int (zi (h))] (dC, dI) vwCl [(x0, .inr (2, [.ref pa, .int (zi ((pn : Int))), .ref ba, .int (zi ((bn : Int))), .ref ax, .ref ay, .int (zi ((ln : Int))), .ref sp, .ref ss, .int (zi ((sn : Int))), .ref vs, .ref fr])), (pa, .inl (cQ, 6, .inr (.inr (.inr (.inr (pf))))))] [(cQ, .object "PotVolumes$Profile")]) KI := by
  refine vx_ofW (cc := cX2_radius) (maxL := 3) (ret := ((Option.some Jvm.ClassFile.FieldType.int))) (by decide) rfl ?_
  intro p e s m args below meth c s₁ B hml hno hv
  obtain ⟨hargs, hP, hK, hE⟩ := hv
  have hx := B.exec
  have hb := B.bytes
  have hr := B.returns
  have hts := atoms_spec (ws := Cond.code yX2_radius cX2_radius 3 ((Option.some Jvm.ClassFile.FieldType.int)) :: gw) B.pre
  have hg : ∀ w ∈ gw, w.before args s = true := fun w h => hts w (List.mem_cons_of_mem _ h)
  have hown : s.vm.findClass RX2 = some m.cls := findClass_of_methodNamed B.named
  have hlocks := B.notSynchronized
  show W p l e rt_X2_radius s m args below meth c s.heap [] 0 0 _ _
  have hl := lv_entry ([.ref x0, .int (zi (i)), .int (zi (h))]) (n := 3) (Nat.le_of_ble_eq_true rfl)
  rw [show entryFrame m args 3 = entryFrame m ([.ref x0, .int (zi (i)), .int (zi (h))] : List Value).toArray 3 by rw [hargs], lg_entry_eq]
  generalize (lg_sl ([.ref x0, .int (zi (i)), .int (zi (h))]) ++ List.replicate (3 - (lg_sl ([.ref x0, .int (zi (i)), .int (zi (h))])).length) Slot.unset).toArray = ls at hl ⊢
  have hl : lv_has ls 3 [(0, .ref x0), (1, .int (zi (i))), (2, .int (zi (h)))] := hl
  obtain ⟨QQ, hQQ⟩ : ∃ Q, Q = vx_MQ below QF (XK KI) args s 1 6 (fun _ => False) := ⟨_, rfl⟩
  rw [← hQQ]
  refine lv_aload_n hx hb dX2_radius_0 rfl (lv_at hl 0 rfl) ?_
  refine lv_iload_n hx hb dX2_radius_1 rfl (lv_at hl 1 rfl) ?_
  rw [hQQ]
  exact thV (As := [.int (zi (i))]) (rest := []) (n := 1) hx hb hml hown hg (t_X2_profileOf l hl0 dC dI x0 pa ba ax ay sp ss vs fr pn bn ln sn cQ pf (i) hi hbad) (gwV wl_X2_53 wm_X2_profileOf we_X2_profileOf wi_X2 wc_X2_profileOf) rfl rfl (by decide +kernel) ⟨Nat.le_of_ble_eq_true rfl, Nat.le_of_ble_eq_true rfl⟩ (hK.sub [0] rfl) (hP.sub [0, 1] rfl) hE 0 rfl rfl rfl rfl hl.1 rfl (Nat.le_of_ble_eq_true rfl) dX2_radius_2 ⟨Nat.le_of_ble_eq_true rfl, Nat.le_of_ble_eq_true rfl⟩ hno hlocks

abbrev rt_X2_volume : Room := { frames := 8, cells := 1, slots := 6, locals := 140 }
set_option maxHeartbeats 4000000 in
set_option maxRecDepth 100000 in
theorem t_volume_p (l : Launch) (hl0 : l.stackTraces = false) (dC : Nat → ClassId) (dI : Nat → Nat → Nat) (x0 pa ba ax ay sp ss vs fr : Nat) (pn bn ln sn : Nat)(cQ : ClassId) (pf : Nat → Option Nat) (i h part : Int) (hi : -2147483648 ≤ i ∧ i < 2147483648) (hbad : i < 0 ∨ 6 ≤ i ∨ pf i.toNat = none) : ThM l yX2_volume cX2_volume 5 ((Option.some Jvm.ClassFile.FieldType.long)) rt_X2_volume (PcT [.ref x0, .int (zi (i)), .int (zi (h)), .int (zi (part))] (dC, dI) vwCl [(x0, .inr (2, [.ref pa, .int (zi ((pn : Int))), .ref ba, .int (zi ((bn : Int))), .ref ax, .ref ay, .int (zi ((ln : Int))), .ref sp, .ref ss, .int (zi ((sn : Int))), .ref vs, .ref fr])), (pa, .inl (cQ, 6, .inr (.inr (.inr (.inr (pf))))))] [(cQ, .object "PotVolumes$Profile")]) KI := by
  refine vx_ofW (cc := cX2_volume) (maxL := 5) (ret := ((Option.some Jvm.ClassFile.FieldType.long))) (by decide) rfl ?_
  intro p e s m args below meth c s₁ B hml hno hv
  obtain ⟨hargs, hP, hK, hE⟩ := hv
  have hx := B.exec
  have hb := B.bytes
  have hr := B.returns
  have hts := atoms_spec (ws := Cond.code yX2_volume cX2_volume 5 ((Option.some Jvm.ClassFile.FieldType.long)) :: gw) B.pre
  have hg : ∀ w ∈ gw, w.before args s = true := fun w h => hts w (List.mem_cons_of_mem _ h)
  have hown : s.vm.findClass RX2 = some m.cls := findClass_of_methodNamed B.named
  have hlocks := B.notSynchronized
  show W p l e rt_X2_volume s m args below meth c s.heap [] 0 0 _ _
  have hl := lv_entry ([.ref x0, .int (zi (i)), .int (zi (h)), .int (zi (part))]) (n := 5) (Nat.le_of_ble_eq_true rfl)
  rw [show entryFrame m args 5 = entryFrame m ([.ref x0, .int (zi (i)), .int (zi (h)), .int (zi (part))] : List Value).toArray 5 by rw [hargs], lg_entry_eq]
  generalize (lg_sl ([.ref x0, .int (zi (i)), .int (zi (h)), .int (zi (part))]) ++ List.replicate (5 - (lg_sl ([.ref x0, .int (zi (i)), .int (zi (h)), .int (zi (part))])).length) Slot.unset).toArray = ls at hl ⊢
  have hl : lv_has ls 5 [(0, .ref x0), (1, .int (zi (i))), (2, .int (zi (h))), (3, .int (zi (part)))] := hl
  obtain ⟨QQ, hQQ⟩ : ∃ Q, Q = vx_MQ below QF (XK KI) args s 1 6 (fun _ => False) := ⟨_, rfl⟩
  rw [← hQQ]
  refine lv_aload_n hx hb dX2_volume_0 rfl (lv_at hl 0 rfl) ?_
  refine lv_iload_n hx hb dX2_volume_1 rfl (lv_at hl 1 rfl) ?_
  rw [hQQ]
  exact thV (As := [.int (zi (i))]) (rest := []) (n := 1) hx hb hml hown hg (t_X2_profileOf l hl0 dC dI x0 pa ba ax ay sp ss vs fr pn bn ln sn cQ pf (i) hi hbad) (gwV wl_X2_53 wm_X2_profileOf we_X2_profileOf wi_X2 wc_X2_profileOf) rfl rfl (by decide +kernel) ⟨Nat.le_of_ble_eq_true rfl, Nat.le_of_ble_eq_true rfl⟩ (hK.sub [0] rfl) (hP.sub [0, 1] rfl) hE 0 rfl rfl rfl rfl hl.1 rfl (Nat.le_of_ble_eq_true rfl) dX2_volume_2 ⟨Nat.le_of_ble_eq_true rfl, Nat.le_of_ble_eq_true rfl⟩ hno hlocks

abbrev rt_X2_holds : Room := { frames := 8, cells := 1, slots := 6, locals := 140 }
set_option maxHeartbeats 4000000 in
set_option maxRecDepth 100000 in
theorem t_holds_p (l : Launch) (hl0 : l.stackTraces = false) (dC : Nat → ClassId) (dI : Nat → Nat → Nat) (x0 pa ba ax ay sp ss vs fr : Nat) (pn bn ln sn : Nat)(cQ : ClassId) (pf : Nat → Option Nat) (i h part : Int) (hi : -2147483648 ≤ i ∧ i < 2147483648) (hbad : i < 0 ∨ 6 ≤ i ∨ pf i.toNat = none) : ThM l yX2_holds cX2_holds 5 ((Option.some Jvm.ClassFile.FieldType.long)) rt_X2_holds (PcT [.ref x0, .int (zi (i)), .int (zi (h)), .int (zi (part))] (dC, dI) vwCl [(x0, .inr (2, [.ref pa, .int (zi ((pn : Int))), .ref ba, .int (zi ((bn : Int))), .ref ax, .ref ay, .int (zi ((ln : Int))), .ref sp, .ref ss, .int (zi ((sn : Int))), .ref vs, .ref fr])), (pa, .inl (cQ, 6, .inr (.inr (.inr (.inr (pf))))))] [(cQ, .object "PotVolumes$Profile")]) KI := by
  refine vx_ofW (cc := cX2_holds) (maxL := 5) (ret := ((Option.some Jvm.ClassFile.FieldType.long))) (by decide) rfl ?_
  intro p e s m args below meth c s₁ B hml hno hv
  obtain ⟨hargs, hP, hK, hE⟩ := hv
  have hx := B.exec
  have hb := B.bytes
  have hr := B.returns
  have hts := atoms_spec (ws := Cond.code yX2_holds cX2_holds 5 ((Option.some Jvm.ClassFile.FieldType.long)) :: gw) B.pre
  have hg : ∀ w ∈ gw, w.before args s = true := fun w h => hts w (List.mem_cons_of_mem _ h)
  have hown : s.vm.findClass RX2 = some m.cls := findClass_of_methodNamed B.named
  have hlocks := B.notSynchronized
  show W p l e rt_X2_holds s m args below meth c s.heap [] 0 0 _ _
  have hl := lv_entry ([.ref x0, .int (zi (i)), .int (zi (h)), .int (zi (part))]) (n := 5) (Nat.le_of_ble_eq_true rfl)
  rw [show entryFrame m args 5 = entryFrame m ([.ref x0, .int (zi (i)), .int (zi (h)), .int (zi (part))] : List Value).toArray 5 by rw [hargs], lg_entry_eq]
  generalize (lg_sl ([.ref x0, .int (zi (i)), .int (zi (h)), .int (zi (part))]) ++ List.replicate (5 - (lg_sl ([.ref x0, .int (zi (i)), .int (zi (h)), .int (zi (part))])).length) Slot.unset).toArray = ls at hl ⊢
  have hl : lv_has ls 5 [(0, .ref x0), (1, .int (zi (i))), (2, .int (zi (h))), (3, .int (zi (part)))] := hl
  obtain ⟨QQ, hQQ⟩ : ∃ Q, Q = vx_MQ below QF (XK KI) args s 1 6 (fun _ => False) := ⟨_, rfl⟩
  rw [← hQQ]
  refine lv_aload_n hx hb dX2_holds_0 rfl (lv_at hl 0 rfl) ?_
  refine lv_iload_n hx hb dX2_holds_1 rfl (lv_at hl 1 rfl) ?_
  rw [hQQ]
  exact thV (As := [.int (zi (i))]) (rest := []) (n := 1) hx hb hml hown hg (t_X2_profileOf l hl0 dC dI x0 pa ba ax ay sp ss vs fr pn bn ln sn cQ pf (i) hi hbad) (gwV wl_X2_53 wm_X2_profileOf we_X2_profileOf wi_X2 wc_X2_profileOf) rfl rfl (by decide +kernel) ⟨Nat.le_of_ble_eq_true rfl, Nat.le_of_ble_eq_true rfl⟩ (hK.sub [0] rfl) (hP.sub [0, 1] rfl) hE 0 rfl rfl rfl rfl hl.1 rfl (Nat.le_of_ble_eq_true rfl) dX2_holds_2 ⟨Nat.le_of_ble_eq_true rfl, Nat.le_of_ble_eq_true rfl⟩ hno hlocks

abbrev rt_X2_enclosed : Room := { frames := 8, cells := 1, slots := 6, locals := 140 }
set_option maxHeartbeats 4000000 in
set_option maxRecDepth 100000 in
theorem t_enclosed_p (l : Launch) (hl0 : l.stackTraces = false) (dC : Nat → ClassId) (dI : Nat → Nat → Nat) (x0 pa ba ax ay sp ss vs fr : Nat) (pn bn ln sn : Nat)(cQ : ClassId) (pf : Nat → Option Nat) (i part : Int) (hi : -2147483648 ≤ i ∧ i < 2147483648) (hbad : i < 0 ∨ 6 ≤ i ∨ pf i.toNat = none) : ThM l yX2_enclosed cX2_enclosed 4 ((Option.some Jvm.ClassFile.FieldType.long)) rt_X2_enclosed (PcT [.ref x0, .int (zi (i)), .int (zi (part))] (dC, dI) vwCl [(x0, .inr (2, [.ref pa, .int (zi ((pn : Int))), .ref ba, .int (zi ((bn : Int))), .ref ax, .ref ay, .int (zi ((ln : Int))), .ref sp, .ref ss, .int (zi ((sn : Int))), .ref vs, .ref fr])), (pa, .inl (cQ, 6, .inr (.inr (.inr (.inr (pf))))))] [(cQ, .object "PotVolumes$Profile")]) KI := by
  refine vx_ofW (cc := cX2_enclosed) (maxL := 4) (ret := ((Option.some Jvm.ClassFile.FieldType.long))) (by decide) rfl ?_
  intro p e s m args below meth c s₁ B hml hno hv
  obtain ⟨hargs, hP, hK, hE⟩ := hv
  have hx := B.exec
  have hb := B.bytes
  have hr := B.returns
  have hts := atoms_spec (ws := Cond.code yX2_enclosed cX2_enclosed 4 ((Option.some Jvm.ClassFile.FieldType.long)) :: gw) B.pre
  have hg : ∀ w ∈ gw, w.before args s = true := fun w h => hts w (List.mem_cons_of_mem _ h)
  have hown : s.vm.findClass RX2 = some m.cls := findClass_of_methodNamed B.named
  have hlocks := B.notSynchronized
  show W p l e rt_X2_enclosed s m args below meth c s.heap [] 0 0 _ _
  have hl := lv_entry ([.ref x0, .int (zi (i)), .int (zi (part))]) (n := 4) (Nat.le_of_ble_eq_true rfl)
  rw [show entryFrame m args 4 = entryFrame m ([.ref x0, .int (zi (i)), .int (zi (part))] : List Value).toArray 4 by rw [hargs], lg_entry_eq]
  generalize (lg_sl ([.ref x0, .int (zi (i)), .int (zi (part))]) ++ List.replicate (4 - (lg_sl ([.ref x0, .int (zi (i)), .int (zi (part))])).length) Slot.unset).toArray = ls at hl ⊢
  have hl : lv_has ls 4 [(0, .ref x0), (1, .int (zi (i))), (2, .int (zi (part)))] := hl
  obtain ⟨QQ, hQQ⟩ : ∃ Q, Q = vx_MQ below QF (XK KI) args s 1 6 (fun _ => False) := ⟨_, rfl⟩
  rw [← hQQ]
  refine lv_aload_n hx hb dX2_enclosed_0 rfl (lv_at hl 0 rfl) ?_
  refine lv_iload_n hx hb dX2_enclosed_1 rfl (lv_at hl 1 rfl) ?_
  rw [hQQ]
  exact thV (As := [.int (zi (i))]) (rest := []) (n := 1) hx hb hml hown hg (t_X2_profileOf l hl0 dC dI x0 pa ba ax ay sp ss vs fr pn bn ln sn cQ pf (i) hi hbad) (gwV wl_X2_53 wm_X2_profileOf we_X2_profileOf wi_X2 wc_X2_profileOf) rfl rfl (by decide +kernel) ⟨Nat.le_of_ble_eq_true rfl, Nat.le_of_ble_eq_true rfl⟩ (hK.sub [0] rfl) (hP.sub [0, 1] rfl) hE 0 rfl rfl rfl rfl hl.1 rfl (Nat.le_of_ble_eq_true rfl) dX2_enclosed_2 ⟨Nat.le_of_ble_eq_true rfl, Nat.le_of_ble_eq_true rfl⟩ hno hlocks

abbrev rt_X2_wall : Room := { frames := 8, cells := 1, slots := 6, locals := 140 }
set_option maxHeartbeats 4000000 in
set_option maxRecDepth 100000 in
theorem t_wall_p (l : Launch) (hl0 : l.stackTraces = false) (dC : Nat → ClassId) (dI : Nat → Nat → Nat) (x0 pa ba ax ay sp ss vs fr : Nat) (pn bn ln sn : Nat)(cQ : ClassId) (pf : Nat → Option Nat) (i v : Int) (hi : -2147483648 ≤ i ∧ i < 2147483648) (hbad : i < 0 ∨ 6 ≤ i ∨ pf i.toNat = none) : ThM l yX2_wall cX2_wall 5 ((Option.some Jvm.ClassFile.FieldType.int)) rt_X2_wall (PcT [.ref x0, .int (zi (i)), .int (zi (v))] (dC, dI) vwCl [(x0, .inr (2, [.ref pa, .int (zi ((pn : Int))), .ref ba, .int (zi ((bn : Int))), .ref ax, .ref ay, .int (zi ((ln : Int))), .ref sp, .ref ss, .int (zi ((sn : Int))), .ref vs, .ref fr])), (pa, .inl (cQ, 6, .inr (.inr (.inr (.inr (pf))))))] [(cQ, .object "PotVolumes$Profile")]) KI := by
  refine vx_ofW (cc := cX2_wall) (maxL := 5) (ret := ((Option.some Jvm.ClassFile.FieldType.int))) (by decide) rfl ?_
  intro p e s m args below meth c s₁ B hml hno hv
  obtain ⟨hargs, hP, hK, hE⟩ := hv
  have hx := B.exec
  have hb := B.bytes
  have hr := B.returns
  have hts := atoms_spec (ws := Cond.code yX2_wall cX2_wall 5 ((Option.some Jvm.ClassFile.FieldType.int)) :: gw) B.pre
  have hg : ∀ w ∈ gw, w.before args s = true := fun w h => hts w (List.mem_cons_of_mem _ h)
  have hown : s.vm.findClass RX2 = some m.cls := findClass_of_methodNamed B.named
  have hlocks := B.notSynchronized
  show W p l e rt_X2_wall s m args below meth c s.heap [] 0 0 _ _
  have hl := lv_entry ([.ref x0, .int (zi (i)), .int (zi (v))]) (n := 5) (Nat.le_of_ble_eq_true rfl)
  rw [show entryFrame m args 5 = entryFrame m ([.ref x0, .int (zi (i)), .int (zi (v))] : List Value).toArray 5 by rw [hargs], lg_entry_eq]
  generalize (lg_sl ([.ref x0, .int (zi (i)), .int (zi (v))]) ++ List.replicate (5 - (lg_sl ([.ref x0, .int (zi (i)), .int (zi (v))])).length) Slot.unset).toArray = ls at hl ⊢
  have hl : lv_has ls 5 [(0, .ref x0), (1, .int (zi (i))), (2, .int (zi (v)))] := hl
  obtain ⟨QQ, hQQ⟩ : ∃ Q, Q = vx_MQ below QF (XK KI) args s 1 6 (fun _ => False) := ⟨_, rfl⟩
  rw [← hQQ]
  refine lv_aload_n hx hb dX2_wall_0 rfl (lv_at hl 0 rfl) ?_
  refine lv_iload_n hx hb dX2_wall_1 rfl (lv_at hl 1 rfl) ?_
  rw [hQQ]
  exact thV (As := [.int (zi (i))]) (rest := []) (n := 1) hx hb hml hown hg (t_X2_profileOf l hl0 dC dI x0 pa ba ax ay sp ss vs fr pn bn ln sn cQ pf (i) hi hbad) (gwV wl_X2_53 wm_X2_profileOf we_X2_profileOf wi_X2 wc_X2_profileOf) rfl rfl (by decide +kernel) ⟨Nat.le_of_ble_eq_true rfl, Nat.le_of_ble_eq_true rfl⟩ (hK.sub [0] rfl) (hP.sub [0, 1] rfl) hE 0 rfl rfl rfl rfl hl.1 rfl (Nat.le_of_ble_eq_true rfl) dX2_wall_2 ⟨Nat.le_of_ble_eq_true rfl, Nat.le_of_ble_eq_true rfl⟩ hno hlocks

abbrev rt_X2_unlike : Room := { frames := 8, cells := 1, slots := 6, locals := 140 }
set_option maxHeartbeats 4000000 in
set_option maxRecDepth 100000 in
theorem t_unlike_p (l : Launch) (hl0 : l.stackTraces = false) (dC : Nat → ClassId) (dI : Nat → Nat → Nat) (x0 pa ba ax ay sp ss vs fr : Nat) (pn bn ln sn : Nat)(cQ : ClassId) (pf : Nat → Option Nat) (i b : Int) (hi : -2147483648 ≤ i ∧ i < 2147483648) (hbad : i < 0 ∨ 6 ≤ i ∨ pf i.toNat = none) : ThM l yX2_unlike cX2_unlike 8 ((Option.some Jvm.ClassFile.FieldType.int)) rt_X2_unlike (PcT [.ref x0, .int (zi (i)), .int (zi (b))] (dC, dI) vwCl [(x0, .inr (2, [.ref pa, .int (zi ((pn : Int))), .ref ba, .int (zi ((bn : Int))), .ref ax, .ref ay, .int (zi ((ln : Int))), .ref sp, .ref ss, .int (zi ((sn : Int))), .ref vs, .ref fr])), (pa, .inl (cQ, 6, .inr (.inr (.inr (.inr (pf))))))] [(cQ, .object "PotVolumes$Profile")]) KI := by
  refine vx_ofW (cc := cX2_unlike) (maxL := 8) (ret := ((Option.some Jvm.ClassFile.FieldType.int))) (by decide) rfl ?_
  intro p e s m args below meth c s₁ B hml hno hv
  obtain ⟨hargs, hP, hK, hE⟩ := hv
  have hx := B.exec
  have hb := B.bytes
  have hr := B.returns
  have hts := atoms_spec (ws := Cond.code yX2_unlike cX2_unlike 8 ((Option.some Jvm.ClassFile.FieldType.int)) :: gw) B.pre
  have hg : ∀ w ∈ gw, w.before args s = true := fun w h => hts w (List.mem_cons_of_mem _ h)
  have hown : s.vm.findClass RX2 = some m.cls := findClass_of_methodNamed B.named
  have hlocks := B.notSynchronized
  show W p l e rt_X2_unlike s m args below meth c s.heap [] 0 0 _ _
  have hl := lv_entry ([.ref x0, .int (zi (i)), .int (zi (b))]) (n := 8) (Nat.le_of_ble_eq_true rfl)
  rw [show entryFrame m args 8 = entryFrame m ([.ref x0, .int (zi (i)), .int (zi (b))] : List Value).toArray 8 by rw [hargs], lg_entry_eq]
  generalize (lg_sl ([.ref x0, .int (zi (i)), .int (zi (b))]) ++ List.replicate (8 - (lg_sl ([.ref x0, .int (zi (i)), .int (zi (b))])).length) Slot.unset).toArray = ls at hl ⊢
  have hl : lv_has ls 8 [(0, .ref x0), (1, .int (zi (i))), (2, .int (zi (b)))] := hl
  obtain ⟨QQ, hQQ⟩ : ∃ Q, Q = vx_MQ below QF (XK KI) args s 1 6 (fun _ => False) := ⟨_, rfl⟩
  rw [← hQQ]
  refine lv_aload_n hx hb dX2_unlike_0 rfl (lv_at hl 0 rfl) ?_
  refine lv_iload_n hx hb dX2_unlike_1 rfl (lv_at hl 1 rfl) ?_
  rw [hQQ]
  exact thV (As := [.int (zi (i))]) (rest := []) (n := 1) hx hb hml hown hg (t_X2_profileOf l hl0 dC dI x0 pa ba ax ay sp ss vs fr pn bn ln sn cQ pf (i) hi hbad) (gwV wl_X2_53 wm_X2_profileOf we_X2_profileOf wi_X2 wc_X2_profileOf) rfl rfl (by decide +kernel) ⟨Nat.le_of_ble_eq_true rfl, Nat.le_of_ble_eq_true rfl⟩ (hK.sub [0] rfl) (hP.sub [0, 1] rfl) hE 0 rfl rfl rfl rfl hl.1 rfl (Nat.le_of_ble_eq_true rfl) dX2_unlike_2 ⟨Nat.le_of_ble_eq_true rfl, Nat.le_of_ble_eq_true rfl⟩ hno hlocks

abbrev rt_X2_cut : Room := { frames := 8, cells := 1, slots := 6, locals := 140 }
set_option maxHeartbeats 4000000 in
set_option maxRecDepth 100000 in
theorem t_cut_p (l : Launch) (hl0 : l.stackTraces = false) (dC : Nat → ClassId) (dI : Nat → Nat → Nat) (x0 pa ba ax ay sp ss vs fr : Nat) (pn bn ln sn : Nat)(cQ : ClassId) (pf : Nat → Option Nat) (i h : Int) (hi : -2147483648 ≤ i ∧ i < 2147483648) (hbad : i < 0 ∨ 6 ≤ i ∨ pf i.toNat = none) : ThM l yX2_cut cX2_cut 3 ((Option.some Jvm.ClassFile.FieldType.boolean)) rt_X2_cut (PcT [.ref x0, .int (zi (i)), .int (zi (h))] (dC, dI) vwCl [(x0, .inr (2, [.ref pa, .int (zi ((pn : Int))), .ref ba, .int (zi ((bn : Int))), .ref ax, .ref ay, .int (zi ((ln : Int))), .ref sp, .ref ss, .int (zi ((sn : Int))), .ref vs, .ref fr])), (pa, .inl (cQ, 6, .inr (.inr (.inr (.inr (pf))))))] [(cQ, .object "PotVolumes$Profile")]) KI := by
  refine vx_ofW (cc := cX2_cut) (maxL := 3) (ret := ((Option.some Jvm.ClassFile.FieldType.boolean))) (by decide) rfl ?_
  intro p e s m args below meth c s₁ B hml hno hv
  obtain ⟨hargs, hP, hK, hE⟩ := hv
  have hx := B.exec
  have hb := B.bytes
  have hr := B.returns
  have hts := atoms_spec (ws := Cond.code yX2_cut cX2_cut 3 ((Option.some Jvm.ClassFile.FieldType.boolean)) :: gw) B.pre
  have hg : ∀ w ∈ gw, w.before args s = true := fun w h => hts w (List.mem_cons_of_mem _ h)
  have hown : s.vm.findClass RX2 = some m.cls := findClass_of_methodNamed B.named
  have hlocks := B.notSynchronized
  show W p l e rt_X2_cut s m args below meth c s.heap [] 0 0 _ _
  have hl := lv_entry ([.ref x0, .int (zi (i)), .int (zi (h))]) (n := 3) (Nat.le_of_ble_eq_true rfl)
  rw [show entryFrame m args 3 = entryFrame m ([.ref x0, .int (zi (i)), .int (zi (h))] : List Value).toArray 3 by rw [hargs], lg_entry_eq]
  generalize (lg_sl ([.ref x0, .int (zi (i)), .int (zi (h))]) ++ List.replicate (3 - (lg_sl ([.ref x0, .int (zi (i)), .int (zi (h))])).length) Slot.unset).toArray = ls at hl ⊢
  have hl : lv_has ls 3 [(0, .ref x0), (1, .int (zi (i))), (2, .int (zi (h)))] := hl
  obtain ⟨QQ, hQQ⟩ : ∃ Q, Q = vx_MQ below QF (XK KI) args s 1 6 (fun _ => False) := ⟨_, rfl⟩
  rw [← hQQ]
  refine lv_aload_n hx hb dX2_cut_0 rfl (lv_at hl 0 rfl) ?_
  refine lv_iload_n hx hb dX2_cut_1 rfl (lv_at hl 1 rfl) ?_
  rw [hQQ]
  exact thV (As := [.int (zi (i))]) (rest := []) (n := 1) hx hb hml hown hg (t_X2_profileOf l hl0 dC dI x0 pa ba ax ay sp ss vs fr pn bn ln sn cQ pf (i) hi hbad) (gwV wl_X2_53 wm_X2_profileOf we_X2_profileOf wi_X2 wc_X2_profileOf) rfl rfl (by decide +kernel) ⟨Nat.le_of_ble_eq_true rfl, Nat.le_of_ble_eq_true rfl⟩ (hK.sub [0] rfl) (hP.sub [0, 1] rfl) hE 0 rfl rfl rfl rfl hl.1 rfl (Nat.le_of_ble_eq_true rfl) dX2_cut_2 ⟨Nat.le_of_ble_eq_true rfl, Nat.le_of_ble_eq_true rfl⟩ hno hlocks

abbrev rt_X2_drawn : Room := { frames := 8, cells := 1, slots := 6, locals := 140 }
set_option maxHeartbeats 4000000 in
set_option maxRecDepth 100000 in
theorem t_drawn_p (l : Launch) (hl0 : l.stackTraces = false) (dC : Nat → ClassId) (dI : Nat → Nat → Nat) (x0 pa ba ax ay sp ss vs fr : Nat) (pn bn ln sn : Nat)(cQ : ClassId) (pf : Nat → Option Nat) (i k what : Int) (hi : -2147483648 ≤ i ∧ i < 2147483648) (hbad : i < 0 ∨ 6 ≤ i ∨ pf i.toNat = none) : ThM l yX2_drawn cX2_drawn 7 ((Option.some Jvm.ClassFile.FieldType.int)) rt_X2_drawn (PcT [.ref x0, .int (zi (i)), .int (zi (k)), .int (zi (what))] (dC, dI) vwCl [(x0, .inr (2, [.ref pa, .int (zi ((pn : Int))), .ref ba, .int (zi ((bn : Int))), .ref ax, .ref ay, .int (zi ((ln : Int))), .ref sp, .ref ss, .int (zi ((sn : Int))), .ref vs, .ref fr])), (pa, .inl (cQ, 6, .inr (.inr (.inr (.inr (pf))))))] [(cQ, .object "PotVolumes$Profile")]) KI := by
  refine vx_ofW (cc := cX2_drawn) (maxL := 7) (ret := ((Option.some Jvm.ClassFile.FieldType.int))) (by decide) rfl ?_
  intro p e s m args below meth c s₁ B hml hno hv
  obtain ⟨hargs, hP, hK, hE⟩ := hv
  have hx := B.exec
  have hb := B.bytes
  have hr := B.returns
  have hts := atoms_spec (ws := Cond.code yX2_drawn cX2_drawn 7 ((Option.some Jvm.ClassFile.FieldType.int)) :: gw) B.pre
  have hg : ∀ w ∈ gw, w.before args s = true := fun w h => hts w (List.mem_cons_of_mem _ h)
  have hown : s.vm.findClass RX2 = some m.cls := findClass_of_methodNamed B.named
  have hlocks := B.notSynchronized
  show W p l e rt_X2_drawn s m args below meth c s.heap [] 0 0 _ _
  have hl := lv_entry ([.ref x0, .int (zi (i)), .int (zi (k)), .int (zi (what))]) (n := 7) (Nat.le_of_ble_eq_true rfl)
  rw [show entryFrame m args 7 = entryFrame m ([.ref x0, .int (zi (i)), .int (zi (k)), .int (zi (what))] : List Value).toArray 7 by rw [hargs], lg_entry_eq]
  generalize (lg_sl ([.ref x0, .int (zi (i)), .int (zi (k)), .int (zi (what))]) ++ List.replicate (7 - (lg_sl ([.ref x0, .int (zi (i)), .int (zi (k)), .int (zi (what))])).length) Slot.unset).toArray = ls at hl ⊢
  have hl : lv_has ls 7 [(0, .ref x0), (1, .int (zi (i))), (2, .int (zi (k))), (3, .int (zi (what)))] := hl
  obtain ⟨QQ, hQQ⟩ : ∃ Q, Q = vx_MQ below QF (XK KI) args s 1 6 (fun _ => False) := ⟨_, rfl⟩
  rw [← hQQ]
  refine lv_aload_n hx hb dX2_drawn_0 rfl (lv_at hl 0 rfl) ?_
  refine lv_iload_n hx hb dX2_drawn_1 rfl (lv_at hl 1 rfl) ?_
  rw [hQQ]
  exact thV (As := [.int (zi (i))]) (rest := []) (n := 1) hx hb hml hown hg (t_X2_profileOf l hl0 dC dI x0 pa ba ax ay sp ss vs fr pn bn ln sn cQ pf (i) hi hbad) (gwV wl_X2_53 wm_X2_profileOf we_X2_profileOf wi_X2 wc_X2_profileOf) rfl rfl (by decide +kernel) ⟨Nat.le_of_ble_eq_true rfl, Nat.le_of_ble_eq_true rfl⟩ (hK.sub [0] rfl) (hP.sub [0, 1] rfl) hE 0 rfl rfl rfl rfl hl.1 rfl (Nat.le_of_ble_eq_true rfl) dX2_drawn_2 ⟨Nat.le_of_ble_eq_true rfl, Nat.le_of_ble_eq_true rfl⟩ hno hlocks

abbrev rt_X2_size : Room := { frames := 8, cells := 1, slots := 6, locals := 140 }
set_option maxHeartbeats 4000000 in
set_option maxRecDepth 100000 in
theorem t_size_p (l : Launch) (hl0 : l.stackTraces = false) (dC : Nat → ClassId) (dI : Nat → Nat → Nat) (x0 pa ba ax ay sp ss vs fr : Nat) (pn bn ln sn : Nat)(cQ : ClassId) (pf : Nat → Option Nat) (i : Int) (hi : -2147483648 ≤ i ∧ i < 2147483648) (hbad : i < 0 ∨ 6 ≤ i ∨ pf i.toNat = none) : ThM l yX2_size cX2_size 6 ((Option.some Jvm.ClassFile.FieldType.int)) rt_X2_size (PcT [.ref x0, .int (zi (i))] (dC, dI) vwCl [(x0, .inr (2, [.ref pa, .int (zi ((pn : Int))), .ref ba, .int (zi ((bn : Int))), .ref ax, .ref ay, .int (zi ((ln : Int))), .ref sp, .ref ss, .int (zi ((sn : Int))), .ref vs, .ref fr])), (pa, .inl (cQ, 6, .inr (.inr (.inr (.inr (pf))))))] [(cQ, .object "PotVolumes$Profile")]) KI := by
  refine vx_ofW (cc := cX2_size) (maxL := 6) (ret := ((Option.some Jvm.ClassFile.FieldType.int))) (by decide) rfl ?_
  intro p e s m args below meth c s₁ B hml hno hv
  obtain ⟨hargs, hP, hK, hE⟩ := hv
  have hx := B.exec
  have hb := B.bytes
  have hr := B.returns
  have hts := atoms_spec (ws := Cond.code yX2_size cX2_size 6 ((Option.some Jvm.ClassFile.FieldType.int)) :: gw) B.pre
  have hg : ∀ w ∈ gw, w.before args s = true := fun w h => hts w (List.mem_cons_of_mem _ h)
  have hown : s.vm.findClass RX2 = some m.cls := findClass_of_methodNamed B.named
  have hlocks := B.notSynchronized
  show W p l e rt_X2_size s m args below meth c s.heap [] 0 0 _ _
  have hl := lv_entry ([.ref x0, .int (zi (i))]) (n := 6) (Nat.le_of_ble_eq_true rfl)
  rw [show entryFrame m args 6 = entryFrame m ([.ref x0, .int (zi (i))] : List Value).toArray 6 by rw [hargs], lg_entry_eq]
  generalize (lg_sl ([.ref x0, .int (zi (i))]) ++ List.replicate (6 - (lg_sl ([.ref x0, .int (zi (i))])).length) Slot.unset).toArray = ls at hl ⊢
  have hl : lv_has ls 6 [(0, .ref x0), (1, .int (zi (i)))] := hl
  obtain ⟨QQ, hQQ⟩ : ∃ Q, Q = vx_MQ below QF (XK KI) args s 1 6 (fun _ => False) := ⟨_, rfl⟩
  rw [← hQQ]
  refine lv_aload_n hx hb dX2_size_0 rfl (lv_at hl 0 rfl) ?_
  refine lv_iload_n hx hb dX2_size_1 rfl (lv_at hl 1 rfl) ?_
  rw [hQQ]
  exact thV (As := [.int (zi (i))]) (rest := []) (n := 1) hx hb hml hown hg (t_X2_profileOf l hl0 dC dI x0 pa ba ax ay sp ss vs fr pn bn ln sn cQ pf (i) hi hbad) (gwV wl_X2_53 wm_X2_profileOf we_X2_profileOf wi_X2 wc_X2_profileOf) rfl rfl (by decide +kernel) ⟨Nat.le_of_ble_eq_true rfl, Nat.le_of_ble_eq_true rfl⟩ (hK.sub [0] rfl) (hP.sub [0, 1] rfl) hE 0 rfl rfl rfl rfl hl.1 rfl (Nat.le_of_ble_eq_true rfl) dX2_size_2 ⟨Nat.le_of_ble_eq_true rfl, Nat.le_of_ble_eq_true rfl⟩ hno hlocks

set_option maxHeartbeats 4000000 in
set_option maxRecDepth 100000 in
theorem t_corner_A (l : Launch) (hl0 : l.stackTraces = false) (dC : Nat → ClassId) (dI : Nat → Nat → Nat) (x0 pa ba ax ay sp ss vs fr : Nat) (pn bn ln sn : Nat)(cQ : ClassId) (pf : Nat → Option Nat) (h0 h1 h2 : Nat) (cA : ClassId) (n : Nat) (th wc : Int) (hs rs : Nat → Int) (j : Nat) (h r : Int) (hn : n ≤ 12) (hH : ∀ j, 0 ≤ hs j ∧ hs j ≤ 400) (hR : ∀ j, 0 ≤ rs j ∧ rs j ≤ 200) (hj : j < 6) (hf : pf j = some h0) (h_h : -2147483648 ≤ h ∧ h < 2147483648) (h_r : -2147483648 ≤ r ∧ r < 2147483648) (hbad : ¬ (0 ≤ h ∧ h ≤ 400 ∧ 0 ≤ r ∧ r ≤ 200)) : ThM l yX2_corner cX2_corner 5 ((Option.some Jvm.ClassFile.FieldType.boolean)) rt_X2_corner (PcT [.ref x0, .int (zi ((j : Int))), .int (zi (h)), .int (zi (r))] (dC, dI) vwCl [(x0, .inr (2, [.ref pa, .int (zi ((pn : Int))), .ref ba, .int (zi ((bn : Int))), .ref ax, .ref ay, .int (zi ((ln : Int))), .ref sp, .ref ss, .int (zi ((sn : Int))), .ref vs, .ref fr])), (pa, .inl (cQ, 6, .inr (.inr (.inr (.inr (pf)))))), (h0, .inr (1, [.ref h1, .ref h2, .int (zi ((n : Int))), .int (zi (th)), .int (zi (wc))])), (h1, .inl (cA, 12, .inl (zA (hs)))), (h2, .inl (cA, 12, .inl (zA (rs))))] [(cQ, .object "PotVolumes$Profile"), (cA, .int)]) KA := by
  refine vx_ofW (cc := cX2_corner) (maxL := 5) (ret := ((Option.some Jvm.ClassFile.FieldType.boolean))) (by decide) rfl ?_
  intro p e s m args below meth c s₁ B hml hno hv
  obtain ⟨hargs, hP, hK, hE⟩ := hv
  have hx := B.exec
  have hb := B.bytes
  have hr := B.returns
  have hts := atoms_spec (ws := Cond.code yX2_corner cX2_corner 5 ((Option.some Jvm.ClassFile.FieldType.boolean)) :: gw) B.pre
  have hg : ∀ w ∈ gw, w.before args s = true := fun w h => hts w (List.mem_cons_of_mem _ h)
  have hown : s.vm.findClass RX2 = some m.cls := findClass_of_methodNamed B.named
  have hlocks := B.notSynchronized
  show W p l e rt_X2_corner s m args below meth c s.heap [] 0 0 _ _
  have hl := lv_entry ([.ref x0, .int (zi ((j : Int))), .int (zi (h)), .int (zi (r))]) (n := 5) (Nat.le_of_ble_eq_true rfl)
  rw [show entryFrame m args 5 = entryFrame m ([.ref x0, .int (zi ((j : Int))), .int (zi (h)), .int (zi (r))] : List Value).toArray 5 by rw [hargs], lg_entry_eq]
  generalize (lg_sl ([.ref x0, .int (zi ((j : Int))), .int (zi (h)), .int (zi (r))]) ++ List.replicate (5 - (lg_sl ([.ref x0, .int (zi ((j : Int))), .int (zi (h)), .int (zi (r))])).length) Slot.unset).toArray = ls at hl ⊢
  have hl : lv_has ls 5 [(0, .ref x0), (1, .int (zi ((j : Int)))), (2, .int (zi (h))), (3, .int (zi (r)))] := hl
  obtain ⟨QQ, hQQ⟩ : ∃ Q, Q = vx_MQ below QF (XK KA) args s 1 6 (fun _ => False) := ⟨_, rfl⟩
  rw [← hQQ]
  refine lv_aload_n hx hb dX2_corner_0 rfl (lv_at hl 0 rfl) ?_
  refine lv_iload_n hx hb dX2_corner_1 rfl (lv_at hl 1 rfl) ?_
  refine rdV (As := [.int (zi ((j : Int)))]) (rest := []) (n := 1) hx hb hml hown hg (c_X2_profileOf l dC dI x0 pa ba ax ay sp ss vs fr pn bn ln sn cQ pf j h0 hj hf) (gwV wl_X2_53 wm_X2_profileOf we_X2_profileOf wi_X2 wc_X2_profileOf) rfl rfl (by decide +kernel) ⟨Nat.le_of_ble_eq_true rfl, Nat.le_of_ble_eq_true rfl⟩ (hK.sub [0] rfl) (hP.sub [0, 1] rfl) 0 rfl rfl rfl rfl hl.1 rfl (Nat.le_of_ble_eq_true rfl) dX2_corner_2 ⟨Nat.zero_le _, Nat.zero_le _⟩ ?_
  refine lv_astore (lv' := [(4, .ref h0), (0, .ref x0), (1, .int (zi ((j : Int)))), (2, .int (zi (h))), (3, .int (zi (r)))]) hx hb dX2_corner_5 hl (by decide) rfl (fun ls hl => ?_)
  refine lv_iload_n hx hb dX2_corner_7 rfl (lv_at hl 3 rfl) ?_
  refine zz_if_lt (tgt := 18) hx hb (by omega) dX2_corner_8 (by decide) (fun c_8 => ?_) (fun c_8 => ?_)
  · rw [hQQ]
    exact thr (K := KA) hx hb hl0 hown hE (by decide +kernel) (hg _ wl_X2_57) (hg _ wi_IllegalArgumentException) (by decide) (xh_A hg hE) xh_ot.2.1 hml hl.1 dX2_corner_18 dX2_corner_21 dX2_corner_22 dX2_corner_24 dX2_corner_27 hno hlocks (Nat.le_of_ble_eq_true rfl) (Nat.le_of_ble_eq_true rfl) (Nat.le_of_ble_eq_true rfl) (Nat.le_of_ble_eq_true rfl)
  · refine lv_iload_n hx hb dX2_corner_11 rfl (lv_at hl 3 rfl) ?_
    refine lv_sipush (v := zi (400)) hx hb dX2_corner_12 (by decide) ?_
    refine zz_icmp_le (tgt := 28) hx hb (by omega) (by omega) dX2_corner_15 (by decide) (fun c_15 => ?_) (fun c_15 => ?_)
    · refine lv_iload_n hx hb dX2_corner_28 rfl (lv_at hl 4 rfl) ?_
      refine zz_if_lt (tgt := 39) hx hb (by omega) dX2_corner_29 (by decide) (fun c_29 => ?_) (fun c_29 => ?_)
      · rw [hQQ]
        exact thr (K := KA) hx hb hl0 hown hE (by decide +kernel) (hg _ wl_X2_57) (hg _ wi_IllegalArgumentException) (by decide) (xh_A hg hE) xh_ot.2.1 hml hl.1 dX2_corner_39 dX2_corner_42 dX2_corner_43 dX2_corner_45 dX2_corner_48 hno hlocks (Nat.le_of_ble_eq_true rfl) (Nat.le_of_ble_eq_true rfl) (Nat.le_of_ble_eq_true rfl) (Nat.le_of_ble_eq_true rfl)
      · refine lv_iload_n hx hb dX2_corner_32 rfl (lv_at hl 4 rfl) ?_
        refine lv_sipush (v := zi (200)) hx hb dX2_corner_33 (by decide) ?_
        refine zz_icmp_le (tgt := 49) hx hb (by omega) (by omega) dX2_corner_36 (by decide) (fun c_36 => ?_) (fun c_36 => ?_)
        · exact False.elim (by omega)
        · rw [hQQ]
          exact thr (K := KA) hx hb hl0 hown hE (by decide +kernel) (hg _ wl_X2_57) (hg _ wi_IllegalArgumentException) (by decide) (xh_A hg hE) xh_ot.2.1 hml hl.1 dX2_corner_39 dX2_corner_42 dX2_corner_43 dX2_corner_45 dX2_corner_48 hno hlocks (Nat.le_of_ble_eq_true rfl) (Nat.le_of_ble_eq_true rfl) (Nat.le_of_ble_eq_true rfl) (Nat.le_of_ble_eq_true rfl)
    · rw [hQQ]
      exact thr (K := KA) hx hb hl0 hown hE (by decide +kernel) (hg _ wl_X2_57) (hg _ wi_IllegalArgumentException) (by decide) (xh_A hg hE) xh_ot.2.1 hml hl.1 dX2_corner_18 dX2_corner_21 dX2_corner_22 dX2_corner_24 dX2_corner_27 hno hlocks (Nat.le_of_ble_eq_true rfl) (Nat.le_of_ble_eq_true rfl) (Nat.le_of_ble_eq_true rfl) (Nat.le_of_ble_eq_true rfl)

set_option maxHeartbeats 4000000 in
set_option maxRecDepth 100000 in
theorem t_corner_S (l : Launch) (hl0 : l.stackTraces = false) (dC : Nat → ClassId) (dI : Nat → Nat → Nat) (x0 pa ba ax ay sp ss vs fr : Nat) (pn bn ln sn : Nat)(cQ : ClassId) (pf : Nat → Option Nat) (h0 h1 h2 : Nat) (cA : ClassId) (n : Nat) (th wc : Int) (hs rs : Nat → Int) (j : Nat) (h r : Int) (hn : n ≤ 12) (hH : ∀ j, 0 ≤ hs j ∧ hs j ≤ 400) (hR : ∀ j, 0 ≤ rs j ∧ rs j ≤ 200) (hj : j < 6) (hf : pf j = some h0) (hh : 0 ≤ h ∧ h ≤ 400) (hr9 : 0 ≤ r ∧ r ≤ 200) (hw : wc = 0 ∨ wc = 1) (hbad : wc = 1 ∨ 12 ≤ n) : ThM l yX2_corner cX2_corner 5 ((Option.some Jvm.ClassFile.FieldType.boolean)) rt_X2_corner (PcT [.ref x0, .int (zi ((j : Int))), .int (zi (h)), .int (zi (r))] (dC, dI) vwCl [(x0, .inr (2, [.ref pa, .int (zi ((pn : Int))), .ref ba, .int (zi ((bn : Int))), .ref ax, .ref ay, .int (zi ((ln : Int))), .ref sp, .ref ss, .int (zi ((sn : Int))), .ref vs, .ref fr])), (pa, .inl (cQ, 6, .inr (.inr (.inr (.inr (pf)))))), (h0, .inr (1, [.ref h1, .ref h2, .int (zi ((n : Int))), .int (zi (th)), .int (zi (wc))])), (h1, .inl (cA, 12, .inl (zA (hs)))), (h2, .inl (cA, 12, .inl (zA (rs))))] [(cQ, .object "PotVolumes$Profile"), (cA, .int)]) KS := by
  refine vx_ofW (cc := cX2_corner) (maxL := 5) (ret := ((Option.some Jvm.ClassFile.FieldType.boolean))) (by decide) rfl ?_
  intro p e s m args below meth c s₁ B hml hno hv
  obtain ⟨hargs, hP, hK, hE⟩ := hv
  have hx := B.exec
  have hb := B.bytes
  have hr := B.returns
  have hts := atoms_spec (ws := Cond.code yX2_corner cX2_corner 5 ((Option.some Jvm.ClassFile.FieldType.boolean)) :: gw) B.pre
  have hg : ∀ w ∈ gw, w.before args s = true := fun w h => hts w (List.mem_cons_of_mem _ h)
  have hown : s.vm.findClass RX2 = some m.cls := findClass_of_methodNamed B.named
  have hlocks := B.notSynchronized
  show W p l e rt_X2_corner s m args below meth c s.heap [] 0 0 _ _
  have hl := lv_entry ([.ref x0, .int (zi ((j : Int))), .int (zi (h)), .int (zi (r))]) (n := 5) (Nat.le_of_ble_eq_true rfl)
  rw [show entryFrame m args 5 = entryFrame m ([.ref x0, .int (zi ((j : Int))), .int (zi (h)), .int (zi (r))] : List Value).toArray 5 by rw [hargs], lg_entry_eq]
  generalize (lg_sl ([.ref x0, .int (zi ((j : Int))), .int (zi (h)), .int (zi (r))]) ++ List.replicate (5 - (lg_sl ([.ref x0, .int (zi ((j : Int))), .int (zi (h)), .int (zi (r))])).length) Slot.unset).toArray = ls at hl ⊢
  have hl : lv_has ls 5 [(0, .ref x0), (1, .int (zi ((j : Int)))), (2, .int (zi (h))), (3, .int (zi (r)))] := hl
  obtain ⟨QQ, hQQ⟩ : ∃ Q, Q = vx_MQ below QF (XK KS) args s 1 6 (fun _ => False) := ⟨_, rfl⟩
  rw [← hQQ]
  refine lv_aload_n hx hb dX2_corner_0 rfl (lv_at hl 0 rfl) ?_
  refine lv_iload_n hx hb dX2_corner_1 rfl (lv_at hl 1 rfl) ?_
  refine rdV (As := [.int (zi ((j : Int)))]) (rest := []) (n := 1) hx hb hml hown hg (c_X2_profileOf l dC dI x0 pa ba ax ay sp ss vs fr pn bn ln sn cQ pf j h0 hj hf) (gwV wl_X2_53 wm_X2_profileOf we_X2_profileOf wi_X2 wc_X2_profileOf) rfl rfl (by decide +kernel) ⟨Nat.le_of_ble_eq_true rfl, Nat.le_of_ble_eq_true rfl⟩ (hK.sub [0] rfl) (hP.sub [0, 1] rfl) 0 rfl rfl rfl rfl hl.1 rfl (Nat.le_of_ble_eq_true rfl) dX2_corner_2 ⟨Nat.zero_le _, Nat.zero_le _⟩ ?_
  refine lv_astore (lv' := [(4, .ref h0), (0, .ref x0), (1, .int (zi ((j : Int)))), (2, .int (zi (h))), (3, .int (zi (r)))]) hx hb dX2_corner_5 hl (by decide) rfl (fun ls hl => ?_)
  refine lv_iload_n hx hb dX2_corner_7 rfl (lv_at hl 3 rfl) ?_
  refine zz_if_lt (tgt := 18) hx hb (by omega) dX2_corner_8 (by decide) (fun c_8 => ?_) (fun c_8 => ?_)
  · exact False.elim (by omega)
  · refine lv_iload_n hx hb dX2_corner_11 rfl (lv_at hl 3 rfl) ?_
    refine lv_sipush (v := zi (400)) hx hb dX2_corner_12 (by decide) ?_
    refine zz_icmp_le (tgt := 28) hx hb (by omega) (by omega) dX2_corner_15 (by decide) (fun c_15 => ?_) (fun c_15 => ?_)
    · refine lv_iload_n hx hb dX2_corner_28 rfl (lv_at hl 4 rfl) ?_
      refine zz_if_lt (tgt := 39) hx hb (by omega) dX2_corner_29 (by decide) (fun c_29 => ?_) (fun c_29 => ?_)
      · exact False.elim (by omega)
      · refine lv_iload_n hx hb dX2_corner_32 rfl (lv_at hl 4 rfl) ?_
        refine lv_sipush (v := zi (200)) hx hb dX2_corner_33 (by decide) ?_
        refine zz_icmp_le (tgt := 49) hx hb (by omega) (by omega) dX2_corner_36 (by decide) (fun c_36 => ?_) (fun c_36 => ?_)
        · refine lv_aload hx hb dX2_corner_49 (lv_at hl 0 rfl) ?_
          refine rdV (As := []) (rest := []) (n := 0) hx hb hml hown hg (c_X1_isClosed l dC dI h0 h1 h2 cA n th wc hs rs hn hw) (gwV wl_X2_64 wm_X1_isClosed we_X1_isClosed wi_X1 wc_X1_isClosed) rfl rfl (by decide +kernel) ⟨Nat.le_of_ble_eq_true rfl, Nat.le_of_ble_eq_true rfl⟩ (hK.sub [1] rfl) (hP.sub [2, 3, 4] rfl) 0 rfl rfl rfl rfl hl.1 rfl (Nat.le_of_ble_eq_true rfl) dX2_corner_51 ⟨Nat.zero_le _, Nat.zero_le _⟩ ?_
          refine zz_topi (z := 1) (congrArg zi (zb_t (by simp; omega))) ?_
          refine zz_if_eq (tgt := 67) hx hb (by omega) dX2_corner_54 (by decide) (fun c_54 => ?_) (fun c_54 => ?_)
          · exact absurd c_54 (by decide)
          · rw [hQQ]
            exact thr (K := KS) hx hb hl0 hown hE (by decide +kernel) (hg _ wl_X2_45) (hg _ wi_IllegalStateException) (by decide) (xh_S hg hE) xh_ot.2.2 hml hl.1 dX2_corner_57 dX2_corner_60 dX2_corner_61 dX2_corner_63 dX2_corner_66 hno hlocks (Nat.le_of_ble_eq_true rfl) (Nat.le_of_ble_eq_true rfl) (Nat.le_of_ble_eq_true rfl) (Nat.le_of_ble_eq_true rfl)
        · exact False.elim (by omega)
    · exact False.elim (by omega)

abbrev rm_X2_corner : Room := { frames := 7, cells := 0, slots := 0, locals := 122 }
set_option maxHeartbeats 4000000 in
set_option maxRecDepth 100000 in
theorem c_corner_y (l : Launch) (dC : Nat → ClassId) (dI : Nat → Nat → Nat) (sz : Nat) (x0 pa ba ax ay sp ss vs fr : Nat) (pn bn ln sn : Nat)(cQ : ClassId) (pf : Nat → Option Nat) (h0 h1 h2 : Nat) (cA : ClassId) (n : Nat) (th wc : Int) (hs rs : Nat → Int) (j : Nat) (h r : Int) (hn : n ≤ 12) (hH : ∀ j, 0 ≤ hs j ∧ hs j ≤ 400) (hR : ∀ j, 0 ≤ rs j ∧ rs j ≤ 200) (hj : j < 6) (hf : pf j = some h0) (hh : 0 ≤ h ∧ h ≤ 400) (hr9 : 0 ≤ r ∧ r ≤ 200) (hw : wc = 0 ∨ wc = 1) (hcl : wc = 0 ∧ n < 12) (hcf : p_canf n hs rs h r = true) : Met l yX2_corner (Cond.code yX2_corner cX2_corner 5 ((Option.some Jvm.ClassFile.FieldType.boolean)) :: gw) rm_X2_corner (PcW [.ref x0, .int (zi ((j : Int))), .int (zi (h)), .int (zi (r))] (dC, dI) vwCl [(x0, .inr (2, [.ref pa, .int (zi ((pn : Int))), .ref ba, .int (zi ((bn : Int))), .ref ax, .ref ay, .int (zi ((ln : Int))), .ref sp, .ref ss, .int (zi ((sn : Int))), .ref vs, .ref fr])), (pa, .inl (cQ, 6, .inr (.inr (.inr (.inr (pf)))))), (h0, .inr (1, [.ref h1, .ref h2, .int (zi ((n : Int))), .int (zi (th)), .int (zi (wc))])), (h1, .inl (cA, 12, .inl (zA (hs)))), (h2, .inl (cA, 12, .inl (zA (rs))))] [(cQ, .object "PotVolumes$Profile"), (cA, .int)] sz) (WrQ (some (.int (zi 1))) (dC, dI) vwCl [(x0, .inr (2, [.ref pa, .int (zi ((pn : Int))), .ref ba, .int (zi ((bn : Int))), .ref ax, .ref ay, .int (zi ((ln : Int))), .ref sp, .ref ss, .int (zi ((sn : Int))), .ref vs, .ref fr])), (pa, .inl (cQ, 6, .inr (.inr (.inr (.inr (pf)))))), (h0, .inr (1, [.ref h1, .ref h2, .int (zi (((n + 1 : Nat) : Int))), .int (zi (th)), .int (zi (wc))])), (h1, .inl (cA, 12, .inl (zA (zupd hs (n) (h))))), (h2, .inl (cA, 12, .inl (zA (zupd rs (n) (r)))))] (va_A [(x0, .inr (2, [.ref pa, .int (zi ((pn : Int))), .ref ba, .int (zi ((bn : Int))), .ref ax, .ref ay, .int (zi ((ln : Int))), .ref sp, .ref ss, .int (zi ((sn : Int))), .ref vs, .ref fr])), (pa, .inl (cQ, 6, .inr (.inr (.inr (.inr (pf)))))), (h0, .inr (1, [.ref h1, .ref h2, .int (zi ((n : Int))), .int (zi (th)), .int (zi (wc))])), (h1, .inl (cA, 12, .inl (zA (hs)))), (h2, .inl (cA, 12, .inl (zA (rs))))] sz)) 0 0 (va_A [(x0, .inr (2, [.ref pa, .int (zi ((pn : Int))), .ref ba, .int (zi ((bn : Int))), .ref ax, .ref ay, .int (zi ((ln : Int))), .ref sp, .ref ss, .int (zi ((sn : Int))), .ref vs, .ref fr])), (pa, .inl (cQ, 6, .inr (.inr (.inr (.inr (pf)))))), (h0, .inr (1, [.ref h1, .ref h2, .int (zi ((n : Int))), .int (zi (th)), .int (zi (wc))])), (h1, .inl (cA, 12, .inl (zA (hs)))), (h2, .inl (cA, 12, .inl (zA (rs))))] sz) := by
  refine Met.ofW (cc := cX2_corner) (maxL := 5) (ret := ((Option.some Jvm.ClassFile.FieldType.boolean))) (by decide) rfl ?_
  intro p e s m args below meth c s₁ B hml hv
  obtain ⟨hargs, hsz, hP, hK, hD0⟩ := hv
  have hx := B.exec
  have hb := B.bytes
  have hr := B.returns
  have hts := atoms_spec (ws := Cond.code yX2_corner cX2_corner 5 ((Option.some Jvm.ClassFile.FieldType.boolean)) :: gw) B.pre
  have hg : ∀ w ∈ gw, w.before args s = true := fun w h => hts w (List.mem_cons_of_mem _ h)
  have hown : s.vm.findClass RX2 = some m.cls := findClass_of_methodNamed B.named
  have hlocks := B.notSynchronized
  subst hsz
  have hD := hD0.self (sz := s.heap.size)
  generalize hAe : va_A [(x0, .inr (2, [.ref pa, .int (zi ((pn : Int))), .ref ba, .int (zi ((bn : Int))), .ref ax, .ref ay, .int (zi ((ln : Int))), .ref sp, .ref ss, .int (zi ((sn : Int))), .ref vs, .ref fr])), (pa, .inl (cQ, 6, .inr (.inr (.inr (.inr (pf)))))), (h0, .inr (1, [.ref h1, .ref h2, .int (zi ((n : Int))), .int (zi (th)), .int (zi (wc))])), (h1, .inl (cA, 12, .inl (zA (hs)))), (h2, .inl (cA, 12, .inl (zA (rs))))] s.heap.size = A at hD ⊢
  have hA : ∀ q : Nat, s.heap.size ≤ q → A q := fun q h => by rw [← hAe]; exact Or.inr h
  show W p l e rm_X2_corner s m args below meth c s.heap [] 0 0 _ _
  have hl := lv_entry ([.ref x0, .int (zi ((j : Int))), .int (zi (h)), .int (zi (r))]) (n := 5) (Nat.le_of_ble_eq_true rfl)
  rw [show entryFrame m args 5 = entryFrame m ([.ref x0, .int (zi ((j : Int))), .int (zi (h)), .int (zi (r))] : List Value).toArray 5 by rw [hargs], lg_entry_eq]
  generalize (lg_sl ([.ref x0, .int (zi ((j : Int))), .int (zi (h)), .int (zi (r))]) ++ List.replicate (5 - (lg_sl ([.ref x0, .int (zi ((j : Int))), .int (zi (h)), .int (zi (r))])).length) Slot.unset).toArray = ls at hl ⊢
  have hl : lv_has ls 5 [(0, .ref x0), (1, .int (zi ((j : Int)))), (2, .int (zi (h))), (3, .int (zi (r)))] := hl
  obtain ⟨QQ, hQQ⟩ : ∃ Q, Q = MQ below (WrQ (some (.int (zi 1))) (dC, dI) vwCl [(x0, .inr (2, [.ref pa, .int (zi ((pn : Int))), .ref ba, .int (zi ((bn : Int))), .ref ax, .ref ay, .int (zi ((ln : Int))), .ref sp, .ref ss, .int (zi ((sn : Int))), .ref vs, .ref fr])), (pa, .inl (cQ, 6, .inr (.inr (.inr (.inr (pf)))))), (h0, .inr (1, [.ref h1, .ref h2, .int (zi (((n + 1 : Nat) : Int))), .int (zi (th)), .int (zi (wc))])), (h1, .inl (cA, 12, .inl (zA (zupd hs (n) (h))))), (h2, .inl (cA, 12, .inl (zA (zupd rs (n) (r)))))] A) args s 0 0 A := ⟨_, rfl⟩
  rw [← hQQ]
  obtain ⟨H, hHe⟩ : ∃ H : Heap, H = s.heap := ⟨_, rfl⟩
  obtain ⟨locs, hlc⟩ : ∃ x : List Loc, x = [] := ⟨_, rfl⟩
  have hS : va_S A s.heap H locs := by rw [hHe, hlc]; exact va_S.rf
  have hP : va_P (dC, dI) vwCl [(x0, .inr (2, [.ref pa, .int (zi ((pn : Int))), .ref ba, .int (zi ((bn : Int))), .ref ax, .ref ay, .int (zi ((ln : Int))), .ref sp, .ref ss, .int (zi ((sn : Int))), .ref vs, .ref fr])), (pa, .inl (cQ, 6, .inr (.inr (.inr (.inr (pf)))))), (h0, .inr (1, [.ref h1, .ref h2, .int (zi ((n : Int))), .int (zi (th)), .int (zi (wc))])), (h1, .inl (cA, 12, .inl (zA (hs)))), (h2, .inl (cA, 12, .inl (zA (rs))))] H := by rw [hHe]; exact hP
  have hD : va_D A [(x0, .inr (2, [.ref pa, .int (zi ((pn : Int))), .ref ba, .int (zi ((bn : Int))), .ref ax, .ref ay, .int (zi ((ln : Int))), .ref sp, .ref ss, .int (zi ((sn : Int))), .ref vs, .ref fr])), (pa, .inl (cQ, 6, .inr (.inr (.inr (.inr (pf)))))), (h0, .inr (1, [.ref h1, .ref h2, .int (zi ((n : Int))), .int (zi (th)), .int (zi (wc))])), (h1, .inl (cA, 12, .inl (zA (hs)))), (h2, .inl (cA, 12, .inl (zA (rs))))] := hD
  rw [← hHe, ← hlc]
  refine lv_aload_n hx hb dX2_corner_0 rfl (lv_at hl 0 rfl) ?_
  refine lv_iload_n hx hb dX2_corner_1 rfl (lv_at hl 1 rfl) ?_
  refine rdV (As := [.int (zi ((j : Int)))]) (rest := []) (n := 1) hx hb hml hown hg (c_X2_profileOf l dC dI x0 pa ba ax ay sp ss vs fr pn bn ln sn cQ pf j h0 hj hf) (gwV wl_X2_53 wm_X2_profileOf we_X2_profileOf wi_X2 wc_X2_profileOf) rfl rfl (by decide +kernel) ⟨Nat.le_of_ble_eq_true rfl, Nat.le_of_ble_eq_true rfl⟩ (hK.sub [0] rfl) (hP.sub [0, 1] rfl) 0 rfl rfl rfl rfl hl.1 rfl (Nat.le_of_ble_eq_true rfl) dX2_corner_2 ⟨Nat.zero_le _, Nat.zero_le _⟩ ?_
  refine lv_astore (lv' := [(4, .ref h0), (0, .ref x0), (1, .int (zi ((j : Int)))), (2, .int (zi (h))), (3, .int (zi (r)))]) hx hb dX2_corner_5 hl (by decide) rfl (fun ls hl => ?_)
  refine lv_iload_n hx hb dX2_corner_7 rfl (lv_at hl 3 rfl) ?_
  refine zz_if_lt (tgt := 18) hx hb (by omega) dX2_corner_8 (by decide) (fun c_8 => ?_) (fun c_8 => ?_)
  · exact False.elim (by omega)
  · refine lv_iload_n hx hb dX2_corner_11 rfl (lv_at hl 3 rfl) ?_
    refine lv_sipush (v := zi (400)) hx hb dX2_corner_12 (by decide) ?_
    refine zz_icmp_le (tgt := 28) hx hb (by omega) (by omega) dX2_corner_15 (by decide) (fun c_15 => ?_) (fun c_15 => ?_)
    · refine lv_iload_n hx hb dX2_corner_28 rfl (lv_at hl 4 rfl) ?_
      refine zz_if_lt (tgt := 39) hx hb (by omega) dX2_corner_29 (by decide) (fun c_29 => ?_) (fun c_29 => ?_)
      · exact False.elim (by omega)
      · refine lv_iload_n hx hb dX2_corner_32 rfl (lv_at hl 4 rfl) ?_
        refine lv_sipush (v := zi (200)) hx hb dX2_corner_33 (by decide) ?_
        refine zz_icmp_le (tgt := 49) hx hb (by omega) (by omega) dX2_corner_36 (by decide) (fun c_36 => ?_) (fun c_36 => ?_)
        · refine lv_aload hx hb dX2_corner_49 (lv_at hl 0 rfl) ?_
          refine rdV (As := []) (rest := []) (n := 0) hx hb hml hown hg (c_X1_isClosed l dC dI h0 h1 h2 cA n th wc hs rs hn hw) (gwV wl_X2_64 wm_X1_isClosed we_X1_isClosed wi_X1 wc_X1_isClosed) rfl rfl (by decide +kernel) ⟨Nat.le_of_ble_eq_true rfl, Nat.le_of_ble_eq_true rfl⟩ (hK.sub [1] rfl) (hP.sub [2, 3, 4] rfl) 0 rfl rfl rfl rfl hl.1 rfl (Nat.le_of_ble_eq_true rfl) dX2_corner_51 ⟨Nat.zero_le _, Nat.zero_le _⟩ ?_
          refine zz_topi (z := 0) (congrArg zi (zb_f (by simp; omega))) ?_
          refine zz_if_eq (tgt := 67) hx hb (by omega) dX2_corner_54 (by decide) (fun c_54 => ?_) (fun c_54 => ?_)
          · refine lv_aload hx hb dX2_corner_67 (lv_at hl 0 rfl) ?_
            refine lv_iload_n hx hb dX2_corner_69 rfl (lv_at hl 3 rfl) ?_
            refine lv_iload_n hx hb dX2_corner_70 rfl (lv_at hl 4 rfl) ?_
            refine wrV (As := [.int (zi (h)), .int (zi (r))]) (rest := []) (n := 2) (ws' := [(x0, .inr (2, [.ref pa, .int (zi ((pn : Int))), .ref ba, .int (zi ((bn : Int))), .ref ax, .ref ay, .int (zi ((ln : Int))), .ref sp, .ref ss, .int (zi ((sn : Int))), .ref vs, .ref fr])), (pa, .inl (cQ, 6, .inr (.inr (.inr (.inr (pf)))))), (h0, .inr (1, [.ref h1, .ref h2, .int (zi (((n + 1 : Nat) : Int))), .int (zi (th)), .int (zi (wc))])), (h1, .inl (cA, 12, .inl (zA (zupd hs (n) (h))))), (h2, .inl (cA, 12, .inl (zA (zupd rs (n) (r)))))]) hx hb hml hown hg (c_X1_addCorner_y l dC dI H.size h0 h1 h2 cA n th wc hs rs h r hn hH hR hw hh hr9 hcl hcf) (gwV wl_X2_70 wm_X1_addCorner we_X1_addCorner wi_X1 wc_X1_addCorner) rfl rfl (by decide +kernel) ⟨Nat.le_of_ble_eq_true rfl, Nat.le_of_ble_eq_true rfl⟩ (hK.sub [1] rfl) hP hD hS hA [2, 3, 4] rfl (by decide) [(false, 0), (false, 1), (true, 0), (true, 1), (true, 2)] rfl (by decide) rfl 0 rfl rfl rfl rfl hl.1 rfl (Nat.le_of_ble_eq_true rfl) dX2_corner_71 ⟨Nat.zero_le _, Nat.zero_le _⟩ (fun H locs hP hD hS => ?_)
            have hP9 : va_P (dC, dI) vwCl [(x0, .inr (2, [.ref pa, .int (zi ((pn : Int))), .ref ba, .int (zi ((bn : Int))), .ref ax, .ref ay, .int (zi ((ln : Int))), .ref sp, .ref ss, .int (zi ((sn : Int))), .ref vs, .ref fr])), (pa, .inl (cQ, 6, .inr (.inr (.inr (.inr (pf)))))), (h0, .inr (1, [.ref h1, .ref h2, .int (zi (((n + 1 : Nat) : Int))), .int (zi (th)), .int (zi (wc))])), (h1, .inl (cA, 12, .inl (zA (zupd hs (n) (h))))), (h2, .inl (cA, 12, .inl (zA (zupd rs (n) (r)))))] H := hP
            rw [hQQ]
            exact wr_z hx hb hr hlocks rfl (by first | exact Or.inl rfl | exact Or.inr rfl | omega) hP9 hS dX2_corner_74
          · exact (c_54 rfl).elim
        · exact False.elim (by omega)
    · exact False.elim (by omega)

set_option maxHeartbeats 4000000 in
set_option maxRecDepth 100000 in
theorem c_corner_n (l : Launch) (dC : Nat → ClassId) (dI : Nat → Nat → Nat) (sz : Nat) (x0 pa ba ax ay sp ss vs fr : Nat) (pn bn ln sn : Nat)(cQ : ClassId) (pf : Nat → Option Nat) (h0 h1 h2 : Nat) (cA : ClassId) (n : Nat) (th wc : Int) (hs rs : Nat → Int) (j : Nat) (h r : Int) (hn : n ≤ 12) (hH : ∀ j, 0 ≤ hs j ∧ hs j ≤ 400) (hR : ∀ j, 0 ≤ rs j ∧ rs j ≤ 200) (hj : j < 6) (hf : pf j = some h0) (hh : 0 ≤ h ∧ h ≤ 400) (hr9 : 0 ≤ r ∧ r ≤ 200) (hw : wc = 0 ∨ wc = 1) (hcl : wc = 0 ∧ n < 12) (hcf : p_canf n hs rs h r = false) : Met l yX2_corner (Cond.code yX2_corner cX2_corner 5 ((Option.some Jvm.ClassFile.FieldType.boolean)) :: gw) rm_X2_corner (PcW [.ref x0, .int (zi ((j : Int))), .int (zi (h)), .int (zi (r))] (dC, dI) vwCl [(x0, .inr (2, [.ref pa, .int (zi ((pn : Int))), .ref ba, .int (zi ((bn : Int))), .ref ax, .ref ay, .int (zi ((ln : Int))), .ref sp, .ref ss, .int (zi ((sn : Int))), .ref vs, .ref fr])), (pa, .inl (cQ, 6, .inr (.inr (.inr (.inr (pf)))))), (h0, .inr (1, [.ref h1, .ref h2, .int (zi ((n : Int))), .int (zi (th)), .int (zi (wc))])), (h1, .inl (cA, 12, .inl (zA (hs)))), (h2, .inl (cA, 12, .inl (zA (rs))))] [(cQ, .object "PotVolumes$Profile"), (cA, .int)] sz) (WrQ (some (.int (zi 0))) (dC, dI) vwCl [(x0, .inr (2, [.ref pa, .int (zi ((pn : Int))), .ref ba, .int (zi ((bn : Int))), .ref ax, .ref ay, .int (zi ((ln : Int))), .ref sp, .ref ss, .int (zi ((sn : Int))), .ref vs, .ref fr])), (pa, .inl (cQ, 6, .inr (.inr (.inr (.inr (pf)))))), (h0, .inr (1, [.ref h1, .ref h2, .int (zi ((n : Int))), .int (zi (th)), .int (zi (wc))])), (h1, .inl (cA, 12, .inl (zA (hs)))), (h2, .inl (cA, 12, .inl (zA (rs))))] (va_A [(x0, .inr (2, [.ref pa, .int (zi ((pn : Int))), .ref ba, .int (zi ((bn : Int))), .ref ax, .ref ay, .int (zi ((ln : Int))), .ref sp, .ref ss, .int (zi ((sn : Int))), .ref vs, .ref fr])), (pa, .inl (cQ, 6, .inr (.inr (.inr (.inr (pf)))))), (h0, .inr (1, [.ref h1, .ref h2, .int (zi ((n : Int))), .int (zi (th)), .int (zi (wc))])), (h1, .inl (cA, 12, .inl (zA (hs)))), (h2, .inl (cA, 12, .inl (zA (rs))))] sz)) 0 0 (va_A [(x0, .inr (2, [.ref pa, .int (zi ((pn : Int))), .ref ba, .int (zi ((bn : Int))), .ref ax, .ref ay, .int (zi ((ln : Int))), .ref sp, .ref ss, .int (zi ((sn : Int))), .ref vs, .ref fr])), (pa, .inl (cQ, 6, .inr (.inr (.inr (.inr (pf)))))), (h0, .inr (1, [.ref h1, .ref h2, .int (zi ((n : Int))), .int (zi (th)), .int (zi (wc))])), (h1, .inl (cA, 12, .inl (zA (hs)))), (h2, .inl (cA, 12, .inl (zA (rs))))] sz) := by
  refine Met.ofW (cc := cX2_corner) (maxL := 5) (ret := ((Option.some Jvm.ClassFile.FieldType.boolean))) (by decide) rfl ?_
  intro p e s m args below meth c s₁ B hml hv
  obtain ⟨hargs, hsz, hP, hK, hD0⟩ := hv
  have hx := B.exec
  have hb := B.bytes
  have hr := B.returns
  have hts := atoms_spec (ws := Cond.code yX2_corner cX2_corner 5 ((Option.some Jvm.ClassFile.FieldType.boolean)) :: gw) B.pre
  have hg : ∀ w ∈ gw, w.before args s = true := fun w h => hts w (List.mem_cons_of_mem _ h)
  have hown : s.vm.findClass RX2 = some m.cls := findClass_of_methodNamed B.named
  have hlocks := B.notSynchronized
  subst hsz
  have hD := hD0.self (sz := s.heap.size)
  generalize hAe : va_A [(x0, .inr (2, [.ref pa, .int (zi ((pn : Int))), .ref ba, .int (zi ((bn : Int))), .ref ax, .ref ay, .int (zi ((ln : Int))), .ref sp, .ref ss, .int (zi ((sn : Int))), .ref vs, .ref fr])), (pa, .inl (cQ, 6, .inr (.inr (.inr (.inr (pf)))))), (h0, .inr (1, [.ref h1, .ref h2, .int (zi ((n : Int))), .int (zi (th)), .int (zi (wc))])), (h1, .inl (cA, 12, .inl (zA (hs)))), (h2, .inl (cA, 12, .inl (zA (rs))))] s.heap.size = A at hD ⊢
  have hA : ∀ q : Nat, s.heap.size ≤ q → A q := fun q h => by rw [← hAe]; exact Or.inr h
  show W p l e rm_X2_corner s m args below meth c s.heap [] 0 0 _ _
  have hl := lv_entry ([.ref x0, .int (zi ((j : Int))), .int (zi (h)), .int (zi (r))]) (n := 5) (Nat.le_of_ble_eq_true rfl)
  rw [show entryFrame m args 5 = entryFrame m ([.ref x0, .int (zi ((j : Int))), .int (zi (h)), .int (zi (r))] : List Value).toArray 5 by rw [hargs], lg_entry_eq]
  generalize (lg_sl ([.ref x0, .int (zi ((j : Int))), .int (zi (h)), .int (zi (r))]) ++ List.replicate (5 - (lg_sl ([.ref x0, .int (zi ((j : Int))), .int (zi (h)), .int (zi (r))])).length) Slot.unset).toArray = ls at hl ⊢
  have hl : lv_has ls 5 [(0, .ref x0), (1, .int (zi ((j : Int)))), (2, .int (zi (h))), (3, .int (zi (r)))] := hl
  obtain ⟨QQ, hQQ⟩ : ∃ Q, Q = MQ below (WrQ (some (.int (zi 0))) (dC, dI) vwCl [(x0, .inr (2, [.ref pa, .int (zi ((pn : Int))), .ref ba, .int (zi ((bn : Int))), .ref ax, .ref ay, .int (zi ((ln : Int))), .ref sp, .ref ss, .int (zi ((sn : Int))), .ref vs, .ref fr])), (pa, .inl (cQ, 6, .inr (.inr (.inr (.inr (pf)))))), (h0, .inr (1, [.ref h1, .ref h2, .int (zi ((n : Int))), .int (zi (th)), .int (zi (wc))])), (h1, .inl (cA, 12, .inl (zA (hs)))), (h2, .inl (cA, 12, .inl (zA (rs))))] A) args s 0 0 A := ⟨_, rfl⟩
  rw [← hQQ]
  obtain ⟨H, hHe⟩ : ∃ H : Heap, H = s.heap := ⟨_, rfl⟩
  obtain ⟨locs, hlc⟩ : ∃ x : List Loc, x = [] := ⟨_, rfl⟩
  have hS : va_S A s.heap H locs := by rw [hHe, hlc]; exact va_S.rf
  have hP : va_P (dC, dI) vwCl [(x0, .inr (2, [.ref pa, .int (zi ((pn : Int))), .ref ba, .int (zi ((bn : Int))), .ref ax, .ref ay, .int (zi ((ln : Int))), .ref sp, .ref ss, .int (zi ((sn : Int))), .ref vs, .ref fr])), (pa, .inl (cQ, 6, .inr (.inr (.inr (.inr (pf)))))), (h0, .inr (1, [.ref h1, .ref h2, .int (zi ((n : Int))), .int (zi (th)), .int (zi (wc))])), (h1, .inl (cA, 12, .inl (zA (hs)))), (h2, .inl (cA, 12, .inl (zA (rs))))] H := by rw [hHe]; exact hP
  have hD : va_D A [(x0, .inr (2, [.ref pa, .int (zi ((pn : Int))), .ref ba, .int (zi ((bn : Int))), .ref ax, .ref ay, .int (zi ((ln : Int))), .ref sp, .ref ss, .int (zi ((sn : Int))), .ref vs, .ref fr])), (pa, .inl (cQ, 6, .inr (.inr (.inr (.inr (pf)))))), (h0, .inr (1, [.ref h1, .ref h2, .int (zi ((n : Int))), .int (zi (th)), .int (zi (wc))])), (h1, .inl (cA, 12, .inl (zA (hs)))), (h2, .inl (cA, 12, .inl (zA (rs))))] := hD
  rw [← hHe, ← hlc]
  refine lv_aload_n hx hb dX2_corner_0 rfl (lv_at hl 0 rfl) ?_
  refine lv_iload_n hx hb dX2_corner_1 rfl (lv_at hl 1 rfl) ?_
  refine rdV (As := [.int (zi ((j : Int)))]) (rest := []) (n := 1) hx hb hml hown hg (c_X2_profileOf l dC dI x0 pa ba ax ay sp ss vs fr pn bn ln sn cQ pf j h0 hj hf) (gwV wl_X2_53 wm_X2_profileOf we_X2_profileOf wi_X2 wc_X2_profileOf) rfl rfl (by decide +kernel) ⟨Nat.le_of_ble_eq_true rfl, Nat.le_of_ble_eq_true rfl⟩ (hK.sub [0] rfl) (hP.sub [0, 1] rfl) 0 rfl rfl rfl rfl hl.1 rfl (Nat.le_of_ble_eq_true rfl) dX2_corner_2 ⟨Nat.zero_le _, Nat.zero_le _⟩ ?_
  refine lv_astore (lv' := [(4, .ref h0), (0, .ref x0), (1, .int (zi ((j : Int)))), (2, .int (zi (h))), (3, .int (zi (r)))]) hx hb dX2_corner_5 hl (by decide) rfl (fun ls hl => ?_)
  refine lv_iload_n hx hb dX2_corner_7 rfl (lv_at hl 3 rfl) ?_
  refine zz_if_lt (tgt := 18) hx hb (by omega) dX2_corner_8 (by decide) (fun c_8 => ?_) (fun c_8 => ?_)
  · exact False.elim (by omega)
  · refine lv_iload_n hx hb dX2_corner_11 rfl (lv_at hl 3 rfl) ?_
    refine lv_sipush (v := zi (400)) hx hb dX2_corner_12 (by decide) ?_
    refine zz_icmp_le (tgt := 28) hx hb (by omega) (by omega) dX2_corner_15 (by decide) (fun c_15 => ?_) (fun c_15 => ?_)
    · refine lv_iload_n hx hb dX2_corner_28 rfl (lv_at hl 4 rfl) ?_
      refine zz_if_lt (tgt := 39) hx hb (by omega) dX2_corner_29 (by decide) (fun c_29 => ?_) (fun c_29 => ?_)
      · exact False.elim (by omega)
      · refine lv_iload_n hx hb dX2_corner_32 rfl (lv_at hl 4 rfl) ?_
        refine lv_sipush (v := zi (200)) hx hb dX2_corner_33 (by decide) ?_
        refine zz_icmp_le (tgt := 49) hx hb (by omega) (by omega) dX2_corner_36 (by decide) (fun c_36 => ?_) (fun c_36 => ?_)
        · refine lv_aload hx hb dX2_corner_49 (lv_at hl 0 rfl) ?_
          refine rdV (As := []) (rest := []) (n := 0) hx hb hml hown hg (c_X1_isClosed l dC dI h0 h1 h2 cA n th wc hs rs hn hw) (gwV wl_X2_64 wm_X1_isClosed we_X1_isClosed wi_X1 wc_X1_isClosed) rfl rfl (by decide +kernel) ⟨Nat.le_of_ble_eq_true rfl, Nat.le_of_ble_eq_true rfl⟩ (hK.sub [1] rfl) (hP.sub [2, 3, 4] rfl) 0 rfl rfl rfl rfl hl.1 rfl (Nat.le_of_ble_eq_true rfl) dX2_corner_51 ⟨Nat.zero_le _, Nat.zero_le _⟩ ?_
          refine zz_topi (z := 0) (congrArg zi (zb_f (by simp; omega))) ?_
          refine zz_if_eq (tgt := 67) hx hb (by omega) dX2_corner_54 (by decide) (fun c_54 => ?_) (fun c_54 => ?_)
          · refine lv_aload hx hb dX2_corner_67 (lv_at hl 0 rfl) ?_
            refine lv_iload_n hx hb dX2_corner_69 rfl (lv_at hl 3 rfl) ?_
            refine lv_iload_n hx hb dX2_corner_70 rfl (lv_at hl 4 rfl) ?_
            refine wrV (As := [.int (zi (h)), .int (zi (r))]) (rest := []) (n := 2) (ws' := [(x0, .inr (2, [.ref pa, .int (zi ((pn : Int))), .ref ba, .int (zi ((bn : Int))), .ref ax, .ref ay, .int (zi ((ln : Int))), .ref sp, .ref ss, .int (zi ((sn : Int))), .ref vs, .ref fr])), (pa, .inl (cQ, 6, .inr (.inr (.inr (.inr (pf)))))), (h0, .inr (1, [.ref h1, .ref h2, .int (zi ((n : Int))), .int (zi (th)), .int (zi (wc))])), (h1, .inl (cA, 12, .inl (zA (hs)))), (h2, .inl (cA, 12, .inl (zA (rs))))]) hx hb hml hown hg (c_X1_addCorner_n l dC dI H.size h0 h1 h2 cA n th wc hs rs h r hn hH hR hw hh hr9 hcl hcf) (gwV wl_X2_70 wm_X1_addCorner we_X1_addCorner wi_X1 wc_X1_addCorner) rfl rfl (by decide +kernel) ⟨Nat.le_of_ble_eq_true rfl, Nat.le_of_ble_eq_true rfl⟩ (hK.sub [1] rfl) hP hD hS hA [2, 3, 4] rfl (by decide) [(false, 0), (false, 1), (true, 0), (true, 1), (true, 2)] rfl (by decide) rfl 0 rfl rfl rfl rfl hl.1 rfl (Nat.le_of_ble_eq_true rfl) dX2_corner_71 ⟨Nat.zero_le _, Nat.zero_le _⟩ (fun H locs hP hD hS => ?_)
            have hP9 : va_P (dC, dI) vwCl [(x0, .inr (2, [.ref pa, .int (zi ((pn : Int))), .ref ba, .int (zi ((bn : Int))), .ref ax, .ref ay, .int (zi ((ln : Int))), .ref sp, .ref ss, .int (zi ((sn : Int))), .ref vs, .ref fr])), (pa, .inl (cQ, 6, .inr (.inr (.inr (.inr (pf)))))), (h0, .inr (1, [.ref h1, .ref h2, .int (zi ((n : Int))), .int (zi (th)), .int (zi (wc))])), (h1, .inl (cA, 12, .inl (zA (hs)))), (h2, .inl (cA, 12, .inl (zA (rs))))] H := hP
            rw [hQQ]
            exact wr_z hx hb hr hlocks rfl (by first | exact Or.inl rfl | exact Or.inr rfl | omega) hP9 hS dX2_corner_74
          · exact (c_54 rfl).elim
        · exact False.elim (by omega)
    · exact False.elim (by omega)

set_option maxHeartbeats 4000000 in
set_option maxRecDepth 100000 in
theorem t_at_w (l : Launch) (hl0 : l.stackTraces = false) (dC : Nat → ClassId) (dI : Nat → Nat → Nat) (x0 pa ba ax ay sp ss vs fr : Nat) (pn bn ln sn : Nat)(cQ : ClassId) (pf : Nat → Option Nat) (h0 h1 h2 : Nat) (cA : ClassId) (n : Nat) (th wc : Int) (hs rs : Nat → Int) (j : Nat) (k what : Int) (hn : n ≤ 12) (hH : ∀ j, 0 ≤ hs j ∧ hs j ≤ 400) (hR : ∀ j, 0 ≤ rs j ∧ rs j ≤ 200) (hj : j < 6) (hf : pf j = some h0) (h_k : -2147483648 ≤ k ∧ k < 2147483648) (h_what : -2147483648 ≤ what ∧ what < 2147483648) (hbad : ¬ (what = 0 ∨ what = 1)) : ThM l yX2_at cX2_at 5 ((Option.some Jvm.ClassFile.FieldType.int)) rt_X2_at (PcT [.ref x0, .int (zi ((j : Int))), .int (zi (k)), .int (zi (what))] (dC, dI) vwCl [(x0, .inr (2, [.ref pa, .int (zi ((pn : Int))), .ref ba, .int (zi ((bn : Int))), .ref ax, .ref ay, .int (zi ((ln : Int))), .ref sp, .ref ss, .int (zi ((sn : Int))), .ref vs, .ref fr])), (pa, .inl (cQ, 6, .inr (.inr (.inr (.inr (pf)))))), (h0, .inr (1, [.ref h1, .ref h2, .int (zi ((n : Int))), .int (zi (th)), .int (zi (wc))])), (h1, .inl (cA, 12, .inl (zA (hs)))), (h2, .inl (cA, 12, .inl (zA (rs))))] [(cQ, .object "PotVolumes$Profile"), (cA, .int)]) KI := by
  refine vx_ofW (cc := cX2_at) (maxL := 5) (ret := ((Option.some Jvm.ClassFile.FieldType.int))) (by decide) rfl ?_
  intro p e s m args below meth c s₁ B hml hno hv
  obtain ⟨hargs, hP, hK, hE⟩ := hv
  have hx := B.exec
  have hb := B.bytes
  have hr := B.returns
  have hts := atoms_spec (ws := Cond.code yX2_at cX2_at 5 ((Option.some Jvm.ClassFile.FieldType.int)) :: gw) B.pre
  have hg : ∀ w ∈ gw, w.before args s = true := fun w h => hts w (List.mem_cons_of_mem _ h)
  have hown : s.vm.findClass RX2 = some m.cls := findClass_of_methodNamed B.named
  have hlocks := B.notSynchronized
  show W p l e rt_X2_at s m args below meth c s.heap [] 0 0 _ _
  have hl := lv_entry ([.ref x0, .int (zi ((j : Int))), .int (zi (k)), .int (zi (what))]) (n := 5) (Nat.le_of_ble_eq_true rfl)
  rw [show entryFrame m args 5 = entryFrame m ([.ref x0, .int (zi ((j : Int))), .int (zi (k)), .int (zi (what))] : List Value).toArray 5 by rw [hargs], lg_entry_eq]
  generalize (lg_sl ([.ref x0, .int (zi ((j : Int))), .int (zi (k)), .int (zi (what))]) ++ List.replicate (5 - (lg_sl ([.ref x0, .int (zi ((j : Int))), .int (zi (k)), .int (zi (what))])).length) Slot.unset).toArray = ls at hl ⊢
  have hl : lv_has ls 5 [(0, .ref x0), (1, .int (zi ((j : Int)))), (2, .int (zi (k))), (3, .int (zi (what)))] := hl
  obtain ⟨QQ, hQQ⟩ : ∃ Q, Q = vx_MQ below QF (XK KI) args s 1 6 (fun _ => False) := ⟨_, rfl⟩
  rw [← hQQ]
  refine lv_aload_n hx hb dX2_at_0 rfl (lv_at hl 0 rfl) ?_
  refine lv_iload_n hx hb dX2_at_1 rfl (lv_at hl 1 rfl) ?_
  refine rdV (As := [.int (zi ((j : Int)))]) (rest := []) (n := 1) hx hb hml hown hg (c_X2_profileOf l dC dI x0 pa ba ax ay sp ss vs fr pn bn ln sn cQ pf j h0 hj hf) (gwV wl_X2_53 wm_X2_profileOf we_X2_profileOf wi_X2 wc_X2_profileOf) rfl rfl (by decide +kernel) ⟨Nat.le_of_ble_eq_true rfl, Nat.le_of_ble_eq_true rfl⟩ (hK.sub [0] rfl) (hP.sub [0, 1] rfl) 0 rfl rfl rfl rfl hl.1 rfl (Nat.le_of_ble_eq_true rfl) dX2_at_2 ⟨Nat.zero_le _, Nat.zero_le _⟩ ?_
  refine lv_astore (lv' := [(4, .ref h0), (0, .ref x0), (1, .int (zi ((j : Int)))), (2, .int (zi (k))), (3, .int (zi (what)))]) hx hb dX2_at_5 hl (by decide) rfl (fun ls hl => ?_)
  refine lv_iload_n hx hb dX2_at_7 rfl (lv_at hl 4 rfl) ?_
  rw [hQQ]
  exact thS (As := [.int (zi (what))]) (rest := []) (n := 1) hx hb hml hown hg (t_X2_needOneOfTwo l hl0 (what) h_what hbad) (gwS wl_X2_74 wt_X2_needOneOfTwo wi_X2 wc_X2_needOneOfTwo) rfl rfl (by decide +kernel) ⟨Nat.le_of_ble_eq_true rfl, Nat.le_of_ble_eq_true rfl⟩ hE rfl hl.1 rfl (Nat.le_of_ble_eq_true rfl) dX2_at_8 ⟨Nat.le_of_ble_eq_true rfl, Nat.le_of_ble_eq_true rfl⟩ hno hlocks

set_option maxHeartbeats 4000000 in
set_option maxRecDepth 100000 in
theorem t_at_k (l : Launch) (hl0 : l.stackTraces = false) (dC : Nat → ClassId) (dI : Nat → Nat → Nat) (x0 pa ba ax ay sp ss vs fr : Nat) (pn bn ln sn : Nat)(cQ : ClassId) (pf : Nat → Option Nat) (h0 h1 h2 : Nat) (cA : ClassId) (n : Nat) (th wc : Int) (hs rs : Nat → Int) (j : Nat) (k what : Int) (hn : n ≤ 12) (hH : ∀ j, 0 ≤ hs j ∧ hs j ≤ 400) (hR : ∀ j, 0 ≤ rs j ∧ rs j ≤ 200) (hj : j < 6) (hf : pf j = some h0) (h_k : -2147483648 ≤ k ∧ k < 2147483648) (h_what : -2147483648 ≤ what ∧ what < 2147483648) (hwh : what = 0 ∨ what = 1) (hbad : k ≠ -1 ∧ ¬ (0 ≤ k ∧ k < n)) : ThM l yX2_at cX2_at 5 ((Option.some Jvm.ClassFile.FieldType.int)) rt_X2_at (PcT [.ref x0, .int (zi ((j : Int))), .int (zi (k)), .int (zi (what))] (dC, dI) vwCl [(x0, .inr (2, [.ref pa, .int (zi ((pn : Int))), .ref ba, .int (zi ((bn : Int))), .ref ax, .ref ay, .int (zi ((ln : Int))), .ref sp, .ref ss, .int (zi ((sn : Int))), .ref vs, .ref fr])), (pa, .inl (cQ, 6, .inr (.inr (.inr (.inr (pf)))))), (h0, .inr (1, [.ref h1, .ref h2, .int (zi ((n : Int))), .int (zi (th)), .int (zi (wc))])), (h1, .inl (cA, 12, .inl (zA (hs)))), (h2, .inl (cA, 12, .inl (zA (rs))))] [(cQ, .object "PotVolumes$Profile"), (cA, .int)]) KI := by
  refine vx_ofW (cc := cX2_at) (maxL := 5) (ret := ((Option.some Jvm.ClassFile.FieldType.int))) (by decide) rfl ?_
  intro p e s m args below meth c s₁ B hml hno hv
  obtain ⟨hargs, hP, hK, hE⟩ := hv
  have hx := B.exec
  have hb := B.bytes
  have hr := B.returns
  have hts := atoms_spec (ws := Cond.code yX2_at cX2_at 5 ((Option.some Jvm.ClassFile.FieldType.int)) :: gw) B.pre
  have hg : ∀ w ∈ gw, w.before args s = true := fun w h => hts w (List.mem_cons_of_mem _ h)
  have hown : s.vm.findClass RX2 = some m.cls := findClass_of_methodNamed B.named
  have hlocks := B.notSynchronized
  show W p l e rt_X2_at s m args below meth c s.heap [] 0 0 _ _
  have hl := lv_entry ([.ref x0, .int (zi ((j : Int))), .int (zi (k)), .int (zi (what))]) (n := 5) (Nat.le_of_ble_eq_true rfl)
  rw [show entryFrame m args 5 = entryFrame m ([.ref x0, .int (zi ((j : Int))), .int (zi (k)), .int (zi (what))] : List Value).toArray 5 by rw [hargs], lg_entry_eq]
  generalize (lg_sl ([.ref x0, .int (zi ((j : Int))), .int (zi (k)), .int (zi (what))]) ++ List.replicate (5 - (lg_sl ([.ref x0, .int (zi ((j : Int))), .int (zi (k)), .int (zi (what))])).length) Slot.unset).toArray = ls at hl ⊢
  have hl : lv_has ls 5 [(0, .ref x0), (1, .int (zi ((j : Int)))), (2, .int (zi (k))), (3, .int (zi (what)))] := hl
  obtain ⟨QQ, hQQ⟩ : ∃ Q, Q = vx_MQ below QF (XK KI) args s 1 6 (fun _ => False) := ⟨_, rfl⟩
  rw [← hQQ]
  refine lv_aload_n hx hb dX2_at_0 rfl (lv_at hl 0 rfl) ?_
  refine lv_iload_n hx hb dX2_at_1 rfl (lv_at hl 1 rfl) ?_
  refine rdV (As := [.int (zi ((j : Int)))]) (rest := []) (n := 1) hx hb hml hown hg (c_X2_profileOf l dC dI x0 pa ba ax ay sp ss vs fr pn bn ln sn cQ pf j h0 hj hf) (gwV wl_X2_53 wm_X2_profileOf we_X2_profileOf wi_X2 wc_X2_profileOf) rfl rfl (by decide +kernel) ⟨Nat.le_of_ble_eq_true rfl, Nat.le_of_ble_eq_true rfl⟩ (hK.sub [0] rfl) (hP.sub [0, 1] rfl) 0 rfl rfl rfl rfl hl.1 rfl (Nat.le_of_ble_eq_true rfl) dX2_at_2 ⟨Nat.zero_le _, Nat.zero_le _⟩ ?_
  refine lv_astore (lv' := [(4, .ref h0), (0, .ref x0), (1, .int (zi ((j : Int)))), (2, .int (zi (k))), (3, .int (zi (what)))]) hx hb dX2_at_5 hl (by decide) rfl (fun ls hl => ?_)
  refine lv_iload_n hx hb dX2_at_7 rfl (lv_at hl 4 rfl) ?_
  refine rdS (As := [.int (zi (what))]) (rest := []) (n := 1) hx hb hml hown hg (c_X2_needOneOfTwo l (what) hwh) (gwS wl_X2_74 wt_X2_needOneOfTwo wi_X2 wc_X2_needOneOfTwo) rfl rfl (by decide +kernel) ⟨Nat.le_of_ble_eq_true rfl, Nat.le_of_ble_eq_true rfl⟩ rfl hl.1 rfl (Nat.le_of_ble_eq_true rfl) dX2_at_8 ⟨Nat.zero_le _, Nat.zero_le _⟩ ?_
  refine lv_iload_n hx hb dX2_at_11 rfl (lv_at hl 3 rfl) ?_
  refine lv_iconst (v := zi (-1)) hx hb dX2_at_12 rfl ?_
  refine zz_icmp_ne (tgt := 22) hx hb (by omega) (by omega) dX2_at_13 (by decide) (fun c_13 => ?_) (fun c_13 => ?_)
  · refine lv_iload_n hx hb dX2_at_22 rfl (lv_at hl 3 rfl) ?_
    refine zz_if_lt (tgt := 35) hx hb (by omega) dX2_at_23 (by decide) (fun c_23 => ?_) (fun c_23 => ?_)
    · rw [hQQ]
      exact thr (K := KI) hx hb hl0 hown hE (by decide +kernel) (hg _ wl_X2_81) (hg _ wi_IndexOutOfBoundsException) (by decide) (xh_I hg hE) xh_ot.1 hml hl.1 dX2_at_35 dX2_at_38 dX2_at_39 dX2_at_41 dX2_at_44 hno hlocks (Nat.le_of_ble_eq_true rfl) (Nat.le_of_ble_eq_true rfl) (Nat.le_of_ble_eq_true rfl) (Nat.le_of_ble_eq_true rfl)
    · refine lv_iload_n hx hb dX2_at_26 rfl (lv_at hl 3 rfl) ?_
      refine lv_aload hx hb dX2_at_27 (lv_at hl 0 rfl) ?_
      refine va_get (D := (dC, dI)) (ci := 1) (v := .int (zi ((n : Int)))) (C := RX1) (T := TX1) (N := 5) hx hb hg inX1 hown hK hP 2 rfl rfl 2 (by decide) (hg _ wl_X2_78) (fun _ h9 => h9) rfl dX2_at_29 ?_
      refine zz_icmp_lt (tgt := 45) hx hb (by omega) (by omega) dX2_at_32 (by decide) (fun c_32 => ?_) (fun c_32 => ?_)
      · exact False.elim (by omega)
      · rw [hQQ]
        exact thr (K := KI) hx hb hl0 hown hE (by decide +kernel) (hg _ wl_X2_81) (hg _ wi_IndexOutOfBoundsException) (by decide) (xh_I hg hE) xh_ot.1 hml hl.1 dX2_at_35 dX2_at_38 dX2_at_39 dX2_at_41 dX2_at_44 hno hlocks (Nat.le_of_ble_eq_true rfl) (Nat.le_of_ble_eq_true rfl) (Nat.le_of_ble_eq_true rfl) (Nat.le_of_ble_eq_true rfl)
  · refine lv_aload hx hb dX2_at_16 (lv_at hl 0 rfl) ?_
    refine va_get (D := (dC, dI)) (ci := 1) (v := .int (zi ((n : Int)))) (C := RX1) (T := TX1) (N := 5) hx hb hg inX1 hown hK hP 2 rfl rfl 2 (by decide) (hg _ wl_X2_78) (fun _ h9 => h9) rfl dX2_at_18 ?_
    exact False.elim (by omega)

abbrev rm_X2_at : Room := { frames := 7, cells := 0, slots := 0, locals := 122 }
set_option maxHeartbeats 4000000 in
set_option maxRecDepth 100000 in
theorem c_at (l : Launch) (dC : Nat → ClassId) (dI : Nat → Nat → Nat) (x0 pa ba ax ay sp ss vs fr : Nat) (pn bn ln sn : Nat)(cQ : ClassId) (pf : Nat → Option Nat) (h0 h1 h2 : Nat) (cA : ClassId) (n : Nat) (th wc : Int) (hs rs : Nat → Int) (j : Nat) (k what : Int) (hn : n ≤ 12) (hH : ∀ j, 0 ≤ hs j ∧ hs j ≤ 400) (hR : ∀ j, 0 ≤ rs j ∧ rs j ≤ 200) (hj : j < 6) (hf : pf j = some h0) (h_k : -2147483648 ≤ k ∧ k < 2147483648) (h_what : -2147483648 ≤ what ∧ what < 2147483648) (hwh : what = 0 ∨ what = 1) (hok : k = -1 ∨ (0 ≤ k ∧ k < n)) : Met l yX2_at (Cond.code yX2_at cX2_at 5 ((Option.some Jvm.ClassFile.FieldType.int)) :: gw) rm_X2_at (PcR [.ref x0, .int (zi ((j : Int))), .int (zi (k)), .int (zi (what))] (dC, dI) vwCl [(x0, .inr (2, [.ref pa, .int (zi ((pn : Int))), .ref ba, .int (zi ((bn : Int))), .ref ax, .ref ay, .int (zi ((ln : Int))), .ref sp, .ref ss, .int (zi ((sn : Int))), .ref vs, .ref fr])), (pa, .inl (cQ, 6, .inr (.inr (.inr (.inr (pf)))))), (h0, .inr (1, [.ref h1, .ref h2, .int (zi ((n : Int))), .int (zi (th)), .int (zi (wc))])), (h1, .inl (cA, 12, .inl (zA (hs)))), (h2, .inl (cA, 12, .inl (zA (rs))))] [(cQ, .object "PotVolumes$Profile"), (cA, .int)]) (RdQ (some (.int (zi (p_at n hs rs k what))))) 0 0 (fun _ => False) := by
  refine Met.ofW (cc := cX2_at) (maxL := 5) (ret := ((Option.some Jvm.ClassFile.FieldType.int))) (by decide) rfl ?_
  intro p e s m args below meth c s₁ B hml hv
  obtain ⟨hargs, hP, hK⟩ := hv
  have hx := B.exec
  have hb := B.bytes
  have hr := B.returns
  have hts := atoms_spec (ws := Cond.code yX2_at cX2_at 5 ((Option.some Jvm.ClassFile.FieldType.int)) :: gw) B.pre
  have hg : ∀ w ∈ gw, w.before args s = true := fun w h => hts w (List.mem_cons_of_mem _ h)
  have hown : s.vm.findClass RX2 = some m.cls := findClass_of_methodNamed B.named
  have hlocks := B.notSynchronized
  show W p l e rm_X2_at s m args below meth c s.heap [] 0 0 _ _
  have hl := lv_entry ([.ref x0, .int (zi ((j : Int))), .int (zi (k)), .int (zi (what))]) (n := 5) (Nat.le_of_ble_eq_true rfl)
  rw [show entryFrame m args 5 = entryFrame m ([.ref x0, .int (zi ((j : Int))), .int (zi (k)), .int (zi (what))] : List Value).toArray 5 by rw [hargs], lg_entry_eq]
  generalize (lg_sl ([.ref x0, .int (zi ((j : Int))), .int (zi (k)), .int (zi (what))]) ++ List.replicate (5 - (lg_sl ([.ref x0, .int (zi ((j : Int))), .int (zi (k)), .int (zi (what))])).length) Slot.unset).toArray = ls at hl ⊢
  have hl : lv_has ls 5 [(0, .ref x0), (1, .int (zi ((j : Int)))), (2, .int (zi (k))), (3, .int (zi (what)))] := hl
  obtain ⟨QQ, hQQ⟩ : ∃ Q, Q = MQ below (RdQ (some (.int (zi (p_at n hs rs k what))))) args s 0 0 (fun _ => False) := ⟨_, rfl⟩
  rw [← hQQ]
  refine lv_aload_n hx hb dX2_at_0 rfl (lv_at hl 0 rfl) ?_
  refine lv_iload_n hx hb dX2_at_1 rfl (lv_at hl 1 rfl) ?_
  refine rdV (As := [.int (zi ((j : Int)))]) (rest := []) (n := 1) hx hb hml hown hg (c_X2_profileOf l dC dI x0 pa ba ax ay sp ss vs fr pn bn ln sn cQ pf j h0 hj hf) (gwV wl_X2_53 wm_X2_profileOf we_X2_profileOf wi_X2 wc_X2_profileOf) rfl rfl (by decide +kernel) ⟨Nat.le_of_ble_eq_true rfl, Nat.le_of_ble_eq_true rfl⟩ (hK.sub [0] rfl) (hP.sub [0, 1] rfl) 0 rfl rfl rfl rfl hl.1 rfl (Nat.le_of_ble_eq_true rfl) dX2_at_2 ⟨Nat.zero_le _, Nat.zero_le _⟩ ?_
  refine lv_astore (lv' := [(4, .ref h0), (0, .ref x0), (1, .int (zi ((j : Int)))), (2, .int (zi (k))), (3, .int (zi (what)))]) hx hb dX2_at_5 hl (by decide) rfl (fun ls hl => ?_)
  refine lv_iload_n hx hb dX2_at_7 rfl (lv_at hl 4 rfl) ?_
  refine rdS (As := [.int (zi (what))]) (rest := []) (n := 1) hx hb hml hown hg (c_X2_needOneOfTwo l (what) hwh) (gwS wl_X2_74 wt_X2_needOneOfTwo wi_X2 wc_X2_needOneOfTwo) rfl rfl (by decide +kernel) ⟨Nat.le_of_ble_eq_true rfl, Nat.le_of_ble_eq_true rfl⟩ rfl hl.1 rfl (Nat.le_of_ble_eq_true rfl) dX2_at_8 ⟨Nat.zero_le _, Nat.zero_le _⟩ ?_
  refine lv_iload_n hx hb dX2_at_11 rfl (lv_at hl 3 rfl) ?_
  refine lv_iconst (v := zi (-1)) hx hb dX2_at_12 rfl ?_
  refine zz_icmp_ne (tgt := 22) hx hb (by omega) (by omega) dX2_at_13 (by decide) (fun c_13 => ?_) (fun c_13 => ?_)
  · refine lv_iload_n hx hb dX2_at_22 rfl (lv_at hl 3 rfl) ?_
    refine zz_if_lt (tgt := 35) hx hb (by omega) dX2_at_23 (by decide) (fun c_23 => ?_) (fun c_23 => ?_)
    · exact False.elim (by omega)
    · refine lv_iload_n hx hb dX2_at_26 rfl (lv_at hl 3 rfl) ?_
      refine lv_aload hx hb dX2_at_27 (lv_at hl 0 rfl) ?_
      refine va_get (D := (dC, dI)) (ci := 1) (v := .int (zi ((n : Int)))) (C := RX1) (T := TX1) (N := 5) hx hb hg inX1 hown hK hP 2 rfl rfl 2 (by decide) (hg _ wl_X2_78) (fun _ h9 => h9) rfl dX2_at_29 ?_
      refine zz_icmp_lt (tgt := 45) hx hb (by omega) (by omega) dX2_at_32 (by decide) (fun c_32 => ?_) (fun c_32 => ?_)
      · refine lv_iload_n hx hb dX2_at_45 rfl (lv_at hl 4 rfl) ?_
        refine zz_if_ne (tgt := 59) hx hb (by omega) dX2_at_46 (by decide) (fun c_46 => ?_) (fun c_46 => ?_)
        · refine lv_aload hx hb dX2_at_59 (lv_at hl 0 rfl) ?_
          refine va_get (D := (dC, dI)) (ci := 1) (v := .ref h2) (C := RX1) (T := TX1) (N := 5) hx hb hg inX1 hown hK hP 2 rfl rfl 1 (by decide) (hg _ wl_X2_89) (fun _ h9 => h9) rfl dX2_at_61 ?_
          refine lv_iload_n hx hb dX2_at_64 rfl (lv_at hl 3 rfl) ?_
          refine zz_iald hx hb hK hP 4 1 rfl rfl (k.toNat) (by omega) (by omega) (by decide) dX2_at_65 ?_
          have hv_1 := hR (k.toNat)
          rw [hQQ]
          exact rd_i hx hb hr hlocks (by unfold p_at; rw [if_neg (by omega), if_neg (by omega)]) dX2_at_66
        · refine lv_aload hx hb dX2_at_49 (lv_at hl 0 rfl) ?_
          refine va_get (D := (dC, dI)) (ci := 1) (v := .ref h1) (C := RX1) (T := TX1) (N := 5) hx hb hg inX1 hown hK hP 2 rfl rfl 0 (by decide) (hg _ wl_X2_86) (fun _ h9 => h9) rfl dX2_at_51 ?_
          refine lv_iload_n hx hb dX2_at_54 rfl (lv_at hl 3 rfl) ?_
          refine zz_iald hx hb hK hP 3 1 rfl rfl (k.toNat) (by omega) (by omega) (by decide) dX2_at_55 ?_
          have hv_2 := hH (k.toNat)
          refine lv_goto (tgt := 66) hx hb dX2_at_56 (by decide) ?_
          rw [hQQ]
          exact rd_i hx hb hr hlocks (by unfold p_at; rw [if_neg (by omega), if_pos (by omega)]) dX2_at_66
      · exact False.elim (by omega)
  · refine lv_aload hx hb dX2_at_16 (lv_at hl 0 rfl) ?_
    refine va_get (D := (dC, dI)) (ci := 1) (v := .int (zi ((n : Int)))) (C := RX1) (T := TX1) (N := 5) hx hb hg inX1 hown hK hP 2 rfl rfl 2 (by decide) (hg _ wl_X2_78) (fun _ h9 => h9) rfl dX2_at_18 ?_
    rw [hQQ]
    exact rd_i hx hb hr hlocks (by unfold p_at; rw [if_pos (by omega)]) dX2_at_21

abbrev rm_X2_radius : Room := { frames := 7, cells := 0, slots := 0, locals := 122 }
set_option maxHeartbeats 4000000 in
set_option maxRecDepth 100000 in
theorem c_radius (l : Launch) (dC : Nat → ClassId) (dI : Nat → Nat → Nat) (x0 pa ba ax ay sp ss vs fr : Nat) (pn bn ln sn : Nat)(cQ : ClassId) (pf : Nat → Option Nat) (h0 h1 h2 : Nat) (cA : ClassId) (n : Nat) (th wc : Int) (hs rs : Nat → Int) (j : Nat) (h : Int) (hn : n ≤ 12) (hH : ∀ j, 0 ≤ hs j ∧ hs j ≤ 400) (hR : ∀ j, 0 ≤ rs j ∧ rs j ≤ 200) (hj : j < 6) (hf : pf j = some h0) (hh : -2147483648 ≤ h ∧ h < 2147483648) : Met l yX2_radius (Cond.code yX2_radius cX2_radius 3 ((Option.some Jvm.ClassFile.FieldType.int)) :: gw) rm_X2_radius (PcR [.ref x0, .int (zi ((j : Int))), .int (zi (h))] (dC, dI) vwCl [(x0, .inr (2, [.ref pa, .int (zi ((pn : Int))), .ref ba, .int (zi ((bn : Int))), .ref ax, .ref ay, .int (zi ((ln : Int))), .ref sp, .ref ss, .int (zi ((sn : Int))), .ref vs, .ref fr])), (pa, .inl (cQ, 6, .inr (.inr (.inr (.inr (pf)))))), (h0, .inr (1, [.ref h1, .ref h2, .int (zi ((n : Int))), .int (zi (th)), .int (zi (wc))])), (h1, .inl (cA, 12, .inl (zA (hs)))), (h2, .inl (cA, 12, .inl (zA (rs))))] [(cQ, .object "PotVolumes$Profile"), (cA, .int)]) (RdQ (some (.int (zi (p_radius n hs rs h))))) 0 0 (fun _ => False) := by
  refine Met.ofW (cc := cX2_radius) (maxL := 3) (ret := ((Option.some Jvm.ClassFile.FieldType.int))) (by decide) rfl ?_
  intro p e s m args below meth c s₁ B hml hv
  obtain ⟨hargs, hP, hK⟩ := hv
  have hx := B.exec
  have hb := B.bytes
  have hr := B.returns
  have hts := atoms_spec (ws := Cond.code yX2_radius cX2_radius 3 ((Option.some Jvm.ClassFile.FieldType.int)) :: gw) B.pre
  have hg : ∀ w ∈ gw, w.before args s = true := fun w h => hts w (List.mem_cons_of_mem _ h)
  have hown : s.vm.findClass RX2 = some m.cls := findClass_of_methodNamed B.named
  have hlocks := B.notSynchronized
  show W p l e rm_X2_radius s m args below meth c s.heap [] 0 0 _ _
  have hl := lv_entry ([.ref x0, .int (zi ((j : Int))), .int (zi (h))]) (n := 3) (Nat.le_of_ble_eq_true rfl)
  rw [show entryFrame m args 3 = entryFrame m ([.ref x0, .int (zi ((j : Int))), .int (zi (h))] : List Value).toArray 3 by rw [hargs], lg_entry_eq]
  generalize (lg_sl ([.ref x0, .int (zi ((j : Int))), .int (zi (h))]) ++ List.replicate (3 - (lg_sl ([.ref x0, .int (zi ((j : Int))), .int (zi (h))])).length) Slot.unset).toArray = ls at hl ⊢
  have hl : lv_has ls 3 [(0, .ref x0), (1, .int (zi ((j : Int)))), (2, .int (zi (h)))] := hl
  obtain ⟨QQ, hQQ⟩ : ∃ Q, Q = MQ below (RdQ (some (.int (zi (p_radius n hs rs h))))) args s 0 0 (fun _ => False) := ⟨_, rfl⟩
  rw [← hQQ]
  refine lv_aload_n hx hb dX2_radius_0 rfl (lv_at hl 0 rfl) ?_
  refine lv_iload_n hx hb dX2_radius_1 rfl (lv_at hl 1 rfl) ?_
  refine rdV (As := [.int (zi ((j : Int)))]) (rest := []) (n := 1) hx hb hml hown hg (c_X2_profileOf l dC dI x0 pa ba ax ay sp ss vs fr pn bn ln sn cQ pf j h0 hj hf) (gwV wl_X2_53 wm_X2_profileOf we_X2_profileOf wi_X2 wc_X2_profileOf) rfl rfl (by decide +kernel) ⟨Nat.le_of_ble_eq_true rfl, Nat.le_of_ble_eq_true rfl⟩ (hK.sub [0] rfl) (hP.sub [0, 1] rfl) 0 rfl rfl rfl rfl hl.1 rfl (Nat.le_of_ble_eq_true rfl) dX2_radius_2 ⟨Nat.zero_le _, Nat.zero_le _⟩ ?_
  refine lv_iload_n hx hb dX2_radius_5 rfl (lv_at hl 2 rfl) ?_
  refine rdV (As := [.int (zi (h))]) (rest := []) (n := 1) hx hb hml hown hg (c_X1_radiusAt l dC dI h0 h1 h2 cA n th wc hs rs (h) hn hH hR hh) (gwV wl_X2_92 wm_X1_radiusAt we_X1_radiusAt wi_X1 wc_X1_radiusAt) rfl rfl (by decide +kernel) ⟨Nat.le_of_ble_eq_true rfl, Nat.le_of_ble_eq_true rfl⟩ (hK.sub [1] rfl) (hP.sub [2, 3, 4] rfl) 0 rfl rfl rfl rfl hl.1 rfl (Nat.le_of_ble_eq_true rfl) dX2_radius_6 ⟨Nat.zero_le _, Nat.zero_le _⟩ ?_
  rw [hQQ]
  exact rd_i hx hb hr hlocks rfl dX2_radius_9

set_option maxHeartbeats 4000000 in
set_option maxRecDepth 100000 in
theorem t_volume_w (l : Launch) (hl0 : l.stackTraces = false) (dC : Nat → ClassId) (dI : Nat → Nat → Nat) (x0 pa ba ax ay sp ss vs fr : Nat) (pn bn ln sn : Nat)(cQ : ClassId) (pf : Nat → Option Nat) (h0 h1 h2 : Nat) (cA : ClassId) (n : Nat) (th wc : Int) (hs rs : Nat → Int) (j : Nat) (to part : Int) (hn : n ≤ 12) (hH : ∀ j, 0 ≤ hs j ∧ hs j ≤ 400) (hR : ∀ j, 0 ≤ rs j ∧ rs j ≤ 200) (hj : j < 6) (hf : pf j = some h0) (h_part : -2147483648 ≤ part ∧ part < 2147483648) (hbad : ¬ (part = 0 ∨ part = 1)) : ThM l yX2_volume cX2_volume 5 ((Option.some Jvm.ClassFile.FieldType.long)) rt_X2_volume (PcT [.ref x0, .int (zi ((j : Int))), .int (zi (to)), .int (zi (part))] (dC, dI) vwCl [(x0, .inr (2, [.ref pa, .int (zi ((pn : Int))), .ref ba, .int (zi ((bn : Int))), .ref ax, .ref ay, .int (zi ((ln : Int))), .ref sp, .ref ss, .int (zi ((sn : Int))), .ref vs, .ref fr])), (pa, .inl (cQ, 6, .inr (.inr (.inr (.inr (pf)))))), (h0, .inr (1, [.ref h1, .ref h2, .int (zi ((n : Int))), .int (zi (th)), .int (zi (wc))])), (h1, .inl (cA, 12, .inl (zA (hs)))), (h2, .inl (cA, 12, .inl (zA (rs))))] [(cQ, .object "PotVolumes$Profile"), (cA, .int)]) KI := by
  refine vx_ofW (cc := cX2_volume) (maxL := 5) (ret := ((Option.some Jvm.ClassFile.FieldType.long))) (by decide) rfl ?_
  intro p e s m args below meth c s₁ B hml hno hv
  obtain ⟨hargs, hP, hK, hE⟩ := hv
  have hx := B.exec
  have hb := B.bytes
  have hr := B.returns
  have hts := atoms_spec (ws := Cond.code yX2_volume cX2_volume 5 ((Option.some Jvm.ClassFile.FieldType.long)) :: gw) B.pre
  have hg : ∀ w ∈ gw, w.before args s = true := fun w h => hts w (List.mem_cons_of_mem _ h)
  have hown : s.vm.findClass RX2 = some m.cls := findClass_of_methodNamed B.named
  have hlocks := B.notSynchronized
  show W p l e rt_X2_volume s m args below meth c s.heap [] 0 0 _ _
  have hl := lv_entry ([.ref x0, .int (zi ((j : Int))), .int (zi (to)), .int (zi (part))]) (n := 5) (Nat.le_of_ble_eq_true rfl)
  rw [show entryFrame m args 5 = entryFrame m ([.ref x0, .int (zi ((j : Int))), .int (zi (to)), .int (zi (part))] : List Value).toArray 5 by rw [hargs], lg_entry_eq]
  generalize (lg_sl ([.ref x0, .int (zi ((j : Int))), .int (zi (to)), .int (zi (part))]) ++ List.replicate (5 - (lg_sl ([.ref x0, .int (zi ((j : Int))), .int (zi (to)), .int (zi (part))])).length) Slot.unset).toArray = ls at hl ⊢
  have hl : lv_has ls 5 [(0, .ref x0), (1, .int (zi ((j : Int)))), (2, .int (zi (to))), (3, .int (zi (part)))] := hl
  obtain ⟨QQ, hQQ⟩ : ∃ Q, Q = vx_MQ below QF (XK KI) args s 1 6 (fun _ => False) := ⟨_, rfl⟩
  rw [← hQQ]
  refine lv_aload_n hx hb dX2_volume_0 rfl (lv_at hl 0 rfl) ?_
  refine lv_iload_n hx hb dX2_volume_1 rfl (lv_at hl 1 rfl) ?_
  refine rdV (As := [.int (zi ((j : Int)))]) (rest := []) (n := 1) hx hb hml hown hg (c_X2_profileOf l dC dI x0 pa ba ax ay sp ss vs fr pn bn ln sn cQ pf j h0 hj hf) (gwV wl_X2_53 wm_X2_profileOf we_X2_profileOf wi_X2 wc_X2_profileOf) rfl rfl (by decide +kernel) ⟨Nat.le_of_ble_eq_true rfl, Nat.le_of_ble_eq_true rfl⟩ (hK.sub [0] rfl) (hP.sub [0, 1] rfl) 0 rfl rfl rfl rfl hl.1 rfl (Nat.le_of_ble_eq_true rfl) dX2_volume_2 ⟨Nat.zero_le _, Nat.zero_le _⟩ ?_
  refine lv_astore (lv' := [(4, .ref h0), (0, .ref x0), (1, .int (zi ((j : Int)))), (2, .int (zi (to))), (3, .int (zi (part)))]) hx hb dX2_volume_5 hl (by decide) rfl (fun ls hl => ?_)
  refine lv_iload_n hx hb dX2_volume_7 rfl (lv_at hl 4 rfl) ?_
  rw [hQQ]
  exact thS (As := [.int (zi (part))]) (rest := []) (n := 1) hx hb hml hown hg (t_X2_needOneOfTwo l hl0 (part) h_part hbad) (gwS wl_X2_74 wt_X2_needOneOfTwo wi_X2 wc_X2_needOneOfTwo) rfl rfl (by decide +kernel) ⟨Nat.le_of_ble_eq_true rfl, Nat.le_of_ble_eq_true rfl⟩ hE rfl hl.1 rfl (Nat.le_of_ble_eq_true rfl) dX2_volume_8 ⟨Nat.le_of_ble_eq_true rfl, Nat.le_of_ble_eq_true rfl⟩ hno hlocks

abbrev rm_X2_volume : Room := { frames := 7, cells := 0, slots := 0, locals := 162 }
set_option maxHeartbeats 4000000 in
set_option maxRecDepth 100000 in
theorem c_volume (l : Launch) (dC : Nat → ClassId) (dI : Nat → Nat → Nat) (sz : Nat) (x0 pa ba ax ay sp ss vs fr : Nat) (pn bn ln sn : Nat)(cQ : ClassId) (pf : Nat → Option Nat) (h0 h1 h2 : Nat) (cA : ClassId) (n : Nat) (th wc : Int) (hs rs : Nat → Int) (j : Nat) (a b to part : Int) (hn : n ≤ 12) (hH : ∀ j, 0 ≤ hs j ∧ hs j ≤ 400) (hR : ∀ j, 0 ≤ rs j ∧ rs j ≤ 200) (hj : j < 6) (hf : pf j = some h0) (h_to : -2147483648 ≤ to ∧ to < 2147483648) (hp9 : part = 0 ∨ part = 1) (hok : p_oks n hs rs 0 0 to) : Met l yX2_volume (Cond.code yX2_volume cX2_volume 5 ((Option.some Jvm.ClassFile.FieldType.long)) :: gw) rm_X2_volume (PcW [.ref x0, .int (zi ((j : Int))), .int (zi (to)), .int (zi (part))] (dC, dI) vwCl [(x0, .inr (2, [.ref pa, .int (zi ((pn : Int))), .ref ba, .int (zi ((bn : Int))), .ref ax, .ref ay, .int (zi ((ln : Int))), .ref sp, .ref ss, .int (zi ((sn : Int))), .ref vs, .ref fr])), (pa, .inl (cQ, 6, .inr (.inr (.inr (.inr (pf)))))), (h0, .inr (1, [.ref h1, .ref h2, .int (zi ((n : Int))), .int (zi (th)), .int (zi (wc))])), (h1, .inl (cA, 12, .inl (zA (hs)))), (h2, .inl (cA, 12, .inl (zA (rs)))), (fr, .inr (0, [.long (zl (a)), .long (zl (b))]))] [(cQ, .object "PotVolumes$Profile"), (cA, .int)] sz) (WrQ (some (.long (zl (if part = 0 then (((p_sum hs rs 0 0 to (n - 1)).1 : Nat) : Int) else (((p_sum hs rs 0 0 to (n - 1)).2 : Nat) : Int))))) (dC, dI) vwCl [(x0, .inr (2, [.ref pa, .int (zi ((pn : Int))), .ref ba, .int (zi ((bn : Int))), .ref ax, .ref ay, .int (zi ((ln : Int))), .ref sp, .ref ss, .int (zi ((sn : Int))), .ref vs, .ref fr])), (pa, .inl (cQ, 6, .inr (.inr (.inr (.inr (pf)))))), (h0, .inr (1, [.ref h1, .ref h2, .int (zi ((n : Int))), .int (zi (th)), .int (zi (wc))])), (h1, .inl (cA, 12, .inl (zA (hs)))), (h2, .inl (cA, 12, .inl (zA (rs)))), (fr, .inr (0, [.long (zl ((((p_sum hs rs 0 0 to (n - 1)).1 : Nat) : Int))), .long (zl ((((p_sum hs rs 0 0 to (n - 1)).2 : Nat) : Int)))]))] (va_A [(x0, .inr (2, [.ref pa, .int (zi ((pn : Int))), .ref ba, .int (zi ((bn : Int))), .ref ax, .ref ay, .int (zi ((ln : Int))), .ref sp, .ref ss, .int (zi ((sn : Int))), .ref vs, .ref fr])), (pa, .inl (cQ, 6, .inr (.inr (.inr (.inr (pf)))))), (h0, .inr (1, [.ref h1, .ref h2, .int (zi ((n : Int))), .int (zi (th)), .int (zi (wc))])), (h1, .inl (cA, 12, .inl (zA (hs)))), (h2, .inl (cA, 12, .inl (zA (rs)))), (fr, .inr (0, [.long (zl (a)), .long (zl (b))]))] sz)) 0 0 (va_A [(x0, .inr (2, [.ref pa, .int (zi ((pn : Int))), .ref ba, .int (zi ((bn : Int))), .ref ax, .ref ay, .int (zi ((ln : Int))), .ref sp, .ref ss, .int (zi ((sn : Int))), .ref vs, .ref fr])), (pa, .inl (cQ, 6, .inr (.inr (.inr (.inr (pf)))))), (h0, .inr (1, [.ref h1, .ref h2, .int (zi ((n : Int))), .int (zi (th)), .int (zi (wc))])), (h1, .inl (cA, 12, .inl (zA (hs)))), (h2, .inl (cA, 12, .inl (zA (rs)))), (fr, .inr (0, [.long (zl (a)), .long (zl (b))]))] sz) := by
  refine Met.ofW (cc := cX2_volume) (maxL := 5) (ret := ((Option.some Jvm.ClassFile.FieldType.long))) (by decide) rfl ?_
  intro p e s m args below meth c s₁ B hml hv
  obtain ⟨hargs, hsz, hP, hK, hD0⟩ := hv
  have hx := B.exec
  have hb := B.bytes
  have hr := B.returns
  have hts := atoms_spec (ws := Cond.code yX2_volume cX2_volume 5 ((Option.some Jvm.ClassFile.FieldType.long)) :: gw) B.pre
  have hg : ∀ w ∈ gw, w.before args s = true := fun w h => hts w (List.mem_cons_of_mem _ h)
  have hown : s.vm.findClass RX2 = some m.cls := findClass_of_methodNamed B.named
  have hlocks := B.notSynchronized
  subst hsz
  have hD := hD0.self (sz := s.heap.size)
  generalize hAe : va_A [(x0, .inr (2, [.ref pa, .int (zi ((pn : Int))), .ref ba, .int (zi ((bn : Int))), .ref ax, .ref ay, .int (zi ((ln : Int))), .ref sp, .ref ss, .int (zi ((sn : Int))), .ref vs, .ref fr])), (pa, .inl (cQ, 6, .inr (.inr (.inr (.inr (pf)))))), (h0, .inr (1, [.ref h1, .ref h2, .int (zi ((n : Int))), .int (zi (th)), .int (zi (wc))])), (h1, .inl (cA, 12, .inl (zA (hs)))), (h2, .inl (cA, 12, .inl (zA (rs)))), (fr, .inr (0, [.long (zl (a)), .long (zl (b))]))] s.heap.size = A at hD ⊢
  have hA : ∀ q : Nat, s.heap.size ≤ q → A q := fun q h => by rw [← hAe]; exact Or.inr h
  show W p l e rm_X2_volume s m args below meth c s.heap [] 0 0 _ _
  have hl := lv_entry ([.ref x0, .int (zi ((j : Int))), .int (zi (to)), .int (zi (part))]) (n := 5) (Nat.le_of_ble_eq_true rfl)
  rw [show entryFrame m args 5 = entryFrame m ([.ref x0, .int (zi ((j : Int))), .int (zi (to)), .int (zi (part))] : List Value).toArray 5 by rw [hargs], lg_entry_eq]
  generalize (lg_sl ([.ref x0, .int (zi ((j : Int))), .int (zi (to)), .int (zi (part))]) ++ List.replicate (5 - (lg_sl ([.ref x0, .int (zi ((j : Int))), .int (zi (to)), .int (zi (part))])).length) Slot.unset).toArray = ls at hl ⊢
  have hl : lv_has ls 5 [(0, .ref x0), (1, .int (zi ((j : Int)))), (2, .int (zi (to))), (3, .int (zi (part)))] := hl
  obtain ⟨QQ, hQQ⟩ : ∃ Q, Q = MQ below (WrQ (some (.long (zl (if part = 0 then (((p_sum hs rs 0 0 to (n - 1)).1 : Nat) : Int) else (((p_sum hs rs 0 0 to (n - 1)).2 : Nat) : Int))))) (dC, dI) vwCl [(x0, .inr (2, [.ref pa, .int (zi ((pn : Int))), .ref ba, .int (zi ((bn : Int))), .ref ax, .ref ay, .int (zi ((ln : Int))), .ref sp, .ref ss, .int (zi ((sn : Int))), .ref vs, .ref fr])), (pa, .inl (cQ, 6, .inr (.inr (.inr (.inr (pf)))))), (h0, .inr (1, [.ref h1, .ref h2, .int (zi ((n : Int))), .int (zi (th)), .int (zi (wc))])), (h1, .inl (cA, 12, .inl (zA (hs)))), (h2, .inl (cA, 12, .inl (zA (rs)))), (fr, .inr (0, [.long (zl ((((p_sum hs rs 0 0 to (n - 1)).1 : Nat) : Int))), .long (zl ((((p_sum hs rs 0 0 to (n - 1)).2 : Nat) : Int)))]))] A) args s 0 0 A := ⟨_, rfl⟩
  rw [← hQQ]
  obtain ⟨H, hHe⟩ : ∃ H : Heap, H = s.heap := ⟨_, rfl⟩
  obtain ⟨locs, hlc⟩ : ∃ x : List Loc, x = [] := ⟨_, rfl⟩
  have hS : va_S A s.heap H locs := by rw [hHe, hlc]; exact va_S.rf
  have hP : va_P (dC, dI) vwCl [(x0, .inr (2, [.ref pa, .int (zi ((pn : Int))), .ref ba, .int (zi ((bn : Int))), .ref ax, .ref ay, .int (zi ((ln : Int))), .ref sp, .ref ss, .int (zi ((sn : Int))), .ref vs, .ref fr])), (pa, .inl (cQ, 6, .inr (.inr (.inr (.inr (pf)))))), (h0, .inr (1, [.ref h1, .ref h2, .int (zi ((n : Int))), .int (zi (th)), .int (zi (wc))])), (h1, .inl (cA, 12, .inl (zA (hs)))), (h2, .inl (cA, 12, .inl (zA (rs)))), (fr, .inr (0, [.long (zl (a)), .long (zl (b))]))] H := by rw [hHe]; exact hP
  have hD : va_D A [(x0, .inr (2, [.ref pa, .int (zi ((pn : Int))), .ref ba, .int (zi ((bn : Int))), .ref ax, .ref ay, .int (zi ((ln : Int))), .ref sp, .ref ss, .int (zi ((sn : Int))), .ref vs, .ref fr])), (pa, .inl (cQ, 6, .inr (.inr (.inr (.inr (pf)))))), (h0, .inr (1, [.ref h1, .ref h2, .int (zi ((n : Int))), .int (zi (th)), .int (zi (wc))])), (h1, .inl (cA, 12, .inl (zA (hs)))), (h2, .inl (cA, 12, .inl (zA (rs)))), (fr, .inr (0, [.long (zl (a)), .long (zl (b))]))] := hD
  rw [← hHe, ← hlc]
  refine lv_aload_n hx hb dX2_volume_0 rfl (lv_at hl 0 rfl) ?_
  refine lv_iload_n hx hb dX2_volume_1 rfl (lv_at hl 1 rfl) ?_
  refine rdV (As := [.int (zi ((j : Int)))]) (rest := []) (n := 1) hx hb hml hown hg (c_X2_profileOf l dC dI x0 pa ba ax ay sp ss vs fr pn bn ln sn cQ pf j h0 hj hf) (gwV wl_X2_53 wm_X2_profileOf we_X2_profileOf wi_X2 wc_X2_profileOf) rfl rfl (by decide +kernel) ⟨Nat.le_of_ble_eq_true rfl, Nat.le_of_ble_eq_true rfl⟩ (hK.sub [0] rfl) (hP.sub [0, 1] rfl) 0 rfl rfl rfl rfl hl.1 rfl (Nat.le_of_ble_eq_true rfl) dX2_volume_2 ⟨Nat.zero_le _, Nat.zero_le _⟩ ?_
  refine lv_astore (lv' := [(4, .ref h0), (0, .ref x0), (1, .int (zi ((j : Int)))), (2, .int (zi (to))), (3, .int (zi (part)))]) hx hb dX2_volume_5 hl (by decide) rfl (fun ls hl => ?_)
  refine lv_iload_n hx hb dX2_volume_7 rfl (lv_at hl 4 rfl) ?_
  refine rdS (As := [.int (zi (part))]) (rest := []) (n := 1) hx hb hml hown hg (c_X2_needOneOfTwo l (part) hp9) (gwS wl_X2_74 wt_X2_needOneOfTwo wi_X2 wc_X2_needOneOfTwo) rfl rfl (by decide +kernel) ⟨Nat.le_of_ble_eq_true rfl, Nat.le_of_ble_eq_true rfl⟩ rfl hl.1 rfl (Nat.le_of_ble_eq_true rfl) dX2_volume_8 ⟨Nat.zero_le _, Nat.zero_le _⟩ ?_
  refine lv_aload hx hb dX2_volume_11 (lv_at hl 0 rfl) ?_
  refine lv_aload_n hx hb dX2_volume_13 rfl (lv_at hl 1 rfl) ?_
  refine va_get (D := (dC, dI)) (ci := 2) (v := .ref fr) (C := RX2) (T := TX2) (N := 12) hx hb hg inX2 hown hK hP 0 rfl rfl 11 (by decide) (hg _ wl_X2_37) (fun _ h9 => h9) rfl dX2_volume_14 ?_
  refine lv_iload_n hx hb dX2_volume_17 rfl (lv_at hl 3 rfl) ?_
  refine wrV (As := [.ref fr, .int (zi (to))]) (rest := []) (n := 2) (ws' := [(x0, .inr (2, [.ref pa, .int (zi ((pn : Int))), .ref ba, .int (zi ((bn : Int))), .ref ax, .ref ay, .int (zi ((ln : Int))), .ref sp, .ref ss, .int (zi ((sn : Int))), .ref vs, .ref fr])), (pa, .inl (cQ, 6, .inr (.inr (.inr (.inr (pf)))))), (h0, .inr (1, [.ref h1, .ref h2, .int (zi ((n : Int))), .int (zi (th)), .int (zi (wc))])), (h1, .inl (cA, 12, .inl (zA (hs)))), (h2, .inl (cA, 12, .inl (zA (rs)))), (fr, .inr (0, [.long (zl ((((p_sum hs rs 0 0 (to) (n - 1)).1 : Nat) : Int))), .long (zl ((((p_sum hs rs 0 0 (to) (n - 1)).2 : Nat) : Int)))]))]) hx hb hml hown hg (c_X1_measure l dC dI H.size h0 h1 h2 cA n th wc hs rs fr a b (to) hn hH hR h_to hok) (gwV wl_X2_96 wm_X1_measure we_X1_measure wi_X1 wc_X1_measure) rfl rfl (by decide +kernel) ⟨Nat.le_of_ble_eq_true rfl, Nat.le_of_ble_eq_true rfl⟩ (hK.sub [1] rfl) hP hD hS hA [2, 3, 4, 5] rfl (by decide) [(false, 0), (false, 1), (true, 0), (true, 1), (true, 2), (true, 3)] rfl (by decide) rfl 0 rfl rfl rfl rfl hl.1 rfl (Nat.le_of_ble_eq_true rfl) dX2_volume_18 ⟨Nat.zero_le _, Nat.zero_le _⟩ (fun H locs hP hD hS => ?_)
  refine lv_aload_n hx hb dX2_volume_21 rfl (lv_at hl 1 rfl) ?_
  refine va_get (D := (dC, dI)) (ci := 2) (v := .ref fr) (C := RX2) (T := TX2) (N := 12) hx hb hg inX2 hown hK hP 0 rfl rfl 11 (by decide) (hg _ wl_X2_37) (fun _ h9 => h9) rfl dX2_volume_22 ?_
  refine lv_iload_n hx hb dX2_volume_25 rfl (lv_at hl 4 rfl) ?_
  refine rdV (As := [.int (zi (part))]) (rest := []) (n := 1) hx hb hml hown hg (c_X0_tell l dC dI fr ((((p_sum hs rs 0 0 (to) (n - 1)).1 : Nat) : Int)) ((((p_sum hs rs 0 0 (to) (n - 1)).2 : Nat) : Int)) (part) (by omega)) (gwV wl_X2_100 wm_X0_tell we_X0_tell wi_X0 wc_X0_tell) rfl rfl (by decide +kernel) ⟨Nat.le_of_ble_eq_true rfl, Nat.le_of_ble_eq_true rfl⟩ (hK.sub [] rfl) (hP.sub [5] rfl) 0 rfl rfl rfl rfl hl.1 rfl (Nat.le_of_ble_eq_true rfl) dX2_volume_26 ⟨Nat.zero_le _, Nat.zero_le _⟩ ?_
  have hP9 : va_P (dC, dI) vwCl [(x0, .inr (2, [.ref pa, .int (zi ((pn : Int))), .ref ba, .int (zi ((bn : Int))), .ref ax, .ref ay, .int (zi ((ln : Int))), .ref sp, .ref ss, .int (zi ((sn : Int))), .ref vs, .ref fr])), (pa, .inl (cQ, 6, .inr (.inr (.inr (.inr (pf)))))), (h0, .inr (1, [.ref h1, .ref h2, .int (zi ((n : Int))), .int (zi (th)), .int (zi (wc))])), (h1, .inl (cA, 12, .inl (zA (hs)))), (h2, .inl (cA, 12, .inl (zA (rs)))), (fr, .inr (0, [.long (zl ((((p_sum hs rs 0 0 to (n - 1)).1 : Nat) : Int))), .long (zl ((((p_sum hs rs 0 0 to (n - 1)).2 : Nat) : Int)))]))] H := hP
  rw [hQQ]
  exact wr_l hx hb hr hlocks rfl hP9 hS dX2_volume_29

set_option maxHeartbeats 4000000 in
set_option maxRecDepth 100000 in
theorem t_holds_w (l : Launch) (hl0 : l.stackTraces = false) (dC : Nat → ClassId) (dI : Nat → Nat → Nat) (x0 pa ba ax ay sp ss vs fr : Nat) (pn bn ln sn : Nat)(cQ : ClassId) (pf : Nat → Option Nat) (h0 h1 h2 : Nat) (cA : ClassId) (n : Nat) (th wc : Int) (hs rs : Nat → Int) (j : Nat) (to part : Int) (hn : n ≤ 12) (hH : ∀ j, 0 ≤ hs j ∧ hs j ≤ 400) (hR : ∀ j, 0 ≤ rs j ∧ rs j ≤ 200) (hj : j < 6) (hf : pf j = some h0) (h_part : -2147483648 ≤ part ∧ part < 2147483648) (hbad : ¬ (part = 0 ∨ part = 1)) : ThM l yX2_holds cX2_holds 5 ((Option.some Jvm.ClassFile.FieldType.long)) rt_X2_holds (PcT [.ref x0, .int (zi ((j : Int))), .int (zi (to)), .int (zi (part))] (dC, dI) vwCl [(x0, .inr (2, [.ref pa, .int (zi ((pn : Int))), .ref ba, .int (zi ((bn : Int))), .ref ax, .ref ay, .int (zi ((ln : Int))), .ref sp, .ref ss, .int (zi ((sn : Int))), .ref vs, .ref fr])), (pa, .inl (cQ, 6, .inr (.inr (.inr (.inr (pf)))))), (h0, .inr (1, [.ref h1, .ref h2, .int (zi ((n : Int))), .int (zi (th)), .int (zi (wc))])), (h1, .inl (cA, 12, .inl (zA (hs)))), (h2, .inl (cA, 12, .inl (zA (rs))))] [(cQ, .object "PotVolumes$Profile"), (cA, .int)]) KI := by
  refine vx_ofW (cc := cX2_holds) (maxL := 5) (ret := ((Option.some Jvm.ClassFile.FieldType.long))) (by decide) rfl ?_
  intro p e s m args below meth c s₁ B hml hno hv
  obtain ⟨hargs, hP, hK, hE⟩ := hv
  have hx := B.exec
  have hb := B.bytes
  have hr := B.returns
  have hts := atoms_spec (ws := Cond.code yX2_holds cX2_holds 5 ((Option.some Jvm.ClassFile.FieldType.long)) :: gw) B.pre
  have hg : ∀ w ∈ gw, w.before args s = true := fun w h => hts w (List.mem_cons_of_mem _ h)
  have hown : s.vm.findClass RX2 = some m.cls := findClass_of_methodNamed B.named
  have hlocks := B.notSynchronized
  show W p l e rt_X2_holds s m args below meth c s.heap [] 0 0 _ _
  have hl := lv_entry ([.ref x0, .int (zi ((j : Int))), .int (zi (to)), .int (zi (part))]) (n := 5) (Nat.le_of_ble_eq_true rfl)
  rw [show entryFrame m args 5 = entryFrame m ([.ref x0, .int (zi ((j : Int))), .int (zi (to)), .int (zi (part))] : List Value).toArray 5 by rw [hargs], lg_entry_eq]
  generalize (lg_sl ([.ref x0, .int (zi ((j : Int))), .int (zi (to)), .int (zi (part))]) ++ List.replicate (5 - (lg_sl ([.ref x0, .int (zi ((j : Int))), .int (zi (to)), .int (zi (part))])).length) Slot.unset).toArray = ls at hl ⊢
  have hl : lv_has ls 5 [(0, .ref x0), (1, .int (zi ((j : Int)))), (2, .int (zi (to))), (3, .int (zi (part)))] := hl
  obtain ⟨QQ, hQQ⟩ : ∃ Q, Q = vx_MQ below QF (XK KI) args s 1 6 (fun _ => False) := ⟨_, rfl⟩
  rw [← hQQ]
  refine lv_aload_n hx hb dX2_holds_0 rfl (lv_at hl 0 rfl) ?_
  refine lv_iload_n hx hb dX2_holds_1 rfl (lv_at hl 1 rfl) ?_
  refine rdV (As := [.int (zi ((j : Int)))]) (rest := []) (n := 1) hx hb hml hown hg (c_X2_profileOf l dC dI x0 pa ba ax ay sp ss vs fr pn bn ln sn cQ pf j h0 hj hf) (gwV wl_X2_53 wm_X2_profileOf we_X2_profileOf wi_X2 wc_X2_profileOf) rfl rfl (by decide +kernel) ⟨Nat.le_of_ble_eq_true rfl, Nat.le_of_ble_eq_true rfl⟩ (hK.sub [0] rfl) (hP.sub [0, 1] rfl) 0 rfl rfl rfl rfl hl.1 rfl (Nat.le_of_ble_eq_true rfl) dX2_holds_2 ⟨Nat.zero_le _, Nat.zero_le _⟩ ?_
  refine lv_astore (lv' := [(4, .ref h0), (0, .ref x0), (1, .int (zi ((j : Int)))), (2, .int (zi (to))), (3, .int (zi (part)))]) hx hb dX2_holds_5 hl (by decide) rfl (fun ls hl => ?_)
  refine lv_iload_n hx hb dX2_holds_7 rfl (lv_at hl 4 rfl) ?_
  rw [hQQ]
  exact thS (As := [.int (zi (part))]) (rest := []) (n := 1) hx hb hml hown hg (t_X2_needOneOfTwo l hl0 (part) h_part hbad) (gwS wl_X2_74 wt_X2_needOneOfTwo wi_X2 wc_X2_needOneOfTwo) rfl rfl (by decide +kernel) ⟨Nat.le_of_ble_eq_true rfl, Nat.le_of_ble_eq_true rfl⟩ hE rfl hl.1 rfl (Nat.le_of_ble_eq_true rfl) dX2_holds_8 ⟨Nat.le_of_ble_eq_true rfl, Nat.le_of_ble_eq_true rfl⟩ hno hlocks

abbrev rm_X2_holds : Room := { frames := 7, cells := 0, slots := 0, locals := 162 }
set_option maxHeartbeats 4000000 in
set_option maxRecDepth 100000 in
theorem c_holds (l : Launch) (dC : Nat → ClassId) (dI : Nat → Nat → Nat) (sz : Nat) (x0 pa ba ax ay sp ss vs fr : Nat) (pn bn ln sn : Nat)(cQ : ClassId) (pf : Nat → Option Nat) (h0 h1 h2 : Nat) (cA : ClassId) (n : Nat) (th wc : Int) (hs rs : Nat → Int) (j : Nat) (a b to part : Int) (hn : n ≤ 12) (hH : ∀ j, 0 ≤ hs j ∧ hs j ≤ 400) (hR : ∀ j, 0 ≤ rs j ∧ rs j ≤ 200) (hj : j < 6) (hf : pf j = some h0) (h_to : -2147483648 ≤ to ∧ to < 2147483648) (hth : 0 ≤ th ∧ th ≤ 50) (hp9 : part = 0 ∨ part = 1) (hok : p_oks n hs rs th (hs 0 + th) to) : Met l yX2_holds (Cond.code yX2_holds cX2_holds 5 ((Option.some Jvm.ClassFile.FieldType.long)) :: gw) rm_X2_holds (PcW [.ref x0, .int (zi ((j : Int))), .int (zi (to)), .int (zi (part))] (dC, dI) vwCl [(x0, .inr (2, [.ref pa, .int (zi ((pn : Int))), .ref ba, .int (zi ((bn : Int))), .ref ax, .ref ay, .int (zi ((ln : Int))), .ref sp, .ref ss, .int (zi ((sn : Int))), .ref vs, .ref fr])), (pa, .inl (cQ, 6, .inr (.inr (.inr (.inr (pf)))))), (h0, .inr (1, [.ref h1, .ref h2, .int (zi ((n : Int))), .int (zi (th)), .int (zi (wc))])), (h1, .inl (cA, 12, .inl (zA (hs)))), (h2, .inl (cA, 12, .inl (zA (rs)))), (fr, .inr (0, [.long (zl (a)), .long (zl (b))]))] [(cQ, .object "PotVolumes$Profile"), (cA, .int)] sz) (WrQ (some (.long (zl (if part = 0 then (((p_sum hs rs th (hs 0 + th) to (n - 1)).1 : Nat) : Int) else (((p_sum hs rs th (hs 0 + th) to (n - 1)).2 : Nat) : Int))))) (dC, dI) vwCl [(x0, .inr (2, [.ref pa, .int (zi ((pn : Int))), .ref ba, .int (zi ((bn : Int))), .ref ax, .ref ay, .int (zi ((ln : Int))), .ref sp, .ref ss, .int (zi ((sn : Int))), .ref vs, .ref fr])), (pa, .inl (cQ, 6, .inr (.inr (.inr (.inr (pf)))))), (h0, .inr (1, [.ref h1, .ref h2, .int (zi ((n : Int))), .int (zi (th)), .int (zi (wc))])), (h1, .inl (cA, 12, .inl (zA (hs)))), (h2, .inl (cA, 12, .inl (zA (rs)))), (fr, .inr (0, [.long (zl ((((p_sum hs rs th (hs 0 + th) to (n - 1)).1 : Nat) : Int))), .long (zl ((((p_sum hs rs th (hs 0 + th) to (n - 1)).2 : Nat) : Int)))]))] (va_A [(x0, .inr (2, [.ref pa, .int (zi ((pn : Int))), .ref ba, .int (zi ((bn : Int))), .ref ax, .ref ay, .int (zi ((ln : Int))), .ref sp, .ref ss, .int (zi ((sn : Int))), .ref vs, .ref fr])), (pa, .inl (cQ, 6, .inr (.inr (.inr (.inr (pf)))))), (h0, .inr (1, [.ref h1, .ref h2, .int (zi ((n : Int))), .int (zi (th)), .int (zi (wc))])), (h1, .inl (cA, 12, .inl (zA (hs)))), (h2, .inl (cA, 12, .inl (zA (rs)))), (fr, .inr (0, [.long (zl (a)), .long (zl (b))]))] sz)) 0 0 (va_A [(x0, .inr (2, [.ref pa, .int (zi ((pn : Int))), .ref ba, .int (zi ((bn : Int))), .ref ax, .ref ay, .int (zi ((ln : Int))), .ref sp, .ref ss, .int (zi ((sn : Int))), .ref vs, .ref fr])), (pa, .inl (cQ, 6, .inr (.inr (.inr (.inr (pf)))))), (h0, .inr (1, [.ref h1, .ref h2, .int (zi ((n : Int))), .int (zi (th)), .int (zi (wc))])), (h1, .inl (cA, 12, .inl (zA (hs)))), (h2, .inl (cA, 12, .inl (zA (rs)))), (fr, .inr (0, [.long (zl (a)), .long (zl (b))]))] sz) := by
  refine Met.ofW (cc := cX2_holds) (maxL := 5) (ret := ((Option.some Jvm.ClassFile.FieldType.long))) (by decide) rfl ?_
  intro p e s m args below meth c s₁ B hml hv
  obtain ⟨hargs, hsz, hP, hK, hD0⟩ := hv
  have hx := B.exec
  have hb := B.bytes
  have hr := B.returns
  have hts := atoms_spec (ws := Cond.code yX2_holds cX2_holds 5 ((Option.some Jvm.ClassFile.FieldType.long)) :: gw) B.pre
  have hg : ∀ w ∈ gw, w.before args s = true := fun w h => hts w (List.mem_cons_of_mem _ h)
  have hown : s.vm.findClass RX2 = some m.cls := findClass_of_methodNamed B.named
  have hlocks := B.notSynchronized
  subst hsz
  have hD := hD0.self (sz := s.heap.size)
  generalize hAe : va_A [(x0, .inr (2, [.ref pa, .int (zi ((pn : Int))), .ref ba, .int (zi ((bn : Int))), .ref ax, .ref ay, .int (zi ((ln : Int))), .ref sp, .ref ss, .int (zi ((sn : Int))), .ref vs, .ref fr])), (pa, .inl (cQ, 6, .inr (.inr (.inr (.inr (pf)))))), (h0, .inr (1, [.ref h1, .ref h2, .int (zi ((n : Int))), .int (zi (th)), .int (zi (wc))])), (h1, .inl (cA, 12, .inl (zA (hs)))), (h2, .inl (cA, 12, .inl (zA (rs)))), (fr, .inr (0, [.long (zl (a)), .long (zl (b))]))] s.heap.size = A at hD ⊢
  have hA : ∀ q : Nat, s.heap.size ≤ q → A q := fun q h => by rw [← hAe]; exact Or.inr h
  show W p l e rm_X2_holds s m args below meth c s.heap [] 0 0 _ _
  have hl := lv_entry ([.ref x0, .int (zi ((j : Int))), .int (zi (to)), .int (zi (part))]) (n := 5) (Nat.le_of_ble_eq_true rfl)
  rw [show entryFrame m args 5 = entryFrame m ([.ref x0, .int (zi ((j : Int))), .int (zi (to)), .int (zi (part))] : List Value).toArray 5 by rw [hargs], lg_entry_eq]
  generalize (lg_sl ([.ref x0, .int (zi ((j : Int))), .int (zi (to)), .int (zi (part))]) ++ List.replicate (5 - (lg_sl ([.ref x0, .int (zi ((j : Int))), .int (zi (to)), .int (zi (part))])).length) Slot.unset).toArray = ls at hl ⊢
  have hl : lv_has ls 5 [(0, .ref x0), (1, .int (zi ((j : Int)))), (2, .int (zi (to))), (3, .int (zi (part)))] := hl
  obtain ⟨QQ, hQQ⟩ : ∃ Q, Q = MQ below (WrQ (some (.long (zl (if part = 0 then (((p_sum hs rs th (hs 0 + th) to (n - 1)).1 : Nat) : Int) else (((p_sum hs rs th (hs 0 + th) to (n - 1)).2 : Nat) : Int))))) (dC, dI) vwCl [(x0, .inr (2, [.ref pa, .int (zi ((pn : Int))), .ref ba, .int (zi ((bn : Int))), .ref ax, .ref ay, .int (zi ((ln : Int))), .ref sp, .ref ss, .int (zi ((sn : Int))), .ref vs, .ref fr])), (pa, .inl (cQ, 6, .inr (.inr (.inr (.inr (pf)))))), (h0, .inr (1, [.ref h1, .ref h2, .int (zi ((n : Int))), .int (zi (th)), .int (zi (wc))])), (h1, .inl (cA, 12, .inl (zA (hs)))), (h2, .inl (cA, 12, .inl (zA (rs)))), (fr, .inr (0, [.long (zl ((((p_sum hs rs th (hs 0 + th) to (n - 1)).1 : Nat) : Int))), .long (zl ((((p_sum hs rs th (hs 0 + th) to (n - 1)).2 : Nat) : Int)))]))] A) args s 0 0 A := ⟨_, rfl⟩
  rw [← hQQ]
  obtain ⟨H, hHe⟩ : ∃ H : Heap, H = s.heap := ⟨_, rfl⟩
  obtain ⟨locs, hlc⟩ : ∃ x : List Loc, x = [] := ⟨_, rfl⟩
  have hS : va_S A s.heap H locs := by rw [hHe, hlc]; exact va_S.rf
  have hP : va_P (dC, dI) vwCl [(x0, .inr (2, [.ref pa, .int (zi ((pn : Int))), .ref ba, .int (zi ((bn : Int))), .ref ax, .ref ay, .int (zi ((ln : Int))), .ref sp, .ref ss, .int (zi ((sn : Int))), .ref vs, .ref fr])), (pa, .inl (cQ, 6, .inr (.inr (.inr (.inr (pf)))))), (h0, .inr (1, [.ref h1, .ref h2, .int (zi ((n : Int))), .int (zi (th)), .int (zi (wc))])), (h1, .inl (cA, 12, .inl (zA (hs)))), (h2, .inl (cA, 12, .inl (zA (rs)))), (fr, .inr (0, [.long (zl (a)), .long (zl (b))]))] H := by rw [hHe]; exact hP
  have hD : va_D A [(x0, .inr (2, [.ref pa, .int (zi ((pn : Int))), .ref ba, .int (zi ((bn : Int))), .ref ax, .ref ay, .int (zi ((ln : Int))), .ref sp, .ref ss, .int (zi ((sn : Int))), .ref vs, .ref fr])), (pa, .inl (cQ, 6, .inr (.inr (.inr (.inr (pf)))))), (h0, .inr (1, [.ref h1, .ref h2, .int (zi ((n : Int))), .int (zi (th)), .int (zi (wc))])), (h1, .inl (cA, 12, .inl (zA (hs)))), (h2, .inl (cA, 12, .inl (zA (rs)))), (fr, .inr (0, [.long (zl (a)), .long (zl (b))]))] := hD
  rw [← hHe, ← hlc]
  refine lv_aload_n hx hb dX2_holds_0 rfl (lv_at hl 0 rfl) ?_
  refine lv_iload_n hx hb dX2_holds_1 rfl (lv_at hl 1 rfl) ?_
  refine rdV (As := [.int (zi ((j : Int)))]) (rest := []) (n := 1) hx hb hml hown hg (c_X2_profileOf l dC dI x0 pa ba ax ay sp ss vs fr pn bn ln sn cQ pf j h0 hj hf) (gwV wl_X2_53 wm_X2_profileOf we_X2_profileOf wi_X2 wc_X2_profileOf) rfl rfl (by decide +kernel) ⟨Nat.le_of_ble_eq_true rfl, Nat.le_of_ble_eq_true rfl⟩ (hK.sub [0] rfl) (hP.sub [0, 1] rfl) 0 rfl rfl rfl rfl hl.1 rfl (Nat.le_of_ble_eq_true rfl) dX2_holds_2 ⟨Nat.zero_le _, Nat.zero_le _⟩ ?_
  refine lv_astore (lv' := [(4, .ref h0), (0, .ref x0), (1, .int (zi ((j : Int)))), (2, .int (zi (to))), (3, .int (zi (part)))]) hx hb dX2_holds_5 hl (by decide) rfl (fun ls hl => ?_)
  refine lv_iload_n hx hb dX2_holds_7 rfl (lv_at hl 4 rfl) ?_
  refine rdS (As := [.int (zi (part))]) (rest := []) (n := 1) hx hb hml hown hg (c_X2_needOneOfTwo l (part) hp9) (gwS wl_X2_74 wt_X2_needOneOfTwo wi_X2 wc_X2_needOneOfTwo) rfl rfl (by decide +kernel) ⟨Nat.le_of_ble_eq_true rfl, Nat.le_of_ble_eq_true rfl⟩ rfl hl.1 rfl (Nat.le_of_ble_eq_true rfl) dX2_holds_8 ⟨Nat.zero_le _, Nat.zero_le _⟩ ?_
  refine lv_aload hx hb dX2_holds_11 (lv_at hl 0 rfl) ?_
  refine lv_aload_n hx hb dX2_holds_13 rfl (lv_at hl 1 rfl) ?_
  refine va_get (D := (dC, dI)) (ci := 2) (v := .ref fr) (C := RX2) (T := TX2) (N := 12) hx hb hg inX2 hown hK hP 0 rfl rfl 11 (by decide) (hg _ wl_X2_37) (fun _ h9 => h9) rfl dX2_holds_14 ?_
  refine lv_iload_n hx hb dX2_holds_17 rfl (lv_at hl 3 rfl) ?_
  refine wrV (As := [.ref fr, .int (zi (to))]) (rest := []) (n := 2) (ws' := [(x0, .inr (2, [.ref pa, .int (zi ((pn : Int))), .ref ba, .int (zi ((bn : Int))), .ref ax, .ref ay, .int (zi ((ln : Int))), .ref sp, .ref ss, .int (zi ((sn : Int))), .ref vs, .ref fr])), (pa, .inl (cQ, 6, .inr (.inr (.inr (.inr (pf)))))), (h0, .inr (1, [.ref h1, .ref h2, .int (zi ((n : Int))), .int (zi (th)), .int (zi (wc))])), (h1, .inl (cA, 12, .inl (zA (hs)))), (h2, .inl (cA, 12, .inl (zA (rs)))), (fr, .inr (0, [.long (zl ((((p_sum hs rs th (hs 0 + th) (to) (n - 1)).1 : Nat) : Int))), .long (zl ((((p_sum hs rs th (hs 0 + th) (to) (n - 1)).2 : Nat) : Int)))]))]) hx hb hml hown hg (c_X1_measureHeld l dC dI H.size h0 h1 h2 cA n th wc hs rs fr a b (to) hn hH hR hth h_to hok) (gwV wl_X2_104 wm_X1_measureHeld we_X1_measureHeld wi_X1 wc_X1_measureHeld) rfl rfl (by decide +kernel) ⟨Nat.le_of_ble_eq_true rfl, Nat.le_of_ble_eq_true rfl⟩ (hK.sub [1] rfl) hP hD hS hA [2, 3, 4, 5] rfl (by decide) [(false, 0), (false, 1), (true, 0), (true, 1), (true, 2), (true, 3)] rfl (by decide) rfl 0 rfl rfl rfl rfl hl.1 rfl (Nat.le_of_ble_eq_true rfl) dX2_holds_18 ⟨Nat.zero_le _, Nat.zero_le _⟩ (fun H locs hP hD hS => ?_)
  refine lv_aload_n hx hb dX2_holds_21 rfl (lv_at hl 1 rfl) ?_
  refine va_get (D := (dC, dI)) (ci := 2) (v := .ref fr) (C := RX2) (T := TX2) (N := 12) hx hb hg inX2 hown hK hP 0 rfl rfl 11 (by decide) (hg _ wl_X2_37) (fun _ h9 => h9) rfl dX2_holds_22 ?_
  refine lv_iload_n hx hb dX2_holds_25 rfl (lv_at hl 4 rfl) ?_
  refine rdV (As := [.int (zi (part))]) (rest := []) (n := 1) hx hb hml hown hg (c_X0_tell l dC dI fr ((((p_sum hs rs th (hs 0 + th) (to) (n - 1)).1 : Nat) : Int)) ((((p_sum hs rs th (hs 0 + th) (to) (n - 1)).2 : Nat) : Int)) (part) (by omega)) (gwV wl_X2_100 wm_X0_tell we_X0_tell wi_X0 wc_X0_tell) rfl rfl (by decide +kernel) ⟨Nat.le_of_ble_eq_true rfl, Nat.le_of_ble_eq_true rfl⟩ (hK.sub [] rfl) (hP.sub [5] rfl) 0 rfl rfl rfl rfl hl.1 rfl (Nat.le_of_ble_eq_true rfl) dX2_holds_26 ⟨Nat.zero_le _, Nat.zero_le _⟩ ?_
  have hP9 : va_P (dC, dI) vwCl [(x0, .inr (2, [.ref pa, .int (zi ((pn : Int))), .ref ba, .int (zi ((bn : Int))), .ref ax, .ref ay, .int (zi ((ln : Int))), .ref sp, .ref ss, .int (zi ((sn : Int))), .ref vs, .ref fr])), (pa, .inl (cQ, 6, .inr (.inr (.inr (.inr (pf)))))), (h0, .inr (1, [.ref h1, .ref h2, .int (zi ((n : Int))), .int (zi (th)), .int (zi (wc))])), (h1, .inl (cA, 12, .inl (zA (hs)))), (h2, .inl (cA, 12, .inl (zA (rs)))), (fr, .inr (0, [.long (zl ((((p_sum hs rs th (hs 0 + th) to (n - 1)).1 : Nat) : Int))), .long (zl ((((p_sum hs rs th (hs 0 + th) to (n - 1)).2 : Nat) : Int)))]))] H := hP
  rw [hQQ]
  exact wr_l hx hb hr hlocks rfl hP9 hS dX2_holds_29

set_option maxHeartbeats 4000000 in
set_option maxRecDepth 100000 in
theorem t_wall_A (l : Launch) (hl0 : l.stackTraces = false) (dC : Nat → ClassId) (dI : Nat → Nat → Nat) (x0 pa ba ax ay sp ss vs fr : Nat) (pn bn ln sn : Nat)(cQ : ClassId) (pf : Nat → Option Nat) (h0 h1 h2 : Nat) (cA : ClassId) (n : Nat) (th wc : Int) (hs rs : Nat → Int) (j : Nat) (v : Int) (hn : n ≤ 12) (hH : ∀ j, 0 ≤ hs j ∧ hs j ≤ 400) (hR : ∀ j, 0 ≤ rs j ∧ rs j ≤ 200) (hj : j < 6) (hf : pf j = some h0) (h_v : -2147483648 ≤ v ∧ v < 2147483648) (hbad : ¬ (0 ≤ v ∧ v ≤ 50)) : ThM l yX2_wall cX2_wall 5 ((Option.some Jvm.ClassFile.FieldType.int)) rt_X2_wall (PcT [.ref x0, .int (zi ((j : Int))), .int (zi (v))] (dC, dI) vwCl [(x0, .inr (2, [.ref pa, .int (zi ((pn : Int))), .ref ba, .int (zi ((bn : Int))), .ref ax, .ref ay, .int (zi ((ln : Int))), .ref sp, .ref ss, .int (zi ((sn : Int))), .ref vs, .ref fr])), (pa, .inl (cQ, 6, .inr (.inr (.inr (.inr (pf)))))), (h0, .inr (1, [.ref h1, .ref h2, .int (zi ((n : Int))), .int (zi (th)), .int (zi (wc))])), (h1, .inl (cA, 12, .inl (zA (hs)))), (h2, .inl (cA, 12, .inl (zA (rs))))] [(cQ, .object "PotVolumes$Profile"), (cA, .int)]) KA := by
  refine vx_ofW (cc := cX2_wall) (maxL := 5) (ret := ((Option.some Jvm.ClassFile.FieldType.int))) (by decide) rfl ?_
  intro p e s m args below meth c s₁ B hml hno hv
  obtain ⟨hargs, hP, hK, hE⟩ := hv
  have hx := B.exec
  have hb := B.bytes
  have hr := B.returns
  have hts := atoms_spec (ws := Cond.code yX2_wall cX2_wall 5 ((Option.some Jvm.ClassFile.FieldType.int)) :: gw) B.pre
  have hg : ∀ w ∈ gw, w.before args s = true := fun w h => hts w (List.mem_cons_of_mem _ h)
  have hown : s.vm.findClass RX2 = some m.cls := findClass_of_methodNamed B.named
  have hlocks := B.notSynchronized
  show W p l e rt_X2_wall s m args below meth c s.heap [] 0 0 _ _
  have hl := lv_entry ([.ref x0, .int (zi ((j : Int))), .int (zi (v))]) (n := 5) (Nat.le_of_ble_eq_true rfl)
  rw [show entryFrame m args 5 = entryFrame m ([.ref x0, .int (zi ((j : Int))), .int (zi (v))] : List Value).toArray 5 by rw [hargs], lg_entry_eq]
  generalize (lg_sl ([.ref x0, .int (zi ((j : Int))), .int (zi (v))]) ++ List.replicate (5 - (lg_sl ([.ref x0, .int (zi ((j : Int))), .int (zi (v))])).length) Slot.unset).toArray = ls at hl ⊢
  have hl : lv_has ls 5 [(0, .ref x0), (1, .int (zi ((j : Int)))), (2, .int (zi (v)))] := hl
  obtain ⟨QQ, hQQ⟩ : ∃ Q, Q = vx_MQ below QF (XK KA) args s 1 6 (fun _ => False) := ⟨_, rfl⟩
  rw [← hQQ]
  refine lv_aload_n hx hb dX2_wall_0 rfl (lv_at hl 0 rfl) ?_
  refine lv_iload_n hx hb dX2_wall_1 rfl (lv_at hl 1 rfl) ?_
  refine rdV (As := [.int (zi ((j : Int)))]) (rest := []) (n := 1) hx hb hml hown hg (c_X2_profileOf l dC dI x0 pa ba ax ay sp ss vs fr pn bn ln sn cQ pf j h0 hj hf) (gwV wl_X2_53 wm_X2_profileOf we_X2_profileOf wi_X2 wc_X2_profileOf) rfl rfl (by decide +kernel) ⟨Nat.le_of_ble_eq_true rfl, Nat.le_of_ble_eq_true rfl⟩ (hK.sub [0] rfl) (hP.sub [0, 1] rfl) 0 rfl rfl rfl rfl hl.1 rfl (Nat.le_of_ble_eq_true rfl) dX2_wall_2 ⟨Nat.zero_le _, Nat.zero_le _⟩ ?_
  refine lv_astore_n (lv' := [(3, .ref h0), (0, .ref x0), (1, .int (zi ((j : Int)))), (2, .int (zi (v)))]) hx hb dX2_wall_5 rfl hl (by decide) rfl (fun ls hl => ?_)
  refine lv_iload_n hx hb dX2_wall_6 rfl (lv_at hl 3 rfl) ?_
  refine zz_if_lt (tgt := 16) hx hb (by omega) dX2_wall_7 (by decide) (fun c_7 => ?_) (fun c_7 => ?_)
  · rw [hQQ]
    exact thr (K := KA) hx hb hl0 hown hE (by decide +kernel) (hg _ wl_X2_57) (hg _ wi_IllegalArgumentException) (by decide) (xh_A hg hE) xh_ot.2.1 hml hl.1 dX2_wall_16 dX2_wall_19 dX2_wall_20 dX2_wall_22 dX2_wall_25 hno hlocks (Nat.le_of_ble_eq_true rfl) (Nat.le_of_ble_eq_true rfl) (Nat.le_of_ble_eq_true rfl) (Nat.le_of_ble_eq_true rfl)
  · refine lv_iload_n hx hb dX2_wall_10 rfl (lv_at hl 3 rfl) ?_
    refine lv_bipush (v := zi (50)) hx hb dX2_wall_11 (by decide) ?_
    refine zz_icmp_le (tgt := 26) hx hb (by omega) (by omega) dX2_wall_13 (by decide) (fun c_13 => ?_) (fun c_13 => ?_)
    · exact False.elim (by omega)
    · rw [hQQ]
      exact thr (K := KA) hx hb hl0 hown hE (by decide +kernel) (hg _ wl_X2_57) (hg _ wi_IllegalArgumentException) (by decide) (xh_A hg hE) xh_ot.2.1 hml hl.1 dX2_wall_16 dX2_wall_19 dX2_wall_20 dX2_wall_22 dX2_wall_25 hno hlocks (Nat.le_of_ble_eq_true rfl) (Nat.le_of_ble_eq_true rfl) (Nat.le_of_ble_eq_true rfl) (Nat.le_of_ble_eq_true rfl)

abbrev rm_X2_wall : Room := { frames := 7, cells := 0, slots := 0, locals := 122 }
set_option maxHeartbeats 4000000 in
set_option maxRecDepth 100000 in
theorem c_wall (l : Launch) (dC : Nat → ClassId) (dI : Nat → Nat → Nat) (sz : Nat) (x0 pa ba ax ay sp ss vs fr : Nat) (pn bn ln sn : Nat)(cQ : ClassId) (pf : Nat → Option Nat) (h0 h1 h2 : Nat) (cA : ClassId) (n : Nat) (th wc : Int) (hs rs : Nat → Int) (j : Nat) (v : Int) (hn : n ≤ 12) (hH : ∀ j, 0 ≤ hs j ∧ hs j ≤ 400) (hR : ∀ j, 0 ≤ rs j ∧ rs j ≤ 200) (hj : j < 6) (hf : pf j = some h0) (hv9 : 0 ≤ v ∧ v ≤ 50) : Met l yX2_wall (Cond.code yX2_wall cX2_wall 5 ((Option.some Jvm.ClassFile.FieldType.int)) :: gw) rm_X2_wall (PcW [.ref x0, .int (zi ((j : Int))), .int (zi (v))] (dC, dI) vwCl [(x0, .inr (2, [.ref pa, .int (zi ((pn : Int))), .ref ba, .int (zi ((bn : Int))), .ref ax, .ref ay, .int (zi ((ln : Int))), .ref sp, .ref ss, .int (zi ((sn : Int))), .ref vs, .ref fr])), (pa, .inl (cQ, 6, .inr (.inr (.inr (.inr (pf)))))), (h0, .inr (1, [.ref h1, .ref h2, .int (zi ((n : Int))), .int (zi (th)), .int (zi (wc))])), (h1, .inl (cA, 12, .inl (zA (hs)))), (h2, .inl (cA, 12, .inl (zA (rs))))] [(cQ, .object "PotVolumes$Profile"), (cA, .int)] sz) (WrQ (some (.int (zi th))) (dC, dI) vwCl [(x0, .inr (2, [.ref pa, .int (zi ((pn : Int))), .ref ba, .int (zi ((bn : Int))), .ref ax, .ref ay, .int (zi ((ln : Int))), .ref sp, .ref ss, .int (zi ((sn : Int))), .ref vs, .ref fr])), (pa, .inl (cQ, 6, .inr (.inr (.inr (.inr (pf)))))), (h0, .inr (1, [.ref h1, .ref h2, .int (zi ((n : Int))), .int (zi (v)), .int (zi (wc))])), (h1, .inl (cA, 12, .inl (zA (hs)))), (h2, .inl (cA, 12, .inl (zA (rs))))] (va_A [(x0, .inr (2, [.ref pa, .int (zi ((pn : Int))), .ref ba, .int (zi ((bn : Int))), .ref ax, .ref ay, .int (zi ((ln : Int))), .ref sp, .ref ss, .int (zi ((sn : Int))), .ref vs, .ref fr])), (pa, .inl (cQ, 6, .inr (.inr (.inr (.inr (pf)))))), (h0, .inr (1, [.ref h1, .ref h2, .int (zi ((n : Int))), .int (zi (th)), .int (zi (wc))])), (h1, .inl (cA, 12, .inl (zA (hs)))), (h2, .inl (cA, 12, .inl (zA (rs))))] sz)) 0 0 (va_A [(x0, .inr (2, [.ref pa, .int (zi ((pn : Int))), .ref ba, .int (zi ((bn : Int))), .ref ax, .ref ay, .int (zi ((ln : Int))), .ref sp, .ref ss, .int (zi ((sn : Int))), .ref vs, .ref fr])), (pa, .inl (cQ, 6, .inr (.inr (.inr (.inr (pf)))))), (h0, .inr (1, [.ref h1, .ref h2, .int (zi ((n : Int))), .int (zi (th)), .int (zi (wc))])), (h1, .inl (cA, 12, .inl (zA (hs)))), (h2, .inl (cA, 12, .inl (zA (rs))))] sz) := by
  refine Met.ofW (cc := cX2_wall) (maxL := 5) (ret := ((Option.some Jvm.ClassFile.FieldType.int))) (by decide) rfl ?_
  intro p e s m args below meth c s₁ B hml hv
  obtain ⟨hargs, hsz, hP, hK, hD0⟩ := hv
  have hx := B.exec
  have hb := B.bytes
  have hr := B.returns
  have hts := atoms_spec (ws := Cond.code yX2_wall cX2_wall 5 ((Option.some Jvm.ClassFile.FieldType.int)) :: gw) B.pre
  have hg : ∀ w ∈ gw, w.before args s = true := fun w h => hts w (List.mem_cons_of_mem _ h)
  have hown : s.vm.findClass RX2 = some m.cls := findClass_of_methodNamed B.named
  have hlocks := B.notSynchronized
  subst hsz
  have hD := hD0.self (sz := s.heap.size)
  generalize hAe : va_A [(x0, .inr (2, [.ref pa, .int (zi ((pn : Int))), .ref ba, .int (zi ((bn : Int))), .ref ax, .ref ay, .int (zi ((ln : Int))), .ref sp, .ref ss, .int (zi ((sn : Int))), .ref vs, .ref fr])), (pa, .inl (cQ, 6, .inr (.inr (.inr (.inr (pf)))))), (h0, .inr (1, [.ref h1, .ref h2, .int (zi ((n : Int))), .int (zi (th)), .int (zi (wc))])), (h1, .inl (cA, 12, .inl (zA (hs)))), (h2, .inl (cA, 12, .inl (zA (rs))))] s.heap.size = A at hD ⊢
  have hA : ∀ q : Nat, s.heap.size ≤ q → A q := fun q h => by rw [← hAe]; exact Or.inr h
  show W p l e rm_X2_wall s m args below meth c s.heap [] 0 0 _ _
  have hl := lv_entry ([.ref x0, .int (zi ((j : Int))), .int (zi (v))]) (n := 5) (Nat.le_of_ble_eq_true rfl)
  rw [show entryFrame m args 5 = entryFrame m ([.ref x0, .int (zi ((j : Int))), .int (zi (v))] : List Value).toArray 5 by rw [hargs], lg_entry_eq]
  generalize (lg_sl ([.ref x0, .int (zi ((j : Int))), .int (zi (v))]) ++ List.replicate (5 - (lg_sl ([.ref x0, .int (zi ((j : Int))), .int (zi (v))])).length) Slot.unset).toArray = ls at hl ⊢
  have hl : lv_has ls 5 [(0, .ref x0), (1, .int (zi ((j : Int)))), (2, .int (zi (v)))] := hl
  obtain ⟨QQ, hQQ⟩ : ∃ Q, Q = MQ below (WrQ (some (.int (zi th))) (dC, dI) vwCl [(x0, .inr (2, [.ref pa, .int (zi ((pn : Int))), .ref ba, .int (zi ((bn : Int))), .ref ax, .ref ay, .int (zi ((ln : Int))), .ref sp, .ref ss, .int (zi ((sn : Int))), .ref vs, .ref fr])), (pa, .inl (cQ, 6, .inr (.inr (.inr (.inr (pf)))))), (h0, .inr (1, [.ref h1, .ref h2, .int (zi ((n : Int))), .int (zi (v)), .int (zi (wc))])), (h1, .inl (cA, 12, .inl (zA (hs)))), (h2, .inl (cA, 12, .inl (zA (rs))))] A) args s 0 0 A := ⟨_, rfl⟩
  rw [← hQQ]
  obtain ⟨H, hHe⟩ : ∃ H : Heap, H = s.heap := ⟨_, rfl⟩
  obtain ⟨locs, hlc⟩ : ∃ x : List Loc, x = [] := ⟨_, rfl⟩
  have hS : va_S A s.heap H locs := by rw [hHe, hlc]; exact va_S.rf
  have hP : va_P (dC, dI) vwCl [(x0, .inr (2, [.ref pa, .int (zi ((pn : Int))), .ref ba, .int (zi ((bn : Int))), .ref ax, .ref ay, .int (zi ((ln : Int))), .ref sp, .ref ss, .int (zi ((sn : Int))), .ref vs, .ref fr])), (pa, .inl (cQ, 6, .inr (.inr (.inr (.inr (pf)))))), (h0, .inr (1, [.ref h1, .ref h2, .int (zi ((n : Int))), .int (zi (th)), .int (zi (wc))])), (h1, .inl (cA, 12, .inl (zA (hs)))), (h2, .inl (cA, 12, .inl (zA (rs))))] H := by rw [hHe]; exact hP
  have hD : va_D A [(x0, .inr (2, [.ref pa, .int (zi ((pn : Int))), .ref ba, .int (zi ((bn : Int))), .ref ax, .ref ay, .int (zi ((ln : Int))), .ref sp, .ref ss, .int (zi ((sn : Int))), .ref vs, .ref fr])), (pa, .inl (cQ, 6, .inr (.inr (.inr (.inr (pf)))))), (h0, .inr (1, [.ref h1, .ref h2, .int (zi ((n : Int))), .int (zi (th)), .int (zi (wc))])), (h1, .inl (cA, 12, .inl (zA (hs)))), (h2, .inl (cA, 12, .inl (zA (rs))))] := hD
  rw [← hHe, ← hlc]
  refine lv_aload_n hx hb dX2_wall_0 rfl (lv_at hl 0 rfl) ?_
  refine lv_iload_n hx hb dX2_wall_1 rfl (lv_at hl 1 rfl) ?_
  refine rdV (As := [.int (zi ((j : Int)))]) (rest := []) (n := 1) hx hb hml hown hg (c_X2_profileOf l dC dI x0 pa ba ax ay sp ss vs fr pn bn ln sn cQ pf j h0 hj hf) (gwV wl_X2_53 wm_X2_profileOf we_X2_profileOf wi_X2 wc_X2_profileOf) rfl rfl (by decide +kernel) ⟨Nat.le_of_ble_eq_true rfl, Nat.le_of_ble_eq_true rfl⟩ (hK.sub [0] rfl) (hP.sub [0, 1] rfl) 0 rfl rfl rfl rfl hl.1 rfl (Nat.le_of_ble_eq_true rfl) dX2_wall_2 ⟨Nat.zero_le _, Nat.zero_le _⟩ ?_
  refine lv_astore_n (lv' := [(3, .ref h0), (0, .ref x0), (1, .int (zi ((j : Int)))), (2, .int (zi (v)))]) hx hb dX2_wall_5 rfl hl (by decide) rfl (fun ls hl => ?_)
  refine lv_iload_n hx hb dX2_wall_6 rfl (lv_at hl 3 rfl) ?_
  refine zz_if_lt (tgt := 16) hx hb (by omega) dX2_wall_7 (by decide) (fun c_7 => ?_) (fun c_7 => ?_)
  · exact False.elim (by omega)
  · refine lv_iload_n hx hb dX2_wall_10 rfl (lv_at hl 3 rfl) ?_
    refine lv_bipush (v := zi (50)) hx hb dX2_wall_11 (by decide) ?_
    refine zz_icmp_le (tgt := 26) hx hb (by omega) (by omega) dX2_wall_13 (by decide) (fun c_13 => ?_) (fun c_13 => ?_)
    · refine lv_aload_n hx hb dX2_wall_26 rfl (lv_at hl 0 rfl) ?_
      refine va_get (D := (dC, dI)) (ci := 1) (v := .int (zi (th))) (C := RX1) (T := TX1) (N := 5) hx hb hg inX1 hown hK hP 2 rfl rfl 3 (by decide) (hg _ wl_X2_116) (fun _ h9 => h9) rfl dX2_wall_27 ?_
      refine lv_istore (lv' := [(4, .int (zi (th))), (3, .ref h0), (0, .ref x0), (1, .int (zi ((j : Int)))), (2, .int (zi (v)))]) hx hb dX2_wall_30 hl (by decide) rfl (fun ls hl => ?_)
      refine lv_aload_n hx hb dX2_wall_32 rfl (lv_at hl 1 rfl) ?_
      refine lv_iload_n hx hb dX2_wall_33 rfl (lv_at hl 4 rfl) ?_
      refine va_put (D := (dC, dI)) (ci := 1) (v := .int (zi (v))) (ty := .int) (C := RX1) (T := TX1) (N := 5) hx hb hg inX1 tyX1 tyX1_ok nmX1 hown hK hP hD hS 2 rfl rfl 3 (by decide) (hg _ wl_X2_116) (fun _ h9 => h9) rfl (by decide +kernel) rfl rfl (Nat.le_of_ble_eq_true rfl) dX2_wall_34 (fun H locs hP hD hS => ?_)
      have hP : va_P (dC, dI) vwCl [(x0, .inr (2, [.ref pa, .int (zi ((pn : Int))), .ref ba, .int (zi ((bn : Int))), .ref ax, .ref ay, .int (zi ((ln : Int))), .ref sp, .ref ss, .int (zi ((sn : Int))), .ref vs, .ref fr])), (pa, .inl (cQ, 6, .inr (.inr (.inr (.inr (pf)))))), (h0, .inr (1, [.ref h1, .ref h2, .int (zi ((n : Int))), .int (zi (v)), .int (zi (wc))])), (h1, .inl (cA, 12, .inl (zA (hs)))), (h2, .inl (cA, 12, .inl (zA (rs))))] H := hP
      have hD : va_D A [(x0, .inr (2, [.ref pa, .int (zi ((pn : Int))), .ref ba, .int (zi ((bn : Int))), .ref ax, .ref ay, .int (zi ((ln : Int))), .ref sp, .ref ss, .int (zi ((sn : Int))), .ref vs, .ref fr])), (pa, .inl (cQ, 6, .inr (.inr (.inr (.inr (pf)))))), (h0, .inr (1, [.ref h1, .ref h2, .int (zi ((n : Int))), .int (zi (v)), .int (zi (wc))])), (h1, .inl (cA, 12, .inl (zA (hs)))), (h2, .inl (cA, 12, .inl (zA (rs))))] := hD
      refine lv_iload hx hb dX2_wall_37 (lv_at hl 0 rfl) ?_
      have hP9 : va_P (dC, dI) vwCl [(x0, .inr (2, [.ref pa, .int (zi ((pn : Int))), .ref ba, .int (zi ((bn : Int))), .ref ax, .ref ay, .int (zi ((ln : Int))), .ref sp, .ref ss, .int (zi ((sn : Int))), .ref vs, .ref fr])), (pa, .inl (cQ, 6, .inr (.inr (.inr (.inr (pf)))))), (h0, .inr (1, [.ref h1, .ref h2, .int (zi ((n : Int))), .int (zi (v)), .int (zi (wc))])), (h1, .inl (cA, 12, .inl (zA (hs)))), (h2, .inl (cA, 12, .inl (zA (rs))))] H := hP
      rw [hQQ]
      exact wr_i hx hb hr hlocks rfl hP9 hS dX2_wall_39
    · exact False.elim (by omega)

abbrev rm_X2_cut : Room := { frames := 7, cells := 0, slots := 0, locals := 122 }
set_option maxHeartbeats 4000000 in
set_option maxRecDepth 100000 in
theorem c_cut_n (l : Launch) (dC : Nat → ClassId) (dI : Nat → Nat → Nat) (sz : Nat) (x0 pa ba ax ay sp ss vs fr : Nat) (pn bn ln sn : Nat)(cQ : ClassId) (pf : Nat → Option Nat) (h0 h1 h2 : Nat) (cA : ClassId) (n : Nat) (th wc : Int) (hs rs : Nat → Int) (j : Nat) (h : Int) (hn : n ≤ 12) (hH : ∀ j, 0 ≤ hs j ∧ hs j ≤ 400) (hR : ∀ j, 0 ≤ rs j ∧ rs j ≤ 200) (hj : j < 6) (hf : pf j = some h0) (hw : wc = 0 ∨ wc = 1) (hh : -2147483648 ≤ h ∧ h < 2147483648) (hy : wc = 1 ∨ n = 0 ∨ h ≤ hs 0 ∨ hs (n - 1) ≤ h) : Met l yX2_cut (Cond.code yX2_cut cX2_cut 3 ((Option.some Jvm.ClassFile.FieldType.boolean)) :: gw) rm_X2_cut (PcW [.ref x0, .int (zi ((j : Int))), .int (zi (h))] (dC, dI) vwCl [(x0, .inr (2, [.ref pa, .int (zi ((pn : Int))), .ref ba, .int (zi ((bn : Int))), .ref ax, .ref ay, .int (zi ((ln : Int))), .ref sp, .ref ss, .int (zi ((sn : Int))), .ref vs, .ref fr])), (pa, .inl (cQ, 6, .inr (.inr (.inr (.inr (pf)))))), (h0, .inr (1, [.ref h1, .ref h2, .int (zi ((n : Int))), .int (zi (th)), .int (zi (wc))])), (h1, .inl (cA, 12, .inl (zA (hs)))), (h2, .inl (cA, 12, .inl (zA (rs))))] [(cQ, .object "PotVolumes$Profile"), (cA, .int)] sz) (WrQ (some (.int (zi 0))) (dC, dI) vwCl [(x0, .inr (2, [.ref pa, .int (zi ((pn : Int))), .ref ba, .int (zi ((bn : Int))), .ref ax, .ref ay, .int (zi ((ln : Int))), .ref sp, .ref ss, .int (zi ((sn : Int))), .ref vs, .ref fr])), (pa, .inl (cQ, 6, .inr (.inr (.inr (.inr (pf)))))), (h0, .inr (1, [.ref h1, .ref h2, .int (zi ((n : Int))), .int (zi (th)), .int (zi (wc))])), (h1, .inl (cA, 12, .inl (zA (hs)))), (h2, .inl (cA, 12, .inl (zA (rs))))] (va_A [(x0, .inr (2, [.ref pa, .int (zi ((pn : Int))), .ref ba, .int (zi ((bn : Int))), .ref ax, .ref ay, .int (zi ((ln : Int))), .ref sp, .ref ss, .int (zi ((sn : Int))), .ref vs, .ref fr])), (pa, .inl (cQ, 6, .inr (.inr (.inr (.inr (pf)))))), (h0, .inr (1, [.ref h1, .ref h2, .int (zi ((n : Int))), .int (zi (th)), .int (zi (wc))])), (h1, .inl (cA, 12, .inl (zA (hs)))), (h2, .inl (cA, 12, .inl (zA (rs))))] sz)) 0 0 (va_A [(x0, .inr (2, [.ref pa, .int (zi ((pn : Int))), .ref ba, .int (zi ((bn : Int))), .ref ax, .ref ay, .int (zi ((ln : Int))), .ref sp, .ref ss, .int (zi ((sn : Int))), .ref vs, .ref fr])), (pa, .inl (cQ, 6, .inr (.inr (.inr (.inr (pf)))))), (h0, .inr (1, [.ref h1, .ref h2, .int (zi ((n : Int))), .int (zi (th)), .int (zi (wc))])), (h1, .inl (cA, 12, .inl (zA (hs)))), (h2, .inl (cA, 12, .inl (zA (rs))))] sz) := by
  refine Met.ofW (cc := cX2_cut) (maxL := 3) (ret := ((Option.some Jvm.ClassFile.FieldType.boolean))) (by decide) rfl ?_
  intro p e s m args below meth c s₁ B hml hv
  obtain ⟨hargs, hsz, hP, hK, hD0⟩ := hv
  have hx := B.exec
  have hb := B.bytes
  have hr := B.returns
  have hts := atoms_spec (ws := Cond.code yX2_cut cX2_cut 3 ((Option.some Jvm.ClassFile.FieldType.boolean)) :: gw) B.pre
  have hg : ∀ w ∈ gw, w.before args s = true := fun w h => hts w (List.mem_cons_of_mem _ h)
  have hown : s.vm.findClass RX2 = some m.cls := findClass_of_methodNamed B.named
  have hlocks := B.notSynchronized
  subst hsz
  have hD := hD0.self (sz := s.heap.size)
  generalize hAe : va_A [(x0, .inr (2, [.ref pa, .int (zi ((pn : Int))), .ref ba, .int (zi ((bn : Int))), .ref ax, .ref ay, .int (zi ((ln : Int))), .ref sp, .ref ss, .int (zi ((sn : Int))), .ref vs, .ref fr])), (pa, .inl (cQ, 6, .inr (.inr (.inr (.inr (pf)))))), (h0, .inr (1, [.ref h1, .ref h2, .int (zi ((n : Int))), .int (zi (th)), .int (zi (wc))])), (h1, .inl (cA, 12, .inl (zA (hs)))), (h2, .inl (cA, 12, .inl (zA (rs))))] s.heap.size = A at hD ⊢
  have hA : ∀ q : Nat, s.heap.size ≤ q → A q := fun q h => by rw [← hAe]; exact Or.inr h
  show W p l e rm_X2_cut s m args below meth c s.heap [] 0 0 _ _
  have hl := lv_entry ([.ref x0, .int (zi ((j : Int))), .int (zi (h))]) (n := 3) (Nat.le_of_ble_eq_true rfl)
  rw [show entryFrame m args 3 = entryFrame m ([.ref x0, .int (zi ((j : Int))), .int (zi (h))] : List Value).toArray 3 by rw [hargs], lg_entry_eq]
  generalize (lg_sl ([.ref x0, .int (zi ((j : Int))), .int (zi (h))]) ++ List.replicate (3 - (lg_sl ([.ref x0, .int (zi ((j : Int))), .int (zi (h))])).length) Slot.unset).toArray = ls at hl ⊢
  have hl : lv_has ls 3 [(0, .ref x0), (1, .int (zi ((j : Int)))), (2, .int (zi (h)))] := hl
  obtain ⟨QQ, hQQ⟩ : ∃ Q, Q = MQ below (WrQ (some (.int (zi 0))) (dC, dI) vwCl [(x0, .inr (2, [.ref pa, .int (zi ((pn : Int))), .ref ba, .int (zi ((bn : Int))), .ref ax, .ref ay, .int (zi ((ln : Int))), .ref sp, .ref ss, .int (zi ((sn : Int))), .ref vs, .ref fr])), (pa, .inl (cQ, 6, .inr (.inr (.inr (.inr (pf)))))), (h0, .inr (1, [.ref h1, .ref h2, .int (zi ((n : Int))), .int (zi (th)), .int (zi (wc))])), (h1, .inl (cA, 12, .inl (zA (hs)))), (h2, .inl (cA, 12, .inl (zA (rs))))] A) args s 0 0 A := ⟨_, rfl⟩
  rw [← hQQ]
  obtain ⟨H, hHe⟩ : ∃ H : Heap, H = s.heap := ⟨_, rfl⟩
  obtain ⟨locs, hlc⟩ : ∃ x : List Loc, x = [] := ⟨_, rfl⟩
  have hS : va_S A s.heap H locs := by rw [hHe, hlc]; exact va_S.rf
  have hP : va_P (dC, dI) vwCl [(x0, .inr (2, [.ref pa, .int (zi ((pn : Int))), .ref ba, .int (zi ((bn : Int))), .ref ax, .ref ay, .int (zi ((ln : Int))), .ref sp, .ref ss, .int (zi ((sn : Int))), .ref vs, .ref fr])), (pa, .inl (cQ, 6, .inr (.inr (.inr (.inr (pf)))))), (h0, .inr (1, [.ref h1, .ref h2, .int (zi ((n : Int))), .int (zi (th)), .int (zi (wc))])), (h1, .inl (cA, 12, .inl (zA (hs)))), (h2, .inl (cA, 12, .inl (zA (rs))))] H := by rw [hHe]; exact hP
  have hD : va_D A [(x0, .inr (2, [.ref pa, .int (zi ((pn : Int))), .ref ba, .int (zi ((bn : Int))), .ref ax, .ref ay, .int (zi ((ln : Int))), .ref sp, .ref ss, .int (zi ((sn : Int))), .ref vs, .ref fr])), (pa, .inl (cQ, 6, .inr (.inr (.inr (.inr (pf)))))), (h0, .inr (1, [.ref h1, .ref h2, .int (zi ((n : Int))), .int (zi (th)), .int (zi (wc))])), (h1, .inl (cA, 12, .inl (zA (hs)))), (h2, .inl (cA, 12, .inl (zA (rs))))] := hD
  rw [← hHe, ← hlc]
  refine lv_aload_n hx hb dX2_cut_0 rfl (lv_at hl 0 rfl) ?_
  refine lv_iload_n hx hb dX2_cut_1 rfl (lv_at hl 1 rfl) ?_
  refine rdV (As := [.int (zi ((j : Int)))]) (rest := []) (n := 1) hx hb hml hown hg (c_X2_profileOf l dC dI x0 pa ba ax ay sp ss vs fr pn bn ln sn cQ pf j h0 hj hf) (gwV wl_X2_53 wm_X2_profileOf we_X2_profileOf wi_X2 wc_X2_profileOf) rfl rfl (by decide +kernel) ⟨Nat.le_of_ble_eq_true rfl, Nat.le_of_ble_eq_true rfl⟩ (hK.sub [0] rfl) (hP.sub [0, 1] rfl) 0 rfl rfl rfl rfl hl.1 rfl (Nat.le_of_ble_eq_true rfl) dX2_cut_2 ⟨Nat.zero_le _, Nat.zero_le _⟩ ?_
  refine lv_iload_n hx hb dX2_cut_5 rfl (lv_at hl 2 rfl) ?_
  refine wrV (As := [.int (zi (h))]) (rest := []) (n := 1) (ws' := [(x0, .inr (2, [.ref pa, .int (zi ((pn : Int))), .ref ba, .int (zi ((bn : Int))), .ref ax, .ref ay, .int (zi ((ln : Int))), .ref sp, .ref ss, .int (zi ((sn : Int))), .ref vs, .ref fr])), (pa, .inl (cQ, 6, .inr (.inr (.inr (.inr (pf)))))), (h0, .inr (1, [.ref h1, .ref h2, .int (zi ((n : Int))), .int (zi (th)), .int (zi (wc))])), (h1, .inl (cA, 12, .inl (zA (hs)))), (h2, .inl (cA, 12, .inl (zA (rs))))]) hx hb hml hown hg (c_X1_cutAt_n l dC dI H.size h0 h1 h2 cA n th wc hs rs (h) hn hH hR hw hh hy) (gwV wl_X2_127 wm_X1_cutAt we_X1_cutAt wi_X1 wc_X1_cutAt) rfl rfl (by decide +kernel) ⟨Nat.le_of_ble_eq_true rfl, Nat.le_of_ble_eq_true rfl⟩ (hK.sub [1] rfl) hP hD hS hA [2, 3, 4] rfl (by decide) [(false, 0), (false, 1), (true, 0), (true, 1), (true, 2)] rfl (by decide) rfl 0 rfl rfl rfl rfl hl.1 rfl (Nat.le_of_ble_eq_true rfl) dX2_cut_6 ⟨Nat.zero_le _, Nat.zero_le _⟩ (fun H locs hP hD hS => ?_)
  have hP9 : va_P (dC, dI) vwCl [(x0, .inr (2, [.ref pa, .int (zi ((pn : Int))), .ref ba, .int (zi ((bn : Int))), .ref ax, .ref ay, .int (zi ((ln : Int))), .ref sp, .ref ss, .int (zi ((sn : Int))), .ref vs, .ref fr])), (pa, .inl (cQ, 6, .inr (.inr (.inr (.inr (pf)))))), (h0, .inr (1, [.ref h1, .ref h2, .int (zi ((n : Int))), .int (zi (th)), .int (zi (wc))])), (h1, .inl (cA, 12, .inl (zA (hs)))), (h2, .inl (cA, 12, .inl (zA (rs))))] H := hP
  rw [hQQ]
  exact wr_z hx hb hr hlocks rfl (by first | exact Or.inl rfl | exact Or.inr rfl | omega) hP9 hS dX2_cut_9

set_option maxHeartbeats 4000000 in
set_option maxRecDepth 100000 in
theorem c_cut_a (l : Launch) (dC : Nat → ClassId) (dI : Nat → Nat → Nat) (sz : Nat) (x0 pa ba ax ay sp ss vs fr : Nat) (pn bn ln sn : Nat)(cQ : ClassId) (pf : Nat → Option Nat) (h0 h1 h2 : Nat) (cA : ClassId) (n : Nat) (th wc : Int) (hs rs : Nat → Int) (j : Nat) (h : Int) (hn : n ≤ 12) (hH : ∀ j, 0 ≤ hs j ∧ hs j ≤ 400) (hR : ∀ j, 0 ≤ rs j ∧ rs j ≤ 200) (hj : j < 6) (hf : pf j = some h0) (hw : wc = 0 ∨ wc = 1) (hh : -2147483648 ≤ h ∧ h < 2147483648) (hy : wc = 0 ∧ 0 < n ∧ hs 0 < h ∧ h < hs (n - 1)) (hc1 : 0 < p_cu hs h n ∧ p_cu hs h n < 12 ∧ hs (p_cu hs h n - 1) ≠ h) : Met l yX2_cut (Cond.code yX2_cut cX2_cut 3 ((Option.some Jvm.ClassFile.FieldType.boolean)) :: gw) rm_X2_cut (PcW [.ref x0, .int (zi ((j : Int))), .int (zi (h))] (dC, dI) vwCl [(x0, .inr (2, [.ref pa, .int (zi ((pn : Int))), .ref ba, .int (zi ((bn : Int))), .ref ax, .ref ay, .int (zi ((ln : Int))), .ref sp, .ref ss, .int (zi ((sn : Int))), .ref vs, .ref fr])), (pa, .inl (cQ, 6, .inr (.inr (.inr (.inr (pf)))))), (h0, .inr (1, [.ref h1, .ref h2, .int (zi ((n : Int))), .int (zi (th)), .int (zi (wc))])), (h1, .inl (cA, 12, .inl (zA (hs)))), (h2, .inl (cA, 12, .inl (zA (rs))))] [(cQ, .object "PotVolumes$Profile"), (cA, .int)] sz) (WrQ (some (.int (zi 1))) (dC, dI) vwCl [(x0, .inr (2, [.ref pa, .int (zi ((pn : Int))), .ref ba, .int (zi ((bn : Int))), .ref ax, .ref ay, .int (zi ((ln : Int))), .ref sp, .ref ss, .int (zi ((sn : Int))), .ref vs, .ref fr])), (pa, .inl (cQ, 6, .inr (.inr (.inr (.inr (pf)))))), (h0, .inr (1, [.ref h1, .ref h2, .int (zi (((p_cu hs h n + 1 : Nat) : Int))), .int (zi (th)), .int (zi (1))])), (h1, .inl (cA, 12, .inl (zA (zupd hs (p_cu hs h n) (h))))), (h2, .inl (cA, 12, .inl (zA (zupd rs (p_cu hs h n) (p_radius n hs rs (h))))))] (va_A [(x0, .inr (2, [.ref pa, .int (zi ((pn : Int))), .ref ba, .int (zi ((bn : Int))), .ref ax, .ref ay, .int (zi ((ln : Int))), .ref sp, .ref ss, .int (zi ((sn : Int))), .ref vs, .ref fr])), (pa, .inl (cQ, 6, .inr (.inr (.inr (.inr (pf)))))), (h0, .inr (1, [.ref h1, .ref h2, .int (zi ((n : Int))), .int (zi (th)), .int (zi (wc))])), (h1, .inl (cA, 12, .inl (zA (hs)))), (h2, .inl (cA, 12, .inl (zA (rs))))] sz)) 0 0 (va_A [(x0, .inr (2, [.ref pa, .int (zi ((pn : Int))), .ref ba, .int (zi ((bn : Int))), .ref ax, .ref ay, .int (zi ((ln : Int))), .ref sp, .ref ss, .int (zi ((sn : Int))), .ref vs, .ref fr])), (pa, .inl (cQ, 6, .inr (.inr (.inr (.inr (pf)))))), (h0, .inr (1, [.ref h1, .ref h2, .int (zi ((n : Int))), .int (zi (th)), .int (zi (wc))])), (h1, .inl (cA, 12, .inl (zA (hs)))), (h2, .inl (cA, 12, .inl (zA (rs))))] sz) := by
  refine Met.ofW (cc := cX2_cut) (maxL := 3) (ret := ((Option.some Jvm.ClassFile.FieldType.boolean))) (by decide) rfl ?_
  intro p e s m args below meth c s₁ B hml hv
  obtain ⟨hargs, hsz, hP, hK, hD0⟩ := hv
  have hx := B.exec
  have hb := B.bytes
  have hr := B.returns
  have hts := atoms_spec (ws := Cond.code yX2_cut cX2_cut 3 ((Option.some Jvm.ClassFile.FieldType.boolean)) :: gw) B.pre
  have hg : ∀ w ∈ gw, w.before args s = true := fun w h => hts w (List.mem_cons_of_mem _ h)
  have hown : s.vm.findClass RX2 = some m.cls := findClass_of_methodNamed B.named
  have hlocks := B.notSynchronized
  subst hsz
  have hD := hD0.self (sz := s.heap.size)
  generalize hAe : va_A [(x0, .inr (2, [.ref pa, .int (zi ((pn : Int))), .ref ba, .int (zi ((bn : Int))), .ref ax, .ref ay, .int (zi ((ln : Int))), .ref sp, .ref ss, .int (zi ((sn : Int))), .ref vs, .ref fr])), (pa, .inl (cQ, 6, .inr (.inr (.inr (.inr (pf)))))), (h0, .inr (1, [.ref h1, .ref h2, .int (zi ((n : Int))), .int (zi (th)), .int (zi (wc))])), (h1, .inl (cA, 12, .inl (zA (hs)))), (h2, .inl (cA, 12, .inl (zA (rs))))] s.heap.size = A at hD ⊢
  have hA : ∀ q : Nat, s.heap.size ≤ q → A q := fun q h => by rw [← hAe]; exact Or.inr h
  show W p l e rm_X2_cut s m args below meth c s.heap [] 0 0 _ _
  have hl := lv_entry ([.ref x0, .int (zi ((j : Int))), .int (zi (h))]) (n := 3) (Nat.le_of_ble_eq_true rfl)
  rw [show entryFrame m args 3 = entryFrame m ([.ref x0, .int (zi ((j : Int))), .int (zi (h))] : List Value).toArray 3 by rw [hargs], lg_entry_eq]
  generalize (lg_sl ([.ref x0, .int (zi ((j : Int))), .int (zi (h))]) ++ List.replicate (3 - (lg_sl ([.ref x0, .int (zi ((j : Int))), .int (zi (h))])).length) Slot.unset).toArray = ls at hl ⊢
  have hl : lv_has ls 3 [(0, .ref x0), (1, .int (zi ((j : Int)))), (2, .int (zi (h)))] := hl
  obtain ⟨QQ, hQQ⟩ : ∃ Q, Q = MQ below (WrQ (some (.int (zi 1))) (dC, dI) vwCl [(x0, .inr (2, [.ref pa, .int (zi ((pn : Int))), .ref ba, .int (zi ((bn : Int))), .ref ax, .ref ay, .int (zi ((ln : Int))), .ref sp, .ref ss, .int (zi ((sn : Int))), .ref vs, .ref fr])), (pa, .inl (cQ, 6, .inr (.inr (.inr (.inr (pf)))))), (h0, .inr (1, [.ref h1, .ref h2, .int (zi (((p_cu hs h n + 1 : Nat) : Int))), .int (zi (th)), .int (zi (1))])), (h1, .inl (cA, 12, .inl (zA (zupd hs (p_cu hs h n) (h))))), (h2, .inl (cA, 12, .inl (zA (zupd rs (p_cu hs h n) (p_radius n hs rs (h))))))] A) args s 0 0 A := ⟨_, rfl⟩
  rw [← hQQ]
  obtain ⟨H, hHe⟩ : ∃ H : Heap, H = s.heap := ⟨_, rfl⟩
  obtain ⟨locs, hlc⟩ : ∃ x : List Loc, x = [] := ⟨_, rfl⟩
  have hS : va_S A s.heap H locs := by rw [hHe, hlc]; exact va_S.rf
  have hP : va_P (dC, dI) vwCl [(x0, .inr (2, [.ref pa, .int (zi ((pn : Int))), .ref ba, .int (zi ((bn : Int))), .ref ax, .ref ay, .int (zi ((ln : Int))), .ref sp, .ref ss, .int (zi ((sn : Int))), .ref vs, .ref fr])), (pa, .inl (cQ, 6, .inr (.inr (.inr (.inr (pf)))))), (h0, .inr (1, [.ref h1, .ref h2, .int (zi ((n : Int))), .int (zi (th)), .int (zi (wc))])), (h1, .inl (cA, 12, .inl (zA (hs)))), (h2, .inl (cA, 12, .inl (zA (rs))))] H := by rw [hHe]; exact hP
  have hD : va_D A [(x0, .inr (2, [.ref pa, .int (zi ((pn : Int))), .ref ba, .int (zi ((bn : Int))), .ref ax, .ref ay, .int (zi ((ln : Int))), .ref sp, .ref ss, .int (zi ((sn : Int))), .ref vs, .ref fr])), (pa, .inl (cQ, 6, .inr (.inr (.inr (.inr (pf)))))), (h0, .inr (1, [.ref h1, .ref h2, .int (zi ((n : Int))), .int (zi (th)), .int (zi (wc))])), (h1, .inl (cA, 12, .inl (zA (hs)))), (h2, .inl (cA, 12, .inl (zA (rs))))] := hD
  rw [← hHe, ← hlc]
  refine lv_aload_n hx hb dX2_cut_0 rfl (lv_at hl 0 rfl) ?_
  refine lv_iload_n hx hb dX2_cut_1 rfl (lv_at hl 1 rfl) ?_
  refine rdV (As := [.int (zi ((j : Int)))]) (rest := []) (n := 1) hx hb hml hown hg (c_X2_profileOf l dC dI x0 pa ba ax ay sp ss vs fr pn bn ln sn cQ pf j h0 hj hf) (gwV wl_X2_53 wm_X2_profileOf we_X2_profileOf wi_X2 wc_X2_profileOf) rfl rfl (by decide +kernel) ⟨Nat.le_of_ble_eq_true rfl, Nat.le_of_ble_eq_true rfl⟩ (hK.sub [0] rfl) (hP.sub [0, 1] rfl) 0 rfl rfl rfl rfl hl.1 rfl (Nat.le_of_ble_eq_true rfl) dX2_cut_2 ⟨Nat.zero_le _, Nat.zero_le _⟩ ?_
  refine lv_iload_n hx hb dX2_cut_5 rfl (lv_at hl 2 rfl) ?_
  refine wrV (As := [.int (zi (h))]) (rest := []) (n := 1) (ws' := [(x0, .inr (2, [.ref pa, .int (zi ((pn : Int))), .ref ba, .int (zi ((bn : Int))), .ref ax, .ref ay, .int (zi ((ln : Int))), .ref sp, .ref ss, .int (zi ((sn : Int))), .ref vs, .ref fr])), (pa, .inl (cQ, 6, .inr (.inr (.inr (.inr (pf)))))), (h0, .inr (1, [.ref h1, .ref h2, .int (zi (((p_cu hs h n + 1 : Nat) : Int))), .int (zi (th)), .int (zi (1))])), (h1, .inl (cA, 12, .inl (zA (zupd hs (p_cu hs h n) (h))))), (h2, .inl (cA, 12, .inl (zA (zupd rs (p_cu hs h n) (p_radius n hs rs (h))))))]) hx hb hml hown hg (c_X1_cutAt_a l dC dI H.size h0 h1 h2 cA n th wc hs rs (h) hn hH hR hw hh hy hc1) (gwV wl_X2_127 wm_X1_cutAt we_X1_cutAt wi_X1 wc_X1_cutAt) rfl rfl (by decide +kernel) ⟨Nat.le_of_ble_eq_true rfl, Nat.le_of_ble_eq_true rfl⟩ (hK.sub [1] rfl) hP hD hS hA [2, 3, 4] rfl (by decide) [(false, 0), (false, 1), (true, 0), (true, 1), (true, 2)] rfl (by decide) rfl 0 rfl rfl rfl rfl hl.1 rfl (Nat.le_of_ble_eq_true rfl) dX2_cut_6 ⟨Nat.zero_le _, Nat.zero_le _⟩ (fun H locs hP hD hS => ?_)
  have hP9 : va_P (dC, dI) vwCl [(x0, .inr (2, [.ref pa, .int (zi ((pn : Int))), .ref ba, .int (zi ((bn : Int))), .ref ax, .ref ay, .int (zi ((ln : Int))), .ref sp, .ref ss, .int (zi ((sn : Int))), .ref vs, .ref fr])), (pa, .inl (cQ, 6, .inr (.inr (.inr (.inr (pf)))))), (h0, .inr (1, [.ref h1, .ref h2, .int (zi (((p_cu hs h n + 1 : Nat) : Int))), .int (zi (th)), .int (zi (1))])), (h1, .inl (cA, 12, .inl (zA (zupd hs (p_cu hs h n) (h))))), (h2, .inl (cA, 12, .inl (zA (zupd rs (p_cu hs h n) (p_radius n hs rs (h))))))] H := hP
  rw [hQQ]
  exact wr_z hx hb hr hlocks rfl (by first | exact Or.inl rfl | exact Or.inr rfl | omega) hP9 hS dX2_cut_9

set_option maxHeartbeats 4000000 in
set_option maxRecDepth 100000 in
theorem c_cut_b (l : Launch) (dC : Nat → ClassId) (dI : Nat → Nat → Nat) (sz : Nat) (x0 pa ba ax ay sp ss vs fr : Nat) (pn bn ln sn : Nat)(cQ : ClassId) (pf : Nat → Option Nat) (h0 h1 h2 : Nat) (cA : ClassId) (n : Nat) (th wc : Int) (hs rs : Nat → Int) (j : Nat) (h : Int) (hn : n ≤ 12) (hH : ∀ j, 0 ≤ hs j ∧ hs j ≤ 400) (hR : ∀ j, 0 ≤ rs j ∧ rs j ≤ 200) (hj : j < 6) (hf : pf j = some h0) (hw : wc = 0 ∨ wc = 1) (hh : -2147483648 ≤ h ∧ h < 2147483648) (hy : wc = 0 ∧ 0 < n ∧ hs 0 < h ∧ h < hs (n - 1)) (hc1 : ¬ (0 < p_cu hs h n ∧ p_cu hs h n < 12 ∧ hs (p_cu hs h n - 1) ≠ h)) : Met l yX2_cut (Cond.code yX2_cut cX2_cut 3 ((Option.some Jvm.ClassFile.FieldType.boolean)) :: gw) rm_X2_cut (PcW [.ref x0, .int (zi ((j : Int))), .int (zi (h))] (dC, dI) vwCl [(x0, .inr (2, [.ref pa, .int (zi ((pn : Int))), .ref ba, .int (zi ((bn : Int))), .ref ax, .ref ay, .int (zi ((ln : Int))), .ref sp, .ref ss, .int (zi ((sn : Int))), .ref vs, .ref fr])), (pa, .inl (cQ, 6, .inr (.inr (.inr (.inr (pf)))))), (h0, .inr (1, [.ref h1, .ref h2, .int (zi ((n : Int))), .int (zi (th)), .int (zi (wc))])), (h1, .inl (cA, 12, .inl (zA (hs)))), (h2, .inl (cA, 12, .inl (zA (rs))))] [(cQ, .object "PotVolumes$Profile"), (cA, .int)] sz) (WrQ (some (.int (zi 1))) (dC, dI) vwCl [(x0, .inr (2, [.ref pa, .int (zi ((pn : Int))), .ref ba, .int (zi ((bn : Int))), .ref ax, .ref ay, .int (zi ((ln : Int))), .ref sp, .ref ss, .int (zi ((sn : Int))), .ref vs, .ref fr])), (pa, .inl (cQ, 6, .inr (.inr (.inr (.inr (pf)))))), (h0, .inr (1, [.ref h1, .ref h2, .int (zi (((p_cu hs h n : Nat) : Int))), .int (zi (th)), .int (zi (1))])), (h1, .inl (cA, 12, .inl (zA (hs)))), (h2, .inl (cA, 12, .inl (zA (rs))))] (va_A [(x0, .inr (2, [.ref pa, .int (zi ((pn : Int))), .ref ba, .int (zi ((bn : Int))), .ref ax, .ref ay, .int (zi ((ln : Int))), .ref sp, .ref ss, .int (zi ((sn : Int))), .ref vs, .ref fr])), (pa, .inl (cQ, 6, .inr (.inr (.inr (.inr (pf)))))), (h0, .inr (1, [.ref h1, .ref h2, .int (zi ((n : Int))), .int (zi (th)), .int (zi (wc))])), (h1, .inl (cA, 12, .inl (zA (hs)))), (h2, .inl (cA, 12, .inl (zA (rs))))] sz)) 0 0 (va_A [(x0, .inr (2, [.ref pa, .int (zi ((pn : Int))), .ref ba, .int (zi ((bn : Int))), .ref ax, .ref ay, .int (zi ((ln : Int))), .ref sp, .ref ss, .int (zi ((sn : Int))), .ref vs, .ref fr])), (pa, .inl (cQ, 6, .inr (.inr (.inr (.inr (pf)))))), (h0, .inr (1, [.ref h1, .ref h2, .int (zi ((n : Int))), .int (zi (th)), .int (zi (wc))])), (h1, .inl (cA, 12, .inl (zA (hs)))), (h2, .inl (cA, 12, .inl (zA (rs))))] sz) := by
  refine Met.ofW (cc := cX2_cut) (maxL := 3) (ret := ((Option.some Jvm.ClassFile.FieldType.boolean))) (by decide) rfl ?_
  intro p e s m args below meth c s₁ B hml hv
  obtain ⟨hargs, hsz, hP, hK, hD0⟩ := hv
  have hx := B.exec
  have hb := B.bytes
  have hr := B.returns
  have hts := atoms_spec (ws := Cond.code yX2_cut cX2_cut 3 ((Option.some Jvm.ClassFile.FieldType.boolean)) :: gw) B.pre
  have hg : ∀ w ∈ gw, w.before args s = true := fun w h => hts w (List.mem_cons_of_mem _ h)
  have hown : s.vm.findClass RX2 = some m.cls := findClass_of_methodNamed B.named
  have hlocks := B.notSynchronized
  subst hsz
  have hD := hD0.self (sz := s.heap.size)
  generalize hAe : va_A [(x0, .inr (2, [.ref pa, .int (zi ((pn : Int))), .ref ba, .int (zi ((bn : Int))), .ref ax, .ref ay, .int (zi ((ln : Int))), .ref sp, .ref ss, .int (zi ((sn : Int))), .ref vs, .ref fr])), (pa, .inl (cQ, 6, .inr (.inr (.inr (.inr (pf)))))), (h0, .inr (1, [.ref h1, .ref h2, .int (zi ((n : Int))), .int (zi (th)), .int (zi (wc))])), (h1, .inl (cA, 12, .inl (zA (hs)))), (h2, .inl (cA, 12, .inl (zA (rs))))] s.heap.size = A at hD ⊢
  have hA : ∀ q : Nat, s.heap.size ≤ q → A q := fun q h => by rw [← hAe]; exact Or.inr h
  show W p l e rm_X2_cut s m args below meth c s.heap [] 0 0 _ _
  have hl := lv_entry ([.ref x0, .int (zi ((j : Int))), .int (zi (h))]) (n := 3) (Nat.le_of_ble_eq_true rfl)
  rw [show entryFrame m args 3 = entryFrame m ([.ref x0, .int (zi ((j : Int))), .int (zi (h))] : List Value).toArray 3 by rw [hargs], lg_entry_eq]
  generalize (lg_sl ([.ref x0, .int (zi ((j : Int))), .int (zi (h))]) ++ List.replicate (3 - (lg_sl ([.ref x0, .int (zi ((j : Int))), .int (zi (h))])).length) Slot.unset).toArray = ls at hl ⊢
  have hl : lv_has ls 3 [(0, .ref x0), (1, .int (zi ((j : Int)))), (2, .int (zi (h)))] := hl
  obtain ⟨QQ, hQQ⟩ : ∃ Q, Q = MQ below (WrQ (some (.int (zi 1))) (dC, dI) vwCl [(x0, .inr (2, [.ref pa, .int (zi ((pn : Int))), .ref ba, .int (zi ((bn : Int))), .ref ax, .ref ay, .int (zi ((ln : Int))), .ref sp, .ref ss, .int (zi ((sn : Int))), .ref vs, .ref fr])), (pa, .inl (cQ, 6, .inr (.inr (.inr (.inr (pf)))))), (h0, .inr (1, [.ref h1, .ref h2, .int (zi (((p_cu hs h n : Nat) : Int))), .int (zi (th)), .int (zi (1))])), (h1, .inl (cA, 12, .inl (zA (hs)))), (h2, .inl (cA, 12, .inl (zA (rs))))] A) args s 0 0 A := ⟨_, rfl⟩
  rw [← hQQ]
  obtain ⟨H, hHe⟩ : ∃ H : Heap, H = s.heap := ⟨_, rfl⟩
  obtain ⟨locs, hlc⟩ : ∃ x : List Loc, x = [] := ⟨_, rfl⟩
  have hS : va_S A s.heap H locs := by rw [hHe, hlc]; exact va_S.rf
  have hP : va_P (dC, dI) vwCl [(x0, .inr (2, [.ref pa, .int (zi ((pn : Int))), .ref ba, .int (zi ((bn : Int))), .ref ax, .ref ay, .int (zi ((ln : Int))), .ref sp, .ref ss, .int (zi ((sn : Int))), .ref vs, .ref fr])), (pa, .inl (cQ, 6, .inr (.inr (.inr (.inr (pf)))))), (h0, .inr (1, [.ref h1, .ref h2, .int (zi ((n : Int))), .int (zi (th)), .int (zi (wc))])), (h1, .inl (cA, 12, .inl (zA (hs)))), (h2, .inl (cA, 12, .inl (zA (rs))))] H := by rw [hHe]; exact hP
  have hD : va_D A [(x0, .inr (2, [.ref pa, .int (zi ((pn : Int))), .ref ba, .int (zi ((bn : Int))), .ref ax, .ref ay, .int (zi ((ln : Int))), .ref sp, .ref ss, .int (zi ((sn : Int))), .ref vs, .ref fr])), (pa, .inl (cQ, 6, .inr (.inr (.inr (.inr (pf)))))), (h0, .inr (1, [.ref h1, .ref h2, .int (zi ((n : Int))), .int (zi (th)), .int (zi (wc))])), (h1, .inl (cA, 12, .inl (zA (hs)))), (h2, .inl (cA, 12, .inl (zA (rs))))] := hD
  rw [← hHe, ← hlc]
  refine lv_aload_n hx hb dX2_cut_0 rfl (lv_at hl 0 rfl) ?_
  refine lv_iload_n hx hb dX2_cut_1 rfl (lv_at hl 1 rfl) ?_
  refine rdV (As := [.int (zi ((j : Int)))]) (rest := []) (n := 1) hx hb hml hown hg (c_X2_profileOf l dC dI x0 pa ba ax ay sp ss vs fr pn bn ln sn cQ pf j h0 hj hf) (gwV wl_X2_53 wm_X2_profileOf we_X2_profileOf wi_X2 wc_X2_profileOf) rfl rfl (by decide +kernel) ⟨Nat.le_of_ble_eq_true rfl, Nat.le_of_ble_eq_true rfl⟩ (hK.sub [0] rfl) (hP.sub [0, 1] rfl) 0 rfl rfl rfl rfl hl.1 rfl (Nat.le_of_ble_eq_true rfl) dX2_cut_2 ⟨Nat.zero_le _, Nat.zero_le _⟩ ?_
  refine lv_iload_n hx hb dX2_cut_5 rfl (lv_at hl 2 rfl) ?_
  refine wrV (As := [.int (zi (h))]) (rest := []) (n := 1) (ws' := [(x0, .inr (2, [.ref pa, .int (zi ((pn : Int))), .ref ba, .int (zi ((bn : Int))), .ref ax, .ref ay, .int (zi ((ln : Int))), .ref sp, .ref ss, .int (zi ((sn : Int))), .ref vs, .ref fr])), (pa, .inl (cQ, 6, .inr (.inr (.inr (.inr (pf)))))), (h0, .inr (1, [.ref h1, .ref h2, .int (zi (((p_cu hs h n : Nat) : Int))), .int (zi (th)), .int (zi (1))])), (h1, .inl (cA, 12, .inl (zA (hs)))), (h2, .inl (cA, 12, .inl (zA (rs))))]) hx hb hml hown hg (c_X1_cutAt_b l dC dI H.size h0 h1 h2 cA n th wc hs rs (h) hn hH hR hw hh hy hc1) (gwV wl_X2_127 wm_X1_cutAt we_X1_cutAt wi_X1 wc_X1_cutAt) rfl rfl (by decide +kernel) ⟨Nat.le_of_ble_eq_true rfl, Nat.le_of_ble_eq_true rfl⟩ (hK.sub [1] rfl) hP hD hS hA [2, 3, 4] rfl (by decide) [(false, 0), (false, 1), (true, 0), (true, 1), (true, 2)] rfl (by decide) rfl 0 rfl rfl rfl rfl hl.1 rfl (Nat.le_of_ble_eq_true rfl) dX2_cut_6 ⟨Nat.zero_le _, Nat.zero_le _⟩ (fun H locs hP hD hS => ?_)
  have hP9 : va_P (dC, dI) vwCl [(x0, .inr (2, [.ref pa, .int (zi ((pn : Int))), .ref ba, .int (zi ((bn : Int))), .ref ax, .ref ay, .int (zi ((ln : Int))), .ref sp, .ref ss, .int (zi ((sn : Int))), .ref vs, .ref fr])), (pa, .inl (cQ, 6, .inr (.inr (.inr (.inr (pf)))))), (h0, .inr (1, [.ref h1, .ref h2, .int (zi (((p_cu hs h n : Nat) : Int))), .int (zi (th)), .int (zi (1))])), (h1, .inl (cA, 12, .inl (zA (hs)))), (h2, .inl (cA, 12, .inl (zA (rs))))] H := hP
  rw [hQQ]
  exact wr_z hx hb hr hlocks rfl (by first | exact Or.inl rfl | exact Or.inr rfl | omega) hP9 hS dX2_cut_9

set_option maxHeartbeats 4000000 in
set_option maxRecDepth 100000 in
theorem t_unlike_q (l : Launch) (hl0 : l.stackTraces = false) (dC : Nat → ClassId) (dI : Nat → Nat → Nat) (x0 pa ba ax ay sp ss vs fr : Nat) (pn bn ln sn : Nat)(cQ : ClassId) (pf : Nat → Option Nat) (h0 h1 h2 : Nat) (cA : ClassId) (n : Nat) (th wc : Int) (hs rs : Nat → Int) (j : Nat) (i : Int) (hn : n ≤ 12) (hH : ∀ j, 0 ≤ hs j ∧ hs j ≤ 400) (hR : ∀ j, 0 ≤ rs j ∧ rs j ≤ 200) (hj : j < 6) (hf : pf j = some h0) (hi : -2147483648 ≤ i ∧ i < 2147483648) (hbad : i < 0 ∨ 6 ≤ i ∨ pf i.toNat = none) : ThM l yX2_unlike cX2_unlike 8 ((Option.some Jvm.ClassFile.FieldType.int)) rt_X2_unlike (PcT [.ref x0, .int (zi ((j : Int))), .int (zi (i))] (dC, dI) vwCl [(x0, .inr (2, [.ref pa, .int (zi ((pn : Int))), .ref ba, .int (zi ((bn : Int))), .ref ax, .ref ay, .int (zi ((ln : Int))), .ref sp, .ref ss, .int (zi ((sn : Int))), .ref vs, .ref fr])), (pa, .inl (cQ, 6, .inr (.inr (.inr (.inr (pf)))))), (h0, .inr (1, [.ref h1, .ref h2, .int (zi ((n : Int))), .int (zi (th)), .int (zi (wc))])), (h1, .inl (cA, 12, .inl (zA (hs)))), (h2, .inl (cA, 12, .inl (zA (rs))))] [(cQ, .object "PotVolumes$Profile"), (cA, .int)]) KI := by
  refine vx_ofW (cc := cX2_unlike) (maxL := 8) (ret := ((Option.some Jvm.ClassFile.FieldType.int))) (by decide) rfl ?_
  intro p e s m args below meth c s₁ B hml hno hv
  obtain ⟨hargs, hP, hK, hE⟩ := hv
  have hx := B.exec
  have hb := B.bytes
  have hr := B.returns
  have hts := atoms_spec (ws := Cond.code yX2_unlike cX2_unlike 8 ((Option.some Jvm.ClassFile.FieldType.int)) :: gw) B.pre
  have hg : ∀ w ∈ gw, w.before args s = true := fun w h => hts w (List.mem_cons_of_mem _ h)
  have hown : s.vm.findClass RX2 = some m.cls := findClass_of_methodNamed B.named
  have hlocks := B.notSynchronized
  show W p l e rt_X2_unlike s m args below meth c s.heap [] 0 0 _ _
  have hl := lv_entry ([.ref x0, .int (zi ((j : Int))), .int (zi (i))]) (n := 8) (Nat.le_of_ble_eq_true rfl)
  rw [show entryFrame m args 8 = entryFrame m ([.ref x0, .int (zi ((j : Int))), .int (zi (i))] : List Value).toArray 8 by rw [hargs], lg_entry_eq]
  generalize (lg_sl ([.ref x0, .int (zi ((j : Int))), .int (zi (i))]) ++ List.replicate (8 - (lg_sl ([.ref x0, .int (zi ((j : Int))), .int (zi (i))])).length) Slot.unset).toArray = ls at hl ⊢
  have hl : lv_has ls 8 [(0, .ref x0), (1, .int (zi ((j : Int)))), (2, .int (zi (i)))] := hl
  obtain ⟨QQ, hQQ⟩ : ∃ Q, Q = vx_MQ below QF (XK KI) args s 1 6 (fun _ => False) := ⟨_, rfl⟩
  rw [← hQQ]
  refine lv_aload_n hx hb dX2_unlike_0 rfl (lv_at hl 0 rfl) ?_
  refine lv_iload_n hx hb dX2_unlike_1 rfl (lv_at hl 1 rfl) ?_
  refine rdV (As := [.int (zi ((j : Int)))]) (rest := []) (n := 1) hx hb hml hown hg (c_X2_profileOf l dC dI x0 pa ba ax ay sp ss vs fr pn bn ln sn cQ pf j h0 hj hf) (gwV wl_X2_53 wm_X2_profileOf we_X2_profileOf wi_X2 wc_X2_profileOf) rfl rfl (by decide +kernel) ⟨Nat.le_of_ble_eq_true rfl, Nat.le_of_ble_eq_true rfl⟩ (hK.sub [0] rfl) (hP.sub [0, 1] rfl) 0 rfl rfl rfl rfl hl.1 rfl (Nat.le_of_ble_eq_true rfl) dX2_unlike_2 ⟨Nat.zero_le _, Nat.zero_le _⟩ ?_
  refine lv_astore_n (lv' := [(3, .ref h0), (0, .ref x0), (1, .int (zi ((j : Int)))), (2, .int (zi (i)))]) hx hb dX2_unlike_5 rfl hl (by decide) rfl (fun ls hl => ?_)
  refine lv_aload_n hx hb dX2_unlike_6 rfl (lv_at hl 1 rfl) ?_
  refine lv_iload_n hx hb dX2_unlike_7 rfl (lv_at hl 3 rfl) ?_
  rw [hQQ]
  exact thV (As := [.int (zi (i))]) (rest := []) (n := 1) hx hb hml hown hg (t_X2_profileOf l hl0 dC dI x0 pa ba ax ay sp ss vs fr pn bn ln sn cQ pf (i) hi hbad) (gwV wl_X2_53 wm_X2_profileOf we_X2_profileOf wi_X2 wc_X2_profileOf) rfl rfl (by decide +kernel) ⟨Nat.le_of_ble_eq_true rfl, Nat.le_of_ble_eq_true rfl⟩ (hK.sub [0] rfl) (hP.sub [0, 1] rfl) hE 0 rfl rfl rfl rfl hl.1 rfl (Nat.le_of_ble_eq_true rfl) dX2_unlike_8 ⟨Nat.le_of_ble_eq_true rfl, Nat.le_of_ble_eq_true rfl⟩ hno hlocks

abbrev rm_X2_unlike : Room := { frames := 7, cells := 0, slots := 0, locals := 122 }
set_option maxHeartbeats 4000000 in
set_option maxRecDepth 100000 in
theorem c_unlike_s (l : Launch) (dC : Nat → ClassId) (dI : Nat → Nat → Nat) (x0 pa ba ax ay sp ss vs fr : Nat) (pn bn ln sn : Nat)(cQ : ClassId) (pf : Nat → Option Nat) (h0 h1 h2 : Nat) (cA : ClassId) (n : Nat) (th wc : Int) (hs rs : Nat → Int) (j : Nat) (hn : n ≤ 12) (hH : ∀ j, 0 ≤ hs j ∧ hs j ≤ 400) (hR : ∀ j, 0 ≤ rs j ∧ rs j ≤ 200) (hj : j < 6) (hf : pf j = some h0) : Met l yX2_unlike (Cond.code yX2_unlike cX2_unlike 8 ((Option.some Jvm.ClassFile.FieldType.int)) :: gw) rm_X2_unlike (PcR [.ref x0, .int (zi ((j : Int))), .int (zi ((j : Int)))] (dC, dI) vwCl [(x0, .inr (2, [.ref pa, .int (zi ((pn : Int))), .ref ba, .int (zi ((bn : Int))), .ref ax, .ref ay, .int (zi ((ln : Int))), .ref sp, .ref ss, .int (zi ((sn : Int))), .ref vs, .ref fr])), (pa, .inl (cQ, 6, .inr (.inr (.inr (.inr (pf)))))), (h0, .inr (1, [.ref h1, .ref h2, .int (zi ((n : Int))), .int (zi (th)), .int (zi (wc))])), (h1, .inl (cA, 12, .inl (zA (hs)))), (h2, .inl (cA, 12, .inl (zA (rs))))] [(cQ, .object "PotVolumes$Profile"), (cA, .int)]) (RdQ (some (.int (zi (p_unl (p_radius n hs rs) (p_radius n hs rs) 401))))) 0 0 (fun _ => False) := by
  refine Met.ofW (cc := cX2_unlike) (maxL := 8) (ret := ((Option.some Jvm.ClassFile.FieldType.int))) (by decide) rfl ?_
  intro p e s m args below meth c s₁ B hml hv
  obtain ⟨hargs, hP, hK⟩ := hv
  have hx := B.exec
  have hb := B.bytes
  have hr := B.returns
  have hts := atoms_spec (ws := Cond.code yX2_unlike cX2_unlike 8 ((Option.some Jvm.ClassFile.FieldType.int)) :: gw) B.pre
  have hg : ∀ w ∈ gw, w.before args s = true := fun w h => hts w (List.mem_cons_of_mem _ h)
  have hown : s.vm.findClass RX2 = some m.cls := findClass_of_methodNamed B.named
  have hlocks := B.notSynchronized
  show W p l e rm_X2_unlike s m args below meth c s.heap [] 0 0 _ _
  have hl := lv_entry ([.ref x0, .int (zi ((j : Int))), .int (zi ((j : Int)))]) (n := 8) (Nat.le_of_ble_eq_true rfl)
  rw [show entryFrame m args 8 = entryFrame m ([.ref x0, .int (zi ((j : Int))), .int (zi ((j : Int)))] : List Value).toArray 8 by rw [hargs], lg_entry_eq]
  generalize (lg_sl ([.ref x0, .int (zi ((j : Int))), .int (zi ((j : Int)))]) ++ List.replicate (8 - (lg_sl ([.ref x0, .int (zi ((j : Int))), .int (zi ((j : Int)))])).length) Slot.unset).toArray = ls at hl ⊢
  have hl : lv_has ls 8 [(0, .ref x0), (1, .int (zi ((j : Int)))), (2, .int (zi ((j : Int))))] := hl
  obtain ⟨QQ, hQQ⟩ : ∃ Q, Q = MQ below (RdQ (some (.int (zi (p_unl (p_radius n hs rs) (p_radius n hs rs) 401))))) args s 0 0 (fun _ => False) := ⟨_, rfl⟩
  rw [← hQQ]
  have hbd := fun k => p_unl_bd (k := k) (fun k => p_radius_bd (n := n) (h := k) hH hR) (fun k => p_radius_bd (n := n) (h := k) hH hR)
  have hr1 := fun k => p_radius_bd (n := n) (h := k) hH hR
  have hr2 := fun k => p_radius_bd (n := n) (h := k) hH hR
  refine lv_aload_n hx hb dX2_unlike_0 rfl (lv_at hl 0 rfl) ?_
  refine lv_iload_n hx hb dX2_unlike_1 rfl (lv_at hl 1 rfl) ?_
  refine rdV (As := [.int (zi ((j : Int)))]) (rest := []) (n := 1) hx hb hml hown hg (c_X2_profileOf l dC dI x0 pa ba ax ay sp ss vs fr pn bn ln sn cQ pf j h0 hj hf) (gwV wl_X2_53 wm_X2_profileOf we_X2_profileOf wi_X2 wc_X2_profileOf) rfl rfl (by decide +kernel) ⟨Nat.le_of_ble_eq_true rfl, Nat.le_of_ble_eq_true rfl⟩ (hK.sub [0] rfl) (hP.sub [0, 1] rfl) 0 rfl rfl rfl rfl hl.1 rfl (Nat.le_of_ble_eq_true rfl) dX2_unlike_2 ⟨Nat.zero_le _, Nat.zero_le _⟩ ?_
  refine lv_astore_n (lv' := [(3, .ref h0), (0, .ref x0), (1, .int (zi ((j : Int)))), (2, .int (zi ((j : Int))))]) hx hb dX2_unlike_5 rfl hl (by decide) rfl (fun ls hl => ?_)
  refine lv_aload_n hx hb dX2_unlike_6 rfl (lv_at hl 1 rfl) ?_
  refine lv_iload_n hx hb dX2_unlike_7 rfl (lv_at hl 3 rfl) ?_
  refine rdV (As := [.int (zi ((j : Int)))]) (rest := []) (n := 1) hx hb hml hown hg (c_X2_profileOf l dC dI x0 pa ba ax ay sp ss vs fr pn bn ln sn cQ pf j h0 hj hf) (gwV wl_X2_53 wm_X2_profileOf we_X2_profileOf wi_X2 wc_X2_profileOf) rfl rfl (by decide +kernel) ⟨Nat.le_of_ble_eq_true rfl, Nat.le_of_ble_eq_true rfl⟩ (hK.sub [0] rfl) (hP.sub [0, 1] rfl) 0 rfl rfl rfl rfl hl.1 rfl (Nat.le_of_ble_eq_true rfl) dX2_unlike_8 ⟨Nat.zero_le _, Nat.zero_le _⟩ ?_
  refine lv_astore (lv' := [(4, .ref h0), (3, .ref h0), (0, .ref x0), (1, .int (zi ((j : Int)))), (2, .int (zi ((j : Int))))]) hx hb dX2_unlike_11 hl (by decide) rfl (fun ls hl => ?_)
  refine lv_iconst (v := zi (0)) hx hb dX2_unlike_13 rfl ?_
  refine lv_istore (lv' := [(5, .int (zi (0))), (4, .ref h0), (3, .ref h0), (0, .ref x0), (1, .int (zi ((j : Int)))), (2, .int (zi ((j : Int))))]) hx hb dX2_unlike_14 hl (by decide) rfl (fun ls hl => ?_)
  refine lv_iconst (v := zi (0)) hx hb dX2_unlike_16 rfl ?_
  refine lv_istore (lv' := [(6, .int (zi (0))), (5, .int (zi (0))), (4, .ref h0), (3, .ref h0), (0, .ref x0), (1, .int (zi ((j : Int)))), (2, .int (zi ((j : Int))))]) hx hb dX2_unlike_17 hl (by decide) rfl (fun ls hl => ?_)
  have key_19 : ∀ (n_ : Nat) (t : Nat), t ≤ 401 → 401 - t < n_ → ∀ (ls : Array Slot), lv_has ls 8 [(6, .int (zi ((t : Int)))), (5, .int (zi (p_unl (p_radius n hs rs) (p_radius n hs rs) t))), (4, .ref h0), (3, .ref h0), (0, .ref x0)] → W p l e rm_X2_unlike s m args below meth c s.heap [] 0 0 QQ (F0 m 19 ls []) := by
    intro n_
    induction n_ with
    | zero => intro t ht hm_; exact absurd hm_ (Nat.not_lt_zero _)
    | succ n_ ih =>
      intro t ht hm_ ls hl
      refine lv_iload hx hb dX2_unlike_19 (lv_at hl 0 rfl) ?_
      refine lv_sipush (v := zi (400)) hx hb dX2_unlike_21 (by decide) ?_
      refine zz_icmp_gt (tgt := 59) hx hb (by omega) (by omega) dX2_unlike_24 (by decide) (fun c_24 => ?_) (fun c_24 => ?_)
      · refine lv_iload hx hb dX2_unlike_59 (lv_at hl 1 rfl) ?_
        rw [hQQ]
        exact rd_i hx hb hr hlocks (by rw [show t = 401 by omega]) dX2_unlike_61
      · refine lv_aload_n hx hb dX2_unlike_27 rfl (lv_at hl 3 rfl) ?_
        refine lv_iload hx hb dX2_unlike_28 (lv_at hl 0 rfl) ?_
        refine rdV (As := [.int (zi ((t : Int)))]) (rest := []) (n := 1) hx hb hml hown hg (c_X1_radiusOrZero l dC dI h0 h1 h2 cA n th wc hs rs ((t : Int)) hn hH hR (by omega)) (gwV wl_X2_119 wm_X1_radiusOrZero we_X1_radiusOrZero wi_X1 wc_X1_radiusOrZero) rfl rfl (by decide +kernel) ⟨Nat.le_of_ble_eq_true rfl, Nat.le_of_ble_eq_true rfl⟩ (hK.sub [1] rfl) (hP.sub [2, 3, 4] rfl) 0 rfl rfl rfl rfl hl.1 rfl (Nat.le_of_ble_eq_true rfl) dX2_unlike_30 ⟨Nat.zero_le _, Nat.zero_le _⟩ ?_
        refine lv_aload hx hb dX2_unlike_33 (lv_at hl 2 rfl) ?_
        refine lv_iload hx hb dX2_unlike_35 (lv_at hl 0 rfl) ?_
        refine rdV (As := [.int (zi ((t : Int)))]) (rest := [.int (zi (max 0 (p_radius n hs rs ((t : Int)))))]) (n := 1) hx hb hml hown hg (c_X1_radiusOrZero l dC dI h0 h1 h2 cA n th wc hs rs ((t : Int)) hn hH hR (by omega)) (gwV wl_X2_119 wm_X1_radiusOrZero we_X1_radiusOrZero wi_X1 wc_X1_radiusOrZero) rfl rfl (by decide +kernel) ⟨Nat.le_of_ble_eq_true rfl, Nat.le_of_ble_eq_true rfl⟩ (hK.sub [1] rfl) (hP.sub [2, 3, 4] rfl) 0 rfl rfl rfl rfl hl.1 rfl (Nat.le_of_ble_eq_true rfl) dX2_unlike_37 ⟨Nat.zero_le _, Nat.zero_le _⟩ ?_
        refine zz_isub hx hb dX2_unlike_40 ?_
        refine lv_istore (lv' := [(7, .int (zi ((max 0 (p_radius n hs rs ((t : Int)))) - (max 0 (p_radius n hs rs ((t : Int))))))), (6, .int (zi ((t : Int)))), (5, .int (zi (p_unl (p_radius n hs rs) (p_radius n hs rs) t))), (4, .ref h0), (3, .ref h0), (0, .ref x0)]) hx hb dX2_unlike_41 hl (by decide) rfl (fun ls hl => ?_)
        refine lv_iload hx hb dX2_unlike_43 (lv_at hl 2 rfl) ?_
        refine lv_iload hx hb dX2_unlike_45 (lv_at hl 0 rfl) ?_
        refine va_mabs hx hb (hml.trans hl.1.symm) hown (hg _ wl_X2_122) (hg _ wt_Math_abs) (hg _ wi_Math) (hg _ wc_Math_abs_I_I) (Nat.le_of_ble_eq_true rfl) (Nat.le_of_ble_eq_true rfl) (Nat.zero_le _) (Nat.zero_le _) dX2_unlike_47 ?_
        refine zz_topi (z := (((max 0 (p_radius n hs rs ((t : Int)))) - (max 0 (p_radius n hs rs ((t : Int))))).natAbs : Int)) (zi_abs (by have := hr1 (t : Int); have := hr2 (t : Int); omega)) ?_
        refine zz_iadd hx hb dX2_unlike_50 ?_
        refine lv_istore (lv' := [(5, .int (zi ((p_unl (p_radius n hs rs) (p_radius n hs rs) t) + ((((max 0 (p_radius n hs rs ((t : Int)))) - (max 0 (p_radius n hs rs ((t : Int))))).natAbs : Int))))), (7, .int (zi ((max 0 (p_radius n hs rs ((t : Int)))) - (max 0 (p_radius n hs rs ((t : Int))))))), (6, .int (zi ((t : Int)))), (4, .ref h0), (3, .ref h0), (0, .ref x0)]) hx hb dX2_unlike_51 hl (by decide) rfl (fun ls hl => ?_)
        refine lv_iinc (v := zi (((t : Int)) + (1))) (lv' := [(6, .int (zi (((t : Int)) + (1)))), (5, .int (zi ((p_unl (p_radius n hs rs) (p_radius n hs rs) t) + ((((max 0 (p_radius n hs rs ((t : Int)))) - (max 0 (p_radius n hs rs ((t : Int))))).natAbs : Int))))), (7, .int (zi ((max 0 (p_radius n hs rs ((t : Int)))) - (max 0 (p_radius n hs rs ((t : Int))))))), (4, .ref h0), (3, .ref h0), (0, .ref x0)]) hx hb dX2_unlike_53 hl (k := 2) rfl (zi_add _ _) (by decide) rfl (fun ls hl => ?_)
        refine lv_goto (tgt := 19) hx hb dX2_unlike_56 (by decide) ?_
        exact ih (t + 1) (by omega) (by omega) ls (lv_sub hl [0, 1, 3, 4, 5] rfl)
  exact key_19 _ 0 (by omega) (Nat.lt_succ_self _) ls (lv_sub hl [0, 1, 2, 3, 4] rfl)

set_option maxHeartbeats 4000000 in
set_option maxRecDepth 100000 in
theorem c_unlike_d (l : Launch) (dC : Nat → ClassId) (dI : Nat → Nat → Nat) (x0 pa ba ax ay sp ss vs fr : Nat) (pn bn ln sn : Nat)(cQ : ClassId) (pf : Nat → Option Nat) (h0 h1 h2 : Nat) (cA : ClassId) (n : Nat) (th wc : Int) (hs rs : Nat → Int) (j : Nat) (q : Nat) (g0 g1 g2 : Nat) (n' : Nat) (th' wc' : Int) (hs' rs' : Nat → Int) (hn : n ≤ 12) (hH : ∀ j, 0 ≤ hs j ∧ hs j ≤ 400) (hR : ∀ j, 0 ≤ rs j ∧ rs j ≤ 200) (hj : j < 6) (hf : pf j = some h0) (hn' : n' ≤ 12) (hH' : ∀ j, 0 ≤ hs' j ∧ hs' j ≤ 400) (hR' : ∀ j, 0 ≤ rs' j ∧ rs' j ≤ 200) (hq : q < 6) (hf2 : pf q = some g0) : Met l yX2_unlike (Cond.code yX2_unlike cX2_unlike 8 ((Option.some Jvm.ClassFile.FieldType.int)) :: gw) rm_X2_unlike (PcR [.ref x0, .int (zi ((j : Int))), .int (zi ((q : Int)))] (dC, dI) vwCl [(x0, .inr (2, [.ref pa, .int (zi ((pn : Int))), .ref ba, .int (zi ((bn : Int))), .ref ax, .ref ay, .int (zi ((ln : Int))), .ref sp, .ref ss, .int (zi ((sn : Int))), .ref vs, .ref fr])), (pa, .inl (cQ, 6, .inr (.inr (.inr (.inr (pf)))))), (h0, .inr (1, [.ref h1, .ref h2, .int (zi ((n : Int))), .int (zi (th)), .int (zi (wc))])), (h1, .inl (cA, 12, .inl (zA (hs)))), (h2, .inl (cA, 12, .inl (zA (rs)))), (g0, .inr (1, [.ref g1, .ref g2, .int (zi ((n' : Int))), .int (zi (th')), .int (zi (wc'))])), (g1, .inl (cA, 12, .inl (zA (hs')))), (g2, .inl (cA, 12, .inl (zA (rs'))))] [(cQ, .object "PotVolumes$Profile"), (cA, .int)]) (RdQ (some (.int (zi (p_unl (p_radius n hs rs) (p_radius n' hs' rs') 401))))) 0 0 (fun _ => False) := by
  refine Met.ofW (cc := cX2_unlike) (maxL := 8) (ret := ((Option.some Jvm.ClassFile.FieldType.int))) (by decide) rfl ?_
  intro p e s m args below meth c s₁ B hml hv
  obtain ⟨hargs, hP, hK⟩ := hv
  have hx := B.exec
  have hb := B.bytes
  have hr := B.returns
  have hts := atoms_spec (ws := Cond.code yX2_unlike cX2_unlike 8 ((Option.some Jvm.ClassFile.FieldType.int)) :: gw) B.pre
  have hg : ∀ w ∈ gw, w.before args s = true := fun w h => hts w (List.mem_cons_of_mem _ h)
  have hown : s.vm.findClass RX2 = some m.cls := findClass_of_methodNamed B.named
  have hlocks := B.notSynchronized
  show W p l e rm_X2_unlike s m args below meth c s.heap [] 0 0 _ _
  have hl := lv_entry ([.ref x0, .int (zi ((j : Int))), .int (zi ((q : Int)))]) (n := 8) (Nat.le_of_ble_eq_true rfl)
  rw [show entryFrame m args 8 = entryFrame m ([.ref x0, .int (zi ((j : Int))), .int (zi ((q : Int)))] : List Value).toArray 8 by rw [hargs], lg_entry_eq]
  generalize (lg_sl ([.ref x0, .int (zi ((j : Int))), .int (zi ((q : Int)))]) ++ List.replicate (8 - (lg_sl ([.ref x0, .int (zi ((j : Int))), .int (zi ((q : Int)))])).length) Slot.unset).toArray = ls at hl ⊢
  have hl : lv_has ls 8 [(0, .ref x0), (1, .int (zi ((j : Int)))), (2, .int (zi ((q : Int))))] := hl
  obtain ⟨QQ, hQQ⟩ : ∃ Q, Q = MQ below (RdQ (some (.int (zi (p_unl (p_radius n hs rs) (p_radius n' hs' rs') 401))))) args s 0 0 (fun _ => False) := ⟨_, rfl⟩
  rw [← hQQ]
  have hbd := fun k => p_unl_bd (k := k) (fun k => p_radius_bd (n := n) (h := k) hH hR) (fun k => p_radius_bd (n := n') (h := k) hH' hR')
  have hr1 := fun k => p_radius_bd (n := n) (h := k) hH hR
  have hr2 := fun k => p_radius_bd (n := n') (h := k) hH' hR'
  refine lv_aload_n hx hb dX2_unlike_0 rfl (lv_at hl 0 rfl) ?_
  refine lv_iload_n hx hb dX2_unlike_1 rfl (lv_at hl 1 rfl) ?_
  refine rdV (As := [.int (zi ((j : Int)))]) (rest := []) (n := 1) hx hb hml hown hg (c_X2_profileOf l dC dI x0 pa ba ax ay sp ss vs fr pn bn ln sn cQ pf j h0 hj hf) (gwV wl_X2_53 wm_X2_profileOf we_X2_profileOf wi_X2 wc_X2_profileOf) rfl rfl (by decide +kernel) ⟨Nat.le_of_ble_eq_true rfl, Nat.le_of_ble_eq_true rfl⟩ (hK.sub [0] rfl) (hP.sub [0, 1] rfl) 0 rfl rfl rfl rfl hl.1 rfl (Nat.le_of_ble_eq_true rfl) dX2_unlike_2 ⟨Nat.zero_le _, Nat.zero_le _⟩ ?_
  refine lv_astore_n (lv' := [(3, .ref h0), (0, .ref x0), (1, .int (zi ((j : Int)))), (2, .int (zi ((q : Int))))]) hx hb dX2_unlike_5 rfl hl (by decide) rfl (fun ls hl => ?_)
  refine lv_aload_n hx hb dX2_unlike_6 rfl (lv_at hl 1 rfl) ?_
  refine lv_iload_n hx hb dX2_unlike_7 rfl (lv_at hl 3 rfl) ?_
  refine rdV (As := [.int (zi ((q : Int)))]) (rest := []) (n := 1) hx hb hml hown hg (c_X2_profileOf l dC dI x0 pa ba ax ay sp ss vs fr pn bn ln sn cQ pf q g0 hq hf2) (gwV wl_X2_53 wm_X2_profileOf we_X2_profileOf wi_X2 wc_X2_profileOf) rfl rfl (by decide +kernel) ⟨Nat.le_of_ble_eq_true rfl, Nat.le_of_ble_eq_true rfl⟩ (hK.sub [0] rfl) (hP.sub [0, 1] rfl) 0 rfl rfl rfl rfl hl.1 rfl (Nat.le_of_ble_eq_true rfl) dX2_unlike_8 ⟨Nat.zero_le _, Nat.zero_le _⟩ ?_
  refine lv_astore (lv' := [(4, .ref g0), (3, .ref h0), (0, .ref x0), (1, .int (zi ((j : Int)))), (2, .int (zi ((q : Int))))]) hx hb dX2_unlike_11 hl (by decide) rfl (fun ls hl => ?_)
  refine lv_iconst (v := zi (0)) hx hb dX2_unlike_13 rfl ?_
  refine lv_istore (lv' := [(5, .int (zi (0))), (4, .ref g0), (3, .ref h0), (0, .ref x0), (1, .int (zi ((j : Int)))), (2, .int (zi ((q : Int))))]) hx hb dX2_unlike_14 hl (by decide) rfl (fun ls hl => ?_)
  refine lv_iconst (v := zi (0)) hx hb dX2_unlike_16 rfl ?_
  refine lv_istore (lv' := [(6, .int (zi (0))), (5, .int (zi (0))), (4, .ref g0), (3, .ref h0), (0, .ref x0), (1, .int (zi ((j : Int)))), (2, .int (zi ((q : Int))))]) hx hb dX2_unlike_17 hl (by decide) rfl (fun ls hl => ?_)
  have key_19 : ∀ (n_ : Nat) (t : Nat), t ≤ 401 → 401 - t < n_ → ∀ (ls : Array Slot), lv_has ls 8 [(6, .int (zi ((t : Int)))), (5, .int (zi (p_unl (p_radius n hs rs) (p_radius n' hs' rs') t))), (4, .ref g0), (3, .ref h0), (0, .ref x0)] → W p l e rm_X2_unlike s m args below meth c s.heap [] 0 0 QQ (F0 m 19 ls []) := by
    intro n_
    induction n_ with
    | zero => intro t ht hm_; exact absurd hm_ (Nat.not_lt_zero _)
    | succ n_ ih =>
      intro t ht hm_ ls hl
      refine lv_iload hx hb dX2_unlike_19 (lv_at hl 0 rfl) ?_
      refine lv_sipush (v := zi (400)) hx hb dX2_unlike_21 (by decide) ?_
      refine zz_icmp_gt (tgt := 59) hx hb (by omega) (by omega) dX2_unlike_24 (by decide) (fun c_24 => ?_) (fun c_24 => ?_)
      · refine lv_iload hx hb dX2_unlike_59 (lv_at hl 1 rfl) ?_
        rw [hQQ]
        exact rd_i hx hb hr hlocks (by rw [show t = 401 by omega]) dX2_unlike_61
      · refine lv_aload_n hx hb dX2_unlike_27 rfl (lv_at hl 3 rfl) ?_
        refine lv_iload hx hb dX2_unlike_28 (lv_at hl 0 rfl) ?_
        refine rdV (As := [.int (zi ((t : Int)))]) (rest := []) (n := 1) hx hb hml hown hg (c_X1_radiusOrZero l dC dI h0 h1 h2 cA n th wc hs rs ((t : Int)) hn hH hR (by omega)) (gwV wl_X2_119 wm_X1_radiusOrZero we_X1_radiusOrZero wi_X1 wc_X1_radiusOrZero) rfl rfl (by decide +kernel) ⟨Nat.le_of_ble_eq_true rfl, Nat.le_of_ble_eq_true rfl⟩ (hK.sub [1] rfl) (hP.sub [2, 3, 4] rfl) 0 rfl rfl rfl rfl hl.1 rfl (Nat.le_of_ble_eq_true rfl) dX2_unlike_30 ⟨Nat.zero_le _, Nat.zero_le _⟩ ?_
        refine lv_aload hx hb dX2_unlike_33 (lv_at hl 2 rfl) ?_
        refine lv_iload hx hb dX2_unlike_35 (lv_at hl 0 rfl) ?_
        refine rdV (As := [.int (zi ((t : Int)))]) (rest := [.int (zi (max 0 (p_radius n hs rs ((t : Int)))))]) (n := 1) hx hb hml hown hg (c_X1_radiusOrZero l dC dI g0 g1 g2 cA n' th' wc' hs' rs' ((t : Int)) hn' hH' hR' (by omega)) (gwV wl_X2_119 wm_X1_radiusOrZero we_X1_radiusOrZero wi_X1 wc_X1_radiusOrZero) rfl rfl (by decide +kernel) ⟨Nat.le_of_ble_eq_true rfl, Nat.le_of_ble_eq_true rfl⟩ (hK.sub [1] rfl) (hP.sub [5, 6, 7] rfl) 0 rfl rfl rfl rfl hl.1 rfl (Nat.le_of_ble_eq_true rfl) dX2_unlike_37 ⟨Nat.zero_le _, Nat.zero_le _⟩ ?_
        refine zz_isub hx hb dX2_unlike_40 ?_
        refine lv_istore (lv' := [(7, .int (zi ((max 0 (p_radius n hs rs ((t : Int)))) - (max 0 (p_radius n' hs' rs' ((t : Int))))))), (6, .int (zi ((t : Int)))), (5, .int (zi (p_unl (p_radius n hs rs) (p_radius n' hs' rs') t))), (4, .ref g0), (3, .ref h0), (0, .ref x0)]) hx hb dX2_unlike_41 hl (by decide) rfl (fun ls hl => ?_)
        refine lv_iload hx hb dX2_unlike_43 (lv_at hl 2 rfl) ?_
        refine lv_iload hx hb dX2_unlike_45 (lv_at hl 0 rfl) ?_
        refine va_mabs hx hb (hml.trans hl.1.symm) hown (hg _ wl_X2_122) (hg _ wt_Math_abs) (hg _ wi_Math) (hg _ wc_Math_abs_I_I) (Nat.le_of_ble_eq_true rfl) (Nat.le_of_ble_eq_true rfl) (Nat.zero_le _) (Nat.zero_le _) dX2_unlike_47 ?_
        refine zz_topi (z := (((max 0 (p_radius n hs rs ((t : Int)))) - (max 0 (p_radius n' hs' rs' ((t : Int))))).natAbs : Int)) (zi_abs (by have := hr1 (t : Int); have := hr2 (t : Int); omega)) ?_
        refine zz_iadd hx hb dX2_unlike_50 ?_
        refine lv_istore (lv' := [(5, .int (zi ((p_unl (p_radius n hs rs) (p_radius n' hs' rs') t) + ((((max 0 (p_radius n hs rs ((t : Int)))) - (max 0 (p_radius n' hs' rs' ((t : Int))))).natAbs : Int))))), (7, .int (zi ((max 0 (p_radius n hs rs ((t : Int)))) - (max 0 (p_radius n' hs' rs' ((t : Int))))))), (6, .int (zi ((t : Int)))), (4, .ref g0), (3, .ref h0), (0, .ref x0)]) hx hb dX2_unlike_51 hl (by decide) rfl (fun ls hl => ?_)
        refine lv_iinc (v := zi (((t : Int)) + (1))) (lv' := [(6, .int (zi (((t : Int)) + (1)))), (5, .int (zi ((p_unl (p_radius n hs rs) (p_radius n' hs' rs') t) + ((((max 0 (p_radius n hs rs ((t : Int)))) - (max 0 (p_radius n' hs' rs' ((t : Int))))).natAbs : Int))))), (7, .int (zi ((max 0 (p_radius n hs rs ((t : Int)))) - (max 0 (p_radius n' hs' rs' ((t : Int))))))), (4, .ref g0), (3, .ref h0), (0, .ref x0)]) hx hb dX2_unlike_53 hl (k := 2) rfl (zi_add _ _) (by decide) rfl (fun ls hl => ?_)
        refine lv_goto (tgt := 19) hx hb dX2_unlike_56 (by decide) ?_
        exact ih (t + 1) (by omega) (by omega) ls (lv_sub hl [0, 1, 3, 4, 5] rfl)
  exact key_19 _ 0 (by omega) (Nat.lt_succ_self _) ls (lv_sub hl [0, 1, 2, 3, 4] rfl)
