abbrev rm_X2_profileOf : Room := { frames := 6, cells := 0, slots := 0, locals := 100 }
set_option maxHeartbeats 4000000 in
set_option maxRecDepth 100000 in
theorem c_X2_profileOf (l : Launch) (dC : Nat → ClassId) (dI : Nat → Nat → Nat) (x0 pa ba ax ay sp ss vs fr : Nat) (pn bn ln sn : Nat)(cQ : ClassId) (pf : Nat → Option Nat) (j h0 : Nat) (hj : j < 6) (hf : pf j = some h0) : Met l yX2_profileOf (Cond.code yX2_profileOf cX2_profileOf 3 ((Option.some (Jvm.ClassFile.FieldType.object "PotVolumes$Profile"))) :: gw) rm_X2_profileOf (PcR [.ref x0, .int (zi ((j : Int)))] (dC, dI) vwCl [(x0, .inr (2, [.ref pa, .int (zi ((pn : Int))), .ref ba, .int (zi ((bn : Int))), .ref ax, .ref ay, .int (zi ((ln : Int))), .ref sp, .ref ss, .int (zi ((sn : Int))), .ref vs, .ref fr])), (pa, .inl (cQ, 6, .inr (.inr (.inr (.inr (pf))))))] [(cQ, .object "PotVolumes$Profile")]) (RdQ (some (.ref h0))) 0 0 (fun _ => False) := by
  refine Met.ofW (cc := cX2_profileOf) (maxL := 3) (ret := ((Option.some (Jvm.ClassFile.FieldType.object "PotVolumes$Profile")))) (by decide) rfl ?_
  intro p e s m args below meth c s₁ B hml hv
  obtain ⟨hargs, hP, hK⟩ := hv
  have hx := B.exec
  have hb := B.bytes
  have hr := B.returns
  have hts := atoms_spec (ws := Cond.code yX2_profileOf cX2_profileOf 3 ((Option.some (Jvm.ClassFile.FieldType.object "PotVolumes$Profile"))) :: gw) B.pre
  have hg : ∀ w ∈ gw, w.before args s = true := fun w h => hts w (List.mem_cons_of_mem _ h)
  have hown : s.vm.findClass RX2 = some m.cls := findClass_of_methodNamed B.named
  have hlocks := B.notSynchronized
  show W p l e rm_X2_profileOf s m args below meth c s.heap [] 0 0 _ _
  have hl := lv_entry ([.ref x0, .int (zi ((j : Int)))]) (n := 3) (Nat.le_of_ble_eq_true rfl)
  rw [show entryFrame m args 3 = entryFrame m ([.ref x0, .int (zi ((j : Int)))] : List Value).toArray 3 by rw [hargs], lg_entry_eq]
  generalize (lg_sl ([.ref x0, .int (zi ((j : Int)))]) ++ List.replicate (3 - (lg_sl ([.ref x0, .int (zi ((j : Int)))])).length) Slot.unset).toArray = ls at hl ⊢
  have hl : lv_has ls 3 [(0, .ref x0), (1, .int (zi ((j : Int))))] := hl
  obtain ⟨QQ, hQQ⟩ : ∃ Q, Q = MQ below (RdQ (some (.ref h0))) args s 0 0 (fun _ => False) := ⟨_, rfl⟩
  rw [← hQQ]
  refine lv_iload_n hx hb dX2_profileOf_0 rfl (lv_at hl 1 rfl) ?_
  refine zz_if_lt (tgt := 13) hx hb (by omega) dX2_profileOf_1 (by decide) (fun c_1 => ?_) (fun c_1 => ?_)
  · exact False.elim (by omega)
  · refine lv_iload_n hx hb dX2_profileOf_4 rfl (lv_at hl 1 rfl) ?_
    refine lv_aload_n hx hb dX2_profileOf_5 rfl (lv_at hl 0 rfl) ?_
    refine va_get (D := (dC, dI)) (ci := 2) (v := .ref pa) (C := RX2) (T := TX2) (N := 12) hx hb hg inX2 hown hK hP 0 rfl rfl 0 (by decide) (hg _ wl_X2_11) (fun _ h9 => h9) rfl dX2_profileOf_6 ?_
    refine va_alen hx hb hK hP 1 0 rfl rfl (v := zi 6) (by show Int32.ofNat 6 = zi 6; decide) dX2_profileOf_9 ?_
    refine zz_icmp_lt (tgt := 23) hx hb (by omega) (by omega) dX2_profileOf_10 (by decide) (fun c_10 => ?_) (fun c_10 => ?_)
    · refine lv_aload_n hx hb dX2_profileOf_23 rfl (lv_at hl 0 rfl) ?_
      refine va_get (D := (dC, dI)) (ci := 2) (v := .ref pa) (C := RX2) (T := TX2) (N := 12) hx hb hg inX2 hown hK hP 0 rfl rfl 0 (by decide) (hg _ wl_X2_11) (fun _ h9 => h9) rfl dX2_profileOf_24 ?_
      refine lv_iload_n hx hb dX2_profileOf_27 rfl (lv_at hl 1 rfl) ?_
      refine zz_aald hx hb hK hP 1 0 rfl rfl (j) (by omega) (by omega) (by decide) dX2_profileOf_28 ?_
      refine zz_rfS hf ?_
      refine lv_astore_n (lv' := [(2, .ref h0), (0, .ref x0), (1, .int (zi ((j : Int))))]) hx hb dX2_profileOf_29 rfl hl (by decide) rfl (fun ls hl => ?_)
      refine lv_aload_n hx hb dX2_profileOf_30 rfl (lv_at hl 0 rfl) ?_
      refine lv_ifnonnull (tgt := 44) hx hb dX2_profileOf_31 (by decide) ?_
      refine lv_aload_n hx hb dX2_profileOf_44 rfl (lv_at hl 0 rfl) ?_
      rw [hQQ]
      exact rd_a hx hb hr hlocks dX2_profileOf_45
    · exact False.elim (by omega)

abbrev rt_X2_profileOf : Room := { frames := 6, cells := 1, slots := 6, locals := 100 }
set_option maxHeartbeats 4000000 in
set_option maxRecDepth 100000 in
theorem t_X2_profileOf (l : Launch) (hl0 : l.stackTraces = false) (dC : Nat → ClassId) (dI : Nat → Nat → Nat) (x0 pa ba ax ay sp ss vs fr : Nat) (pn bn ln sn : Nat)(cQ : ClassId) (pf : Nat → Option Nat) (i : Int) (hi : -2147483648 ≤ i ∧ i < 2147483648) (hbad : i < 0 ∨ 6 ≤ i ∨ pf i.toNat = none) : ThM l yX2_profileOf cX2_profileOf 3 ((Option.some (Jvm.ClassFile.FieldType.object "PotVolumes$Profile"))) rt_X2_profileOf (PcT [.ref x0, .int (zi (i))] (dC, dI) vwCl [(x0, .inr (2, [.ref pa, .int (zi ((pn : Int))), .ref ba, .int (zi ((bn : Int))), .ref ax, .ref ay, .int (zi ((ln : Int))), .ref sp, .ref ss, .int (zi ((sn : Int))), .ref vs, .ref fr])), (pa, .inl (cQ, 6, .inr (.inr (.inr (.inr (pf))))))] [(cQ, .object "PotVolumes$Profile")]) KI := by
  refine vx_ofW (cc := cX2_profileOf) (maxL := 3) (ret := ((Option.some (Jvm.ClassFile.FieldType.object "PotVolumes$Profile")))) (by decide) rfl ?_
  intro p e s m args below meth c s₁ B hml hno hv
  obtain ⟨hargs, hP, hK, hE⟩ := hv
  have hx := B.exec
  have hb := B.bytes
  have hr := B.returns
  have hts := atoms_spec (ws := Cond.code yX2_profileOf cX2_profileOf 3 ((Option.some (Jvm.ClassFile.FieldType.object "PotVolumes$Profile"))) :: gw) B.pre
  have hg : ∀ w ∈ gw, w.before args s = true := fun w h => hts w (List.mem_cons_of_mem _ h)
  have hown : s.vm.findClass RX2 = some m.cls := findClass_of_methodNamed B.named
  have hlocks := B.notSynchronized
  show W p l e rt_X2_profileOf s m args below meth c s.heap [] 0 0 _ _
  have hl := lv_entry ([.ref x0, .int (zi (i))]) (n := 3) (Nat.le_of_ble_eq_true rfl)
  rw [show entryFrame m args 3 = entryFrame m ([.ref x0, .int (zi (i))] : List Value).toArray 3 by rw [hargs], lg_entry_eq]
  generalize (lg_sl ([.ref x0, .int (zi (i))]) ++ List.replicate (3 - (lg_sl ([.ref x0, .int (zi (i))])).length) Slot.unset).toArray = ls at hl ⊢
  have hl : lv_has ls 3 [(0, .ref x0), (1, .int (zi (i)))] := hl
  obtain ⟨QQ, hQQ⟩ : ∃ Q, Q = vx_MQ below QF (XK KI) args s 1 6 (fun _ => False) := ⟨_, rfl⟩
  rw [← hQQ]
  refine lv_iload_n hx hb dX2_profileOf_0 rfl (lv_at hl 1 rfl) ?_
  refine zz_if_lt (tgt := 13) hx hb (by omega) dX2_profileOf_1 (by decide) (fun c_1 => ?_) (fun c_1 => ?_)
  · rw [hQQ]
    exact thr (K := KI) hx hb hl0 hown hE (by decide +kernel) (hg _ wl_X2_81) (hg _ wi_IndexOutOfBoundsException) (by decide) (xh_I hg hE) xh_ot.1 hml hl.1 dX2_profileOf_13 dX2_profileOf_16 dX2_profileOf_17 dX2_profileOf_19 dX2_profileOf_22 hno hlocks (Nat.le_of_ble_eq_true rfl) (Nat.le_of_ble_eq_true rfl) (Nat.le_of_ble_eq_true rfl) (Nat.le_of_ble_eq_true rfl)
  · refine lv_iload_n hx hb dX2_profileOf_4 rfl (lv_at hl 1 rfl) ?_
    refine lv_aload_n hx hb dX2_profileOf_5 rfl (lv_at hl 0 rfl) ?_
    refine va_get (D := (dC, dI)) (ci := 2) (v := .ref pa) (C := RX2) (T := TX2) (N := 12) hx hb hg inX2 hown hK hP 0 rfl rfl 0 (by decide) (hg _ wl_X2_11) (fun _ h9 => h9) rfl dX2_profileOf_6 ?_
    refine va_alen hx hb hK hP 1 0 rfl rfl (v := zi 6) (by show Int32.ofNat 6 = zi 6; decide) dX2_profileOf_9 ?_
    refine zz_icmp_lt (tgt := 23) hx hb (by omega) (by omega) dX2_profileOf_10 (by decide) (fun c_10 => ?_) (fun c_10 => ?_)
    · have hnn : pf i.toNat = none := by
        rcases hbad with h | h | h
        · omega
        · omega
        · exact h
      refine lv_aload_n hx hb dX2_profileOf_23 rfl (lv_at hl 0 rfl) ?_
      refine va_get (D := (dC, dI)) (ci := 2) (v := .ref pa) (C := RX2) (T := TX2) (N := 12) hx hb hg inX2 hown hK hP 0 rfl rfl 0 (by decide) (hg _ wl_X2_11) (fun _ h9 => h9) rfl dX2_profileOf_24 ?_
      refine lv_iload_n hx hb dX2_profileOf_27 rfl (lv_at hl 1 rfl) ?_
      refine zz_aald hx hb hK hP 1 0 rfl rfl (i.toNat) (by omega) (by omega) (by decide) dX2_profileOf_28 ?_
      refine zz_rfN hnn ?_
      refine lv_astore_nN (lv' := [(2, .null), (0, .ref x0), (1, .int (zi (i)))]) hx hb dX2_profileOf_29 rfl hl (by decide) rfl (fun ls hl => ?_)
      refine lv_aload_nN hx hb dX2_profileOf_30 rfl (lv_at hl 0 rfl) ?_
      refine lv_ifnonnullN hx hb dX2_profileOf_31 ?_
      rw [hQQ]
      exact thr (K := KI) hx hb hl0 hown hE (by decide +kernel) (hg _ wl_X2_81) (hg _ wi_IndexOutOfBoundsException) (by decide) (xh_I hg hE) xh_ot.1 hml hl.1 dX2_profileOf_34 dX2_profileOf_37 dX2_profileOf_38 dX2_profileOf_40 dX2_profileOf_43 hno hlocks (Nat.le_of_ble_eq_true rfl) (Nat.le_of_ble_eq_true rfl) (Nat.le_of_ble_eq_true rfl) (Nat.le_of_ble_eq_true rfl)
    · rw [hQQ]
      exact thr (K := KI) hx hb hl0 hown hE (by decide +kernel) (hg _ wl_X2_81) (hg _ wi_IndexOutOfBoundsException) (by decide) (xh_I hg hE) xh_ot.1 hml hl.1 dX2_profileOf_13 dX2_profileOf_16 dX2_profileOf_17 dX2_profileOf_19 dX2_profileOf_22 hno hlocks (Nat.le_of_ble_eq_true rfl) (Nat.le_of_ble_eq_true rfl) (Nat.le_of_ble_eq_true rfl) (Nat.le_of_ble_eq_true rfl)

abbrev rm_X2_needOneOfTwo : Room := { frames := 6, cells := 0, slots := 0, locals := 100 }
set_option maxHeartbeats 4000000 in
set_option maxRecDepth 100000 in
theorem c_X2_needOneOfTwo (l : Launch) (i : Int) (hi : i = 0 ∨ i = 1) : Met l yX2_needOneOfTwo (Cond.code yX2_needOneOfTwo cX2_needOneOfTwo 1 ((Option.none : Option Jvm.ClassFile.FieldType)) :: gw) rm_X2_needOneOfTwo (PcS [.int (zi (i))]) (RdQ (none)) 0 0 (fun _ => False) := by
  refine Met.ofW (cc := cX2_needOneOfTwo) (maxL := 1) (ret := ((Option.none : Option Jvm.ClassFile.FieldType))) (by decide) rfl ?_
  intro p e s m args below meth c s₁ B hml hv
  obtain ⟨hargs, -⟩ := hv
  have hx := B.exec
  have hb := B.bytes
  have hr := B.returns
  have hts := atoms_spec (ws := Cond.code yX2_needOneOfTwo cX2_needOneOfTwo 1 ((Option.none : Option Jvm.ClassFile.FieldType)) :: gw) B.pre
  have hg : ∀ w ∈ gw, w.before args s = true := fun w h => hts w (List.mem_cons_of_mem _ h)
  have hown : s.vm.findClass RX2 = some m.cls := findClass_of_methodNamed B.named
  have hlocks := B.notSynchronized
  show W p l e rm_X2_needOneOfTwo s m args below meth c s.heap [] 0 0 _ _
  have hl := lv_entry ([.int (zi (i))]) (n := 1) (Nat.le_of_ble_eq_true rfl)
  rw [show entryFrame m args 1 = entryFrame m ([.int (zi (i))] : List Value).toArray 1 by rw [hargs], lg_entry_eq]
  generalize (lg_sl ([.int (zi (i))]) ++ List.replicate (1 - (lg_sl ([.int (zi (i))])).length) Slot.unset).toArray = ls at hl ⊢
  have hl : lv_has ls 1 [(0, .int (zi (i)))] := hl
  obtain ⟨QQ, hQQ⟩ : ∃ Q, Q = MQ below (RdQ (none)) args s 0 0 (fun _ => False) := ⟨_, rfl⟩
  rw [← hQQ]
  refine lv_iload_n hx hb dX2_needOneOfTwo_0 rfl (lv_at hl 0 rfl) ?_
  refine zz_if_eq (tgt := 19) hx hb (by omega) dX2_needOneOfTwo_1 (by decide) (fun c_1 => ?_) (fun c_1 => ?_)
  · rw [hQQ]
    exact rd_v hx hb hr hlocks dX2_needOneOfTwo_19
  · refine lv_iload_n hx hb dX2_needOneOfTwo_4 rfl (lv_at hl 0 rfl) ?_
    refine lv_iconst (v := zi (1)) hx hb dX2_needOneOfTwo_5 rfl ?_
    refine zz_icmp_eq (tgt := 19) hx hb (by omega) (by omega) dX2_needOneOfTwo_6 (by decide) (fun c_6 => ?_) (fun c_6 => ?_)
    · rw [hQQ]
      exact rd_v hx hb hr hlocks dX2_needOneOfTwo_19
    · exact False.elim (by omega)

abbrev rt_X2_needOneOfTwo : Room := { frames := 6, cells := 1, slots := 6, locals := 100 }
set_option maxHeartbeats 4000000 in
set_option maxRecDepth 100000 in
theorem t_X2_needOneOfTwo (l : Launch) (hl0 : l.stackTraces = false) (i : Int) (hi : -2147483648 ≤ i ∧ i < 2147483648) (hbad : ¬ (i = 0 ∨ i = 1)) : ThM l yX2_needOneOfTwo cX2_needOneOfTwo 1 ((Option.none : Option Jvm.ClassFile.FieldType)) rt_X2_needOneOfTwo (PcE [.int (zi (i))]) KI := by
  refine vx_ofW (cc := cX2_needOneOfTwo) (maxL := 1) (ret := ((Option.none : Option Jvm.ClassFile.FieldType))) (by decide) rfl ?_
  intro p e s m args below meth c s₁ B hml hno hv
  obtain ⟨hargs, hE⟩ := hv
  have hx := B.exec
  have hb := B.bytes
  have hr := B.returns
  have hts := atoms_spec (ws := Cond.code yX2_needOneOfTwo cX2_needOneOfTwo 1 ((Option.none : Option Jvm.ClassFile.FieldType)) :: gw) B.pre
  have hg : ∀ w ∈ gw, w.before args s = true := fun w h => hts w (List.mem_cons_of_mem _ h)
  have hown : s.vm.findClass RX2 = some m.cls := findClass_of_methodNamed B.named
  have hlocks := B.notSynchronized
  show W p l e rt_X2_needOneOfTwo s m args below meth c s.heap [] 0 0 _ _
  have hl := lv_entry ([.int (zi (i))]) (n := 1) (Nat.le_of_ble_eq_true rfl)
  rw [show entryFrame m args 1 = entryFrame m ([.int (zi (i))] : List Value).toArray 1 by rw [hargs], lg_entry_eq]
  generalize (lg_sl ([.int (zi (i))]) ++ List.replicate (1 - (lg_sl ([.int (zi (i))])).length) Slot.unset).toArray = ls at hl ⊢
  have hl : lv_has ls 1 [(0, .int (zi (i)))] := hl
  obtain ⟨QQ, hQQ⟩ : ∃ Q, Q = vx_MQ below QF (XK KI) args s 1 6 (fun _ => False) := ⟨_, rfl⟩
  rw [← hQQ]
  refine lv_iload_n hx hb dX2_needOneOfTwo_0 rfl (lv_at hl 0 rfl) ?_
  refine zz_if_eq (tgt := 19) hx hb (by omega) dX2_needOneOfTwo_1 (by decide) (fun c_1 => ?_) (fun c_1 => ?_)
  · exact False.elim (by omega)
  · refine lv_iload_n hx hb dX2_needOneOfTwo_4 rfl (lv_at hl 0 rfl) ?_
    refine lv_iconst (v := zi (1)) hx hb dX2_needOneOfTwo_5 rfl ?_
    refine zz_icmp_eq (tgt := 19) hx hb (by omega) (by omega) dX2_needOneOfTwo_6 (by decide) (fun c_6 => ?_) (fun c_6 => ?_)
    · exact False.elim (by omega)
    · rw [hQQ]
      exact thr (K := KI) hx hb hl0 hown hE (by decide +kernel) (hg _ wl_X2_81) (hg _ wi_IndexOutOfBoundsException) (by decide) (xh_I hg hE) xh_ot.1 hml hl.1 dX2_needOneOfTwo_9 dX2_needOneOfTwo_12 dX2_needOneOfTwo_13 dX2_needOneOfTwo_15 dX2_needOneOfTwo_18 hno hlocks (Nat.le_of_ble_eq_true rfl) (Nat.le_of_ble_eq_true rfl) (Nat.le_of_ble_eq_true rfl) (Nat.le_of_ble_eq_true rfl)

abbrev rm_X2_needProfile : Room := { frames := 6, cells := 0, slots := 0, locals := 100 }
set_option maxHeartbeats 4000000 in
set_option maxRecDepth 100000 in
theorem c_X2_needProfile (l : Launch) (dC : Nat → ClassId) (dI : Nat → Nat → Nat) (x0 pa ba ax ay sp ss vs fr : Nat) (pn bn ln sn : Nat) (i : Int) (hpn : pn ≤ 6) (hi : 0 ≤ i ∧ i < pn) : Met l yX2_needProfile (Cond.code yX2_needProfile cX2_needProfile 2 ((Option.none : Option Jvm.ClassFile.FieldType)) :: gw) rm_X2_needProfile (PcR [.ref x0, .int (zi (i))] (dC, dI) vwCl [(x0, .inr (2, [.ref pa, .int (zi ((pn : Int))), .ref ba, .int (zi ((bn : Int))), .ref ax, .ref ay, .int (zi ((ln : Int))), .ref sp, .ref ss, .int (zi ((sn : Int))), .ref vs, .ref fr]))] []) (RdQ (none)) 0 0 (fun _ => False) := by
  refine Met.ofW (cc := cX2_needProfile) (maxL := 2) (ret := ((Option.none : Option Jvm.ClassFile.FieldType))) (by decide) rfl ?_
  intro p e s m args below meth c s₁ B hml hv
  obtain ⟨hargs, hP, hK⟩ := hv
  have hx := B.exec
  have hb := B.bytes
  have hr := B.returns
  have hts := atoms_spec (ws := Cond.code yX2_needProfile cX2_needProfile 2 ((Option.none : Option Jvm.ClassFile.FieldType)) :: gw) B.pre
  have hg : ∀ w ∈ gw, w.before args s = true := fun w h => hts w (List.mem_cons_of_mem _ h)
  have hown : s.vm.findClass RX2 = some m.cls := findClass_of_methodNamed B.named
  have hlocks := B.notSynchronized
  show W p l e rm_X2_needProfile s m args below meth c s.heap [] 0 0 _ _
  have hl := lv_entry ([.ref x0, .int (zi (i))]) (n := 2) (Nat.le_of_ble_eq_true rfl)
  rw [show entryFrame m args 2 = entryFrame m ([.ref x0, .int (zi (i))] : List Value).toArray 2 by rw [hargs], lg_entry_eq]
  generalize (lg_sl ([.ref x0, .int (zi (i))]) ++ List.replicate (2 - (lg_sl ([.ref x0, .int (zi (i))])).length) Slot.unset).toArray = ls at hl ⊢
  have hl : lv_has ls 2 [(0, .ref x0), (1, .int (zi (i)))] := hl
  obtain ⟨QQ, hQQ⟩ : ∃ Q, Q = MQ below (RdQ (none)) args s 0 0 (fun _ => False) := ⟨_, rfl⟩
  rw [← hQQ]
  refine lv_iload_n hx hb dX2_needProfile_0 rfl (lv_at hl 1 rfl) ?_
  refine zz_if_lt (tgt := 12) hx hb (by omega) dX2_needProfile_1 (by decide) (fun c_1 => ?_) (fun c_1 => ?_)
  · exact False.elim (by omega)
  · refine lv_iload_n hx hb dX2_needProfile_4 rfl (lv_at hl 1 rfl) ?_
    refine lv_aload_n hx hb dX2_needProfile_5 rfl (lv_at hl 0 rfl) ?_
    refine va_get (D := (dC, dI)) (ci := 2) (v := .int (zi ((pn : Int)))) (C := RX2) (T := TX2) (N := 12) hx hb hg inX2 hown hK hP 0 rfl rfl 1 (by decide) (hg _ wl_X2_41) (fun _ h9 => h9) rfl dX2_needProfile_6 ?_
    refine zz_icmp_lt (tgt := 22) hx hb (by omega) (by omega) dX2_needProfile_9 (by decide) (fun c_9 => ?_) (fun c_9 => ?_)
    · rw [hQQ]
      exact rd_v hx hb hr hlocks dX2_needProfile_22
    · exact False.elim (by omega)

abbrev rt_X2_needProfile : Room := { frames := 6, cells := 1, slots := 6, locals := 100 }
set_option maxHeartbeats 4000000 in
set_option maxRecDepth 100000 in
theorem t_X2_needProfile (l : Launch) (hl0 : l.stackTraces = false) (dC : Nat → ClassId) (dI : Nat → Nat → Nat) (x0 pa ba ax ay sp ss vs fr : Nat) (pn bn ln sn : Nat) (i : Int) (hpn : pn ≤ 6) (hi : -2147483648 ≤ i ∧ i < 2147483648) (hbad : ¬ (0 ≤ i ∧ i < pn)) : ThM l yX2_needProfile cX2_needProfile 2 ((Option.none : Option Jvm.ClassFile.FieldType)) rt_X2_needProfile (PcT [.ref x0, .int (zi (i))] (dC, dI) vwCl [(x0, .inr (2, [.ref pa, .int (zi ((pn : Int))), .ref ba, .int (zi ((bn : Int))), .ref ax, .ref ay, .int (zi ((ln : Int))), .ref sp, .ref ss, .int (zi ((sn : Int))), .ref vs, .ref fr]))] []) KI := by
  refine vx_ofW (cc := cX2_needProfile) (maxL := 2) (ret := ((Option.none : Option Jvm.ClassFile.FieldType))) (by decide) rfl ?_
  intro p e s m args below meth c s₁ B hml hno hv
  obtain ⟨hargs, hP, hK, hE⟩ := hv
  have hx := B.exec
  have hb := B.bytes
  have hr := B.returns
  have hts := atoms_spec (ws := Cond.code yX2_needProfile cX2_needProfile 2 ((Option.none : Option Jvm.ClassFile.FieldType)) :: gw) B.pre
  have hg : ∀ w ∈ gw, w.before args s = true := fun w h => hts w (List.mem_cons_of_mem _ h)
  have hown : s.vm.findClass RX2 = some m.cls := findClass_of_methodNamed B.named
  have hlocks := B.notSynchronized
  show W p l e rt_X2_needProfile s m args below meth c s.heap [] 0 0 _ _
  have hl := lv_entry ([.ref x0, .int (zi (i))]) (n := 2) (Nat.le_of_ble_eq_true rfl)
  rw [show entryFrame m args 2 = entryFrame m ([.ref x0, .int (zi (i))] : List Value).toArray 2 by rw [hargs], lg_entry_eq]
  generalize (lg_sl ([.ref x0, .int (zi (i))]) ++ List.replicate (2 - (lg_sl ([.ref x0, .int (zi (i))])).length) Slot.unset).toArray = ls at hl ⊢
  have hl : lv_has ls 2 [(0, .ref x0), (1, .int (zi (i)))] := hl
  obtain ⟨QQ, hQQ⟩ : ∃ Q, Q = vx_MQ below QF (XK KI) args s 1 6 (fun _ => False) := ⟨_, rfl⟩
  rw [← hQQ]
  refine lv_iload_n hx hb dX2_needProfile_0 rfl (lv_at hl 1 rfl) ?_
  refine zz_if_lt (tgt := 12) hx hb (by omega) dX2_needProfile_1 (by decide) (fun c_1 => ?_) (fun c_1 => ?_)
  · rw [hQQ]
    exact thr (K := KI) hx hb hl0 hown hE (by decide +kernel) (hg _ wl_X2_81) (hg _ wi_IndexOutOfBoundsException) (by decide) (xh_I hg hE) xh_ot.1 hml hl.1 dX2_needProfile_12 dX2_needProfile_15 dX2_needProfile_16 dX2_needProfile_18 dX2_needProfile_21 hno hlocks (Nat.le_of_ble_eq_true rfl) (Nat.le_of_ble_eq_true rfl) (Nat.le_of_ble_eq_true rfl) (Nat.le_of_ble_eq_true rfl)
  · refine lv_iload_n hx hb dX2_needProfile_4 rfl (lv_at hl 1 rfl) ?_
    refine lv_aload_n hx hb dX2_needProfile_5 rfl (lv_at hl 0 rfl) ?_
    refine va_get (D := (dC, dI)) (ci := 2) (v := .int (zi ((pn : Int)))) (C := RX2) (T := TX2) (N := 12) hx hb hg inX2 hown hK hP 0 rfl rfl 1 (by decide) (hg _ wl_X2_41) (fun _ h9 => h9) rfl dX2_needProfile_6 ?_
    refine zz_icmp_lt (tgt := 22) hx hb (by omega) (by omega) dX2_needProfile_9 (by decide) (fun c_9 => ?_) (fun c_9 => ?_)
    · exact False.elim (by omega)
    · rw [hQQ]
      exact thr (K := KI) hx hb hl0 hown hE (by decide +kernel) (hg _ wl_X2_81) (hg _ wi_IndexOutOfBoundsException) (by decide) (xh_I hg hE) xh_ot.1 hml hl.1 dX2_needProfile_12 dX2_needProfile_15 dX2_needProfile_16 dX2_needProfile_18 dX2_needProfile_21 hno hlocks (Nat.le_of_ble_eq_true rfl) (Nat.le_of_ble_eq_true rfl) (Nat.le_of_ble_eq_true rfl) (Nat.le_of_ble_eq_true rfl)

abbrev rm_X2_needCircle : Room := { frames := 6, cells := 0, slots := 0, locals := 100 }
set_option maxHeartbeats 4000000 in
set_option maxRecDepth 100000 in
theorem c_X2_needCircle (l : Launch) (dC : Nat → ClassId) (dI : Nat → Nat → Nat) (x0 pa ba ax ay sp ss vs fr : Nat) (pn bn ln sn : Nat) (hln : ln ≤ 20) (hc : 3 ≤ ln) : Met l yX2_needCircle (Cond.code yX2_needCircle cX2_needCircle 1 ((Option.none : Option Jvm.ClassFile.FieldType)) :: gw) rm_X2_needCircle (PcR [.ref x0] (dC, dI) vwCl [(x0, .inr (2, [.ref pa, .int (zi ((pn : Int))), .ref ba, .int (zi ((bn : Int))), .ref ax, .ref ay, .int (zi ((ln : Int))), .ref sp, .ref ss, .int (zi ((sn : Int))), .ref vs, .ref fr]))] []) (RdQ (none)) 0 0 (fun _ => False) := by
  refine Met.ofW (cc := cX2_needCircle) (maxL := 1) (ret := ((Option.none : Option Jvm.ClassFile.FieldType))) (by decide) rfl ?_
  intro p e s m args below meth c s₁ B hml hv
  obtain ⟨hargs, hP, hK⟩ := hv
  have hx := B.exec
  have hb := B.bytes
  have hr := B.returns
  have hts := atoms_spec (ws := Cond.code yX2_needCircle cX2_needCircle 1 ((Option.none : Option Jvm.ClassFile.FieldType)) :: gw) B.pre
  have hg : ∀ w ∈ gw, w.before args s = true := fun w h => hts w (List.mem_cons_of_mem _ h)
  have hown : s.vm.findClass RX2 = some m.cls := findClass_of_methodNamed B.named
  have hlocks := B.notSynchronized
  show W p l e rm_X2_needCircle s m args below meth c s.heap [] 0 0 _ _
  have hl := lv_entry ([.ref x0]) (n := 1) (Nat.le_of_ble_eq_true rfl)
  rw [show entryFrame m args 1 = entryFrame m ([.ref x0] : List Value).toArray 1 by rw [hargs], lg_entry_eq]
  generalize (lg_sl ([.ref x0]) ++ List.replicate (1 - (lg_sl ([.ref x0])).length) Slot.unset).toArray = ls at hl ⊢
  have hl : lv_has ls 1 [(0, .ref x0)] := hl
  obtain ⟨QQ, hQQ⟩ : ∃ Q, Q = MQ below (RdQ (none)) args s 0 0 (fun _ => False) := ⟨_, rfl⟩
  rw [← hQQ]
  refine lv_aload_n hx hb dX2_needCircle_0 rfl (lv_at hl 0 rfl) ?_
  refine va_get (D := (dC, dI)) (ci := 2) (v := .int (zi ((ln : Int)))) (C := RX2) (T := TX2) (N := 12) hx hb hg inX2 hown hK hP 0 rfl rfl 6 (by decide) (hg _ wl_X2_150) (fun _ h9 => h9) rfl dX2_needCircle_1 ?_
  refine lv_iconst (v := zi (3)) hx hb dX2_needCircle_4 rfl ?_
  refine zz_icmp_ge (tgt := 18) hx hb (by omega) (by omega) dX2_needCircle_5 (by decide) (fun c_5 => ?_) (fun c_5 => ?_)
  · rw [hQQ]
    exact rd_v hx hb hr hlocks dX2_needCircle_18
  · exact False.elim (by omega)

abbrev rt_X2_needCircle : Room := { frames := 6, cells := 1, slots := 6, locals := 100 }
set_option maxHeartbeats 4000000 in
set_option maxRecDepth 100000 in
theorem t_X2_needCircle (l : Launch) (hl0 : l.stackTraces = false) (dC : Nat → ClassId) (dI : Nat → Nat → Nat) (x0 pa ba ax ay sp ss vs fr : Nat) (pn bn ln sn : Nat) (hln : ln ≤ 20) (hbad : ¬ 3 ≤ ln) : ThM l yX2_needCircle cX2_needCircle 1 ((Option.none : Option Jvm.ClassFile.FieldType)) rt_X2_needCircle (PcT [.ref x0] (dC, dI) vwCl [(x0, .inr (2, [.ref pa, .int (zi ((pn : Int))), .ref ba, .int (zi ((bn : Int))), .ref ax, .ref ay, .int (zi ((ln : Int))), .ref sp, .ref ss, .int (zi ((sn : Int))), .ref vs, .ref fr]))] []) KS := by
  refine vx_ofW (cc := cX2_needCircle) (maxL := 1) (ret := ((Option.none : Option Jvm.ClassFile.FieldType))) (by decide) rfl ?_
  intro p e s m args below meth c s₁ B hml hno hv
  obtain ⟨hargs, hP, hK, hE⟩ := hv
  have hx := B.exec
  have hb := B.bytes
  have hr := B.returns
  have hts := atoms_spec (ws := Cond.code yX2_needCircle cX2_needCircle 1 ((Option.none : Option Jvm.ClassFile.FieldType)) :: gw) B.pre
  have hg : ∀ w ∈ gw, w.before args s = true := fun w h => hts w (List.mem_cons_of_mem _ h)
  have hown : s.vm.findClass RX2 = some m.cls := findClass_of_methodNamed B.named
  have hlocks := B.notSynchronized
  show W p l e rt_X2_needCircle s m args below meth c s.heap [] 0 0 _ _
  have hl := lv_entry ([.ref x0]) (n := 1) (Nat.le_of_ble_eq_true rfl)
  rw [show entryFrame m args 1 = entryFrame m ([.ref x0] : List Value).toArray 1 by rw [hargs], lg_entry_eq]
  generalize (lg_sl ([.ref x0]) ++ List.replicate (1 - (lg_sl ([.ref x0])).length) Slot.unset).toArray = ls at hl ⊢
  have hl : lv_has ls 1 [(0, .ref x0)] := hl
  obtain ⟨QQ, hQQ⟩ : ∃ Q, Q = vx_MQ below QF (XK KS) args s 1 6 (fun _ => False) := ⟨_, rfl⟩
  rw [← hQQ]
  refine lv_aload_n hx hb dX2_needCircle_0 rfl (lv_at hl 0 rfl) ?_
  refine va_get (D := (dC, dI)) (ci := 2) (v := .int (zi ((ln : Int)))) (C := RX2) (T := TX2) (N := 12) hx hb hg inX2 hown hK hP 0 rfl rfl 6 (by decide) (hg _ wl_X2_150) (fun _ h9 => h9) rfl dX2_needCircle_1 ?_
  refine lv_iconst (v := zi (3)) hx hb dX2_needCircle_4 rfl ?_
  refine zz_icmp_ge (tgt := 18) hx hb (by omega) (by omega) dX2_needCircle_5 (by decide) (fun c_5 => ?_) (fun c_5 => ?_)
  · exact False.elim (by omega)
  · rw [hQQ]
    exact thr (K := KS) hx hb hl0 hown hE (by decide +kernel) (hg _ wl_X2_45) (hg _ wi_IllegalStateException) (by decide) (xh_S hg hE) xh_ot.2.2 hml hl.1 dX2_needCircle_8 dX2_needCircle_11 dX2_needCircle_12 dX2_needCircle_14 dX2_needCircle_17 hno hlocks (Nat.le_of_ble_eq_true rfl) (Nat.le_of_ble_eq_true rfl) (Nat.le_of_ble_eq_true rfl) (Nat.le_of_ble_eq_true rfl)
