def m_thr (o1 o2 o3 : Int) : Int := if o1 = 0 then (if o2 = 0 then (if o3 = 0 then 0 else 3) else 2) else 1
abbrev rm_X3_throwing : Room := { frames := 0, cells := 0, slots := 0, locals := 0 }
set_option maxHeartbeats 4000000 in
set_option maxRecDepth 100000 in
theorem c_throwing (l : Launch) (dC : Nat → ClassId) (dI : Nat → Nat → Nat) (sz : Nat) (m0 a1 a2 a3 a4 a5 a6 a7 a8 a9 a10 a11 : Nat) (tw ab be : Int) (mp mb ml mz : Nat) (o1 o2 o3 : Int) (h1 : o1 = 0 ∨ o1 = 1) (h2 : o2 = 0 ∨ o2 = 1) (h3 : o3 = 0 ∨ o3 = 1) : Met l yX3_throwing (Cond.code yX3_throwing cX3_throwing 4 ((Option.some Jvm.ClassFile.FieldType.boolean)) :: gw) rm_X3_throwing (PcW [.ref m0, .int (zi (o1)), .int (zi (o2)), .int (zi (o3))] (dC, dI) vwCl [(m0, .inr (3, [.int (zi (tw)), .int (zi ((mp : Int))), .ref a1, .ref a2, .ref a3, .ref a4, .ref a5, .ref a6, .int (zi ((mb : Int))), .ref a7, .ref a8, .int (zi ((ml : Int))), .ref a9, .ref a10, .int (zi ((mz : Int))), .ref a11, .long (zl (ab)), .long (zl (be))]))] [] sz) (WrQ (some (.int (zi (zb (decide (0 < m_thr o1 o2 o3)))))) (dC, dI) vwCl [(m0, .inr (3, [.int (zi (m_thr o1 o2 o3)), .int (zi ((mp : Int))), .ref a1, .ref a2, .ref a3, .ref a4, .ref a5, .ref a6, .int (zi ((mb : Int))), .ref a7, .ref a8, .int (zi ((ml : Int))), .ref a9, .ref a10, .int (zi ((mz : Int))), .ref a11, .long (zl (ab)), .long (zl (be))]))] (va_A [(m0, .inr (3, [.int (zi (tw)), .int (zi ((mp : Int))), .ref a1, .ref a2, .ref a3, .ref a4, .ref a5, .ref a6, .int (zi ((mb : Int))), .ref a7, .ref a8, .int (zi ((ml : Int))), .ref a9, .ref a10, .int (zi ((mz : Int))), .ref a11, .long (zl (ab)), .long (zl (be))]))] sz)) 0 0 (va_A [(m0, .inr (3, [.int (zi (tw)), .int (zi ((mp : Int))), .ref a1, .ref a2, .ref a3, .ref a4, .ref a5, .ref a6, .int (zi ((mb : Int))), .ref a7, .ref a8, .int (zi ((ml : Int))), .ref a9, .ref a10, .int (zi ((mz : Int))), .ref a11, .long (zl (ab)), .long (zl (be))]))] sz) := by
  refine Met.ofW (cc := cX3_throwing) (maxL := 4) (ret := ((Option.some Jvm.ClassFile.FieldType.boolean))) (by decide) rfl ?_
  intro p e s m args below meth c s₁ B hml hv
  obtain ⟨hargs, hsz, hP, hK, hD0⟩ := hv
  have hx := B.exec
  have hb := B.bytes
  have hr := B.returns
  have hts := atoms_spec (ws := Cond.code yX3_throwing cX3_throwing 4 ((Option.some Jvm.ClassFile.FieldType.boolean)) :: gw) B.pre
  have hg : ∀ w ∈ gw, w.before args s = true := fun w h => hts w (List.mem_cons_of_mem _ h)
  have hown : s.vm.findClass RX3 = some m.cls := findClass_of_methodNamed B.named
  have hlocks := B.notSynchronized
  subst hsz
  have hD := hD0.self (sz := s.heap.size)
  generalize hAe : va_A [(m0, .inr (3, [.int (zi (tw)), .int (zi ((mp : Int))), .ref a1, .ref a2, .ref a3, .ref a4, .ref a5, .ref a6, .int (zi ((mb : Int))), .ref a7, .ref a8, .int (zi ((ml : Int))), .ref a9, .ref a10, .int (zi ((mz : Int))), .ref a11, .long (zl (ab)), .long (zl (be))]))] s.heap.size = A at hD ⊢
  have hA : ∀ q : Nat, s.heap.size ≤ q → A q := fun q h => by rw [← hAe]; exact Or.inr h
  show W p l e rm_X3_throwing s m args below meth c s.heap [] 0 0 _ _
  have hl := lv_entry ([.ref m0, .int (zi (o1)), .int (zi (o2)), .int (zi (o3))]) (n := 4) (Nat.le_of_ble_eq_true rfl)
  rw [show entryFrame m args 4 = entryFrame m ([.ref m0, .int (zi (o1)), .int (zi (o2)), .int (zi (o3))] : List Value).toArray 4 by rw [hargs], lg_entry_eq]
  generalize (lg_sl ([.ref m0, .int (zi (o1)), .int (zi (o2)), .int (zi (o3))]) ++ List.replicate (4 - (lg_sl ([.ref m0, .int (zi (o1)), .int (zi (o2)), .int (zi (o3))])).length) Slot.unset).toArray = ls at hl ⊢
  have hl : lv_has ls 4 [(0, .ref m0), (1, .int (zi (o1))), (2, .int (zi (o2))), (3, .int (zi (o3)))] := hl
  obtain ⟨QQ, hQQ⟩ : ∃ Q, Q = MQ below (WrQ (some (.int (zi (zb (decide (0 < m_thr o1 o2 o3)))))) (dC, dI) vwCl [(m0, .inr (3, [.int (zi (m_thr o1 o2 o3)), .int (zi ((mp : Int))), .ref a1, .ref a2, .ref a3, .ref a4, .ref a5, .ref a6, .int (zi ((mb : Int))), .ref a7, .ref a8, .int (zi ((ml : Int))), .ref a9, .ref a10, .int (zi ((mz : Int))), .ref a11, .long (zl (ab)), .long (zl (be))]))] A) args s 0 0 A := ⟨_, rfl⟩
  rw [← hQQ]
  obtain ⟨H, hHe⟩ : ∃ H : Heap, H = s.heap := ⟨_, rfl⟩
  obtain ⟨locs, hlc⟩ : ∃ x : List Loc, x = [] := ⟨_, rfl⟩
  have hS : va_S A s.heap H locs := by rw [hHe, hlc]; exact va_S.rf
  have hP : va_P (dC, dI) vwCl [(m0, .inr (3, [.int (zi (tw)), .int (zi ((mp : Int))), .ref a1, .ref a2, .ref a3, .ref a4, .ref a5, .ref a6, .int (zi ((mb : Int))), .ref a7, .ref a8, .int (zi ((ml : Int))), .ref a9, .ref a10, .int (zi ((mz : Int))), .ref a11, .long (zl (ab)), .long (zl (be))]))] H := by rw [hHe]; exact hP
  have hD : va_D A [(m0, .inr (3, [.int (zi (tw)), .int (zi ((mp : Int))), .ref a1, .ref a2, .ref a3, .ref a4, .ref a5, .ref a6, .int (zi ((mb : Int))), .ref a7, .ref a8, .int (zi ((ml : Int))), .ref a9, .ref a10, .int (zi ((mz : Int))), .ref a11, .long (zl (ab)), .long (zl (be))]))] := hD
  rw [← hHe, ← hlc]
  refine lv_aload_n hx hb dX3_throwing_0 rfl (lv_at hl 0 rfl) ?_
  refine lv_iload_n hx hb dX3_throwing_1 rfl (lv_at hl 1 rfl) ?_
  refine zz_if_eq (tgt := 9) hx hb (by omega) dX3_throwing_2 (by decide) (fun c_2 => ?_) (fun c_2 => ?_)
  · refine lv_iload_n hx hb dX3_throwing_9 rfl (lv_at hl 2 rfl) ?_
    refine zz_if_eq (tgt := 17) hx hb (by omega) dX3_throwing_10 (by decide) (fun c_10 => ?_) (fun c_10 => ?_)
    · refine lv_iload_n hx hb dX3_throwing_17 rfl (lv_at hl 3 rfl) ?_
      refine zz_if_eq (tgt := 25) hx hb (by omega) dX3_throwing_18 (by decide) (fun c_18 => ?_) (fun c_18 => ?_)
      · refine lv_iconst (v := zi (0)) hx hb dX3_throwing_25 rfl ?_
        refine va_put (D := (dC, dI)) (ci := 3) (v := .int (zi (0))) (ty := .int) (C := RX3) (T := TX3) (N := 18) hx hb hg inX3 tyX3 tyX3_ok nmX3 hown hK hP hD hS 0 rfl rfl 0 (by decide) (hg _ wl_X3_48) (fun _ h9 => h9) rfl (by decide +kernel) rfl rfl (Nat.le_of_ble_eq_true rfl) dX3_throwing_26 (fun H locs hP hD hS => ?_)
        have hP : va_P (dC, dI) vwCl [(m0, .inr (3, [.int (zi (0)), .int (zi ((mp : Int))), .ref a1, .ref a2, .ref a3, .ref a4, .ref a5, .ref a6, .int (zi ((mb : Int))), .ref a7, .ref a8, .int (zi ((ml : Int))), .ref a9, .ref a10, .int (zi ((mz : Int))), .ref a11, .long (zl (ab)), .long (zl (be))]))] H := hP
        have hD : va_D A [(m0, .inr (3, [.int (zi (0)), .int (zi ((mp : Int))), .ref a1, .ref a2, .ref a3, .ref a4, .ref a5, .ref a6, .int (zi ((mb : Int))), .ref a7, .ref a8, .int (zi ((ml : Int))), .ref a9, .ref a10, .int (zi ((mz : Int))), .ref a11, .long (zl (ab)), .long (zl (be))]))] := hD
        refine lv_aload_n hx hb dX3_throwing_29 rfl (lv_at hl 0 rfl) ?_
        refine va_get (D := (dC, dI)) (ci := 3) (v := .int (zi (0))) (C := RX3) (T := TX3) (N := 18) hx hb hg inX3 hown hK hP 0 rfl rfl 0 (by decide) (hg _ wl_X3_48) (fun _ h9 => h9) rfl dX3_throwing_30 ?_
        refine zz_if_le (tgt := 40) hx hb (by omega) dX3_throwing_33 (by decide) (fun c_33 => ?_) (fun c_33 => ?_)
        · refine lv_iconst (v := zi (0)) hx hb dX3_throwing_40 rfl ?_
          have hP9 : va_P (dC, dI) vwCl [(m0, .inr (3, [.int (zi (m_thr o1 o2 o3)), .int (zi ((mp : Int))), .ref a1, .ref a2, .ref a3, .ref a4, .ref a5, .ref a6, .int (zi ((mb : Int))), .ref a7, .ref a8, .int (zi ((ml : Int))), .ref a9, .ref a10, .int (zi ((mz : Int))), .ref a11, .long (zl (ab)), .long (zl (be))]))] H := by unfold m_thr; rw [if_pos c_2, if_pos c_10, if_pos c_18]; exact hP
          rw [hQQ]
          exact wr_z hx hb hr hlocks (by unfold m_thr; rw [if_pos c_2, if_pos c_10, if_pos c_18]; rfl) (by first | exact Or.inl rfl | exact Or.inr rfl | exact zb_01 _ | omega) hP9 hS dX3_throwing_41
        · exact absurd c_33 (by decide)
      · refine lv_iconst (v := zi (3)) hx hb dX3_throwing_21 rfl ?_
        refine lv_goto (tgt := 26) hx hb dX3_throwing_22 (by decide) ?_
        refine va_put (D := (dC, dI)) (ci := 3) (v := .int (zi (3))) (ty := .int) (C := RX3) (T := TX3) (N := 18) hx hb hg inX3 tyX3 tyX3_ok nmX3 hown hK hP hD hS 0 rfl rfl 0 (by decide) (hg _ wl_X3_48) (fun _ h9 => h9) rfl (by decide +kernel) rfl rfl (Nat.le_of_ble_eq_true rfl) dX3_throwing_26 (fun H locs hP hD hS => ?_)
        have hP : va_P (dC, dI) vwCl [(m0, .inr (3, [.int (zi (3)), .int (zi ((mp : Int))), .ref a1, .ref a2, .ref a3, .ref a4, .ref a5, .ref a6, .int (zi ((mb : Int))), .ref a7, .ref a8, .int (zi ((ml : Int))), .ref a9, .ref a10, .int (zi ((mz : Int))), .ref a11, .long (zl (ab)), .long (zl (be))]))] H := hP
        have hD : va_D A [(m0, .inr (3, [.int (zi (3)), .int (zi ((mp : Int))), .ref a1, .ref a2, .ref a3, .ref a4, .ref a5, .ref a6, .int (zi ((mb : Int))), .ref a7, .ref a8, .int (zi ((ml : Int))), .ref a9, .ref a10, .int (zi ((mz : Int))), .ref a11, .long (zl (ab)), .long (zl (be))]))] := hD
        refine lv_aload_n hx hb dX3_throwing_29 rfl (lv_at hl 0 rfl) ?_
        refine va_get (D := (dC, dI)) (ci := 3) (v := .int (zi (3))) (C := RX3) (T := TX3) (N := 18) hx hb hg inX3 hown hK hP 0 rfl rfl 0 (by decide) (hg _ wl_X3_48) (fun _ h9 => h9) rfl dX3_throwing_30 ?_
        refine zz_if_le (tgt := 40) hx hb (by omega) dX3_throwing_33 (by decide) (fun c_33 => ?_) (fun c_33 => ?_)
        · exact absurd c_33 (by decide)
        · refine lv_iconst (v := zi (1)) hx hb dX3_throwing_36 rfl ?_
          refine lv_goto (tgt := 41) hx hb dX3_throwing_37 (by decide) ?_
          have hP9 : va_P (dC, dI) vwCl [(m0, .inr (3, [.int (zi (m_thr o1 o2 o3)), .int (zi ((mp : Int))), .ref a1, .ref a2, .ref a3, .ref a4, .ref a5, .ref a6, .int (zi ((mb : Int))), .ref a7, .ref a8, .int (zi ((ml : Int))), .ref a9, .ref a10, .int (zi ((mz : Int))), .ref a11, .long (zl (ab)), .long (zl (be))]))] H := by unfold m_thr; rw [if_pos c_2, if_pos c_10, if_neg c_18]; exact hP
          rw [hQQ]
          exact wr_z hx hb hr hlocks (by unfold m_thr; rw [if_pos c_2, if_pos c_10, if_neg c_18]; rfl) (by first | exact Or.inl rfl | exact Or.inr rfl | exact zb_01 _ | omega) hP9 hS dX3_throwing_41
    · refine lv_iconst (v := zi (2)) hx hb dX3_throwing_13 rfl ?_
      refine lv_goto (tgt := 26) hx hb dX3_throwing_14 (by decide) ?_
      refine va_put (D := (dC, dI)) (ci := 3) (v := .int (zi (2))) (ty := .int) (C := RX3) (T := TX3) (N := 18) hx hb hg inX3 tyX3 tyX3_ok nmX3 hown hK hP hD hS 0 rfl rfl 0 (by decide) (hg _ wl_X3_48) (fun _ h9 => h9) rfl (by decide +kernel) rfl rfl (Nat.le_of_ble_eq_true rfl) dX3_throwing_26 (fun H locs hP hD hS => ?_)
      have hP : va_P (dC, dI) vwCl [(m0, .inr (3, [.int (zi (2)), .int (zi ((mp : Int))), .ref a1, .ref a2, .ref a3, .ref a4, .ref a5, .ref a6, .int (zi ((mb : Int))), .ref a7, .ref a8, .int (zi ((ml : Int))), .ref a9, .ref a10, .int (zi ((mz : Int))), .ref a11, .long (zl (ab)), .long (zl (be))]))] H := hP
      have hD : va_D A [(m0, .inr (3, [.int (zi (2)), .int (zi ((mp : Int))), .ref a1, .ref a2, .ref a3, .ref a4, .ref a5, .ref a6, .int (zi ((mb : Int))), .ref a7, .ref a8, .int (zi ((ml : Int))), .ref a9, .ref a10, .int (zi ((mz : Int))), .ref a11, .long (zl (ab)), .long (zl (be))]))] := hD
      refine lv_aload_n hx hb dX3_throwing_29 rfl (lv_at hl 0 rfl) ?_
      refine va_get (D := (dC, dI)) (ci := 3) (v := .int (zi (2))) (C := RX3) (T := TX3) (N := 18) hx hb hg inX3 hown hK hP 0 rfl rfl 0 (by decide) (hg _ wl_X3_48) (fun _ h9 => h9) rfl dX3_throwing_30 ?_
      refine zz_if_le (tgt := 40) hx hb (by omega) dX3_throwing_33 (by decide) (fun c_33 => ?_) (fun c_33 => ?_)
      · exact absurd c_33 (by decide)
      · refine lv_iconst (v := zi (1)) hx hb dX3_throwing_36 rfl ?_
        refine lv_goto (tgt := 41) hx hb dX3_throwing_37 (by decide) ?_
        have hP9 : va_P (dC, dI) vwCl [(m0, .inr (3, [.int (zi (m_thr o1 o2 o3)), .int (zi ((mp : Int))), .ref a1, .ref a2, .ref a3, .ref a4, .ref a5, .ref a6, .int (zi ((mb : Int))), .ref a7, .ref a8, .int (zi ((ml : Int))), .ref a9, .ref a10, .int (zi ((mz : Int))), .ref a11, .long (zl (ab)), .long (zl (be))]))] H := by unfold m_thr; rw [if_pos c_2, if_neg c_10]; exact hP
        rw [hQQ]
        exact wr_z hx hb hr hlocks (by unfold m_thr; rw [if_pos c_2, if_neg c_10]; rfl) (by first | exact Or.inl rfl | exact Or.inr rfl | exact zb_01 _ | omega) hP9 hS dX3_throwing_41
  · refine lv_iconst (v := zi (1)) hx hb dX3_throwing_5 rfl ?_
    refine lv_goto (tgt := 26) hx hb dX3_throwing_6 (by decide) ?_
    refine va_put (D := (dC, dI)) (ci := 3) (v := .int (zi (1))) (ty := .int) (C := RX3) (T := TX3) (N := 18) hx hb hg inX3 tyX3 tyX3_ok nmX3 hown hK hP hD hS 0 rfl rfl 0 (by decide) (hg _ wl_X3_48) (fun _ h9 => h9) rfl (by decide +kernel) rfl rfl (Nat.le_of_ble_eq_true rfl) dX3_throwing_26 (fun H locs hP hD hS => ?_)
    have hP : va_P (dC, dI) vwCl [(m0, .inr (3, [.int (zi (1)), .int (zi ((mp : Int))), .ref a1, .ref a2, .ref a3, .ref a4, .ref a5, .ref a6, .int (zi ((mb : Int))), .ref a7, .ref a8, .int (zi ((ml : Int))), .ref a9, .ref a10, .int (zi ((mz : Int))), .ref a11, .long (zl (ab)), .long (zl (be))]))] H := hP
    have hD : va_D A [(m0, .inr (3, [.int (zi (1)), .int (zi ((mp : Int))), .ref a1, .ref a2, .ref a3, .ref a4, .ref a5, .ref a6, .int (zi ((mb : Int))), .ref a7, .ref a8, .int (zi ((ml : Int))), .ref a9, .ref a10, .int (zi ((mz : Int))), .ref a11, .long (zl (ab)), .long (zl (be))]))] := hD
    refine lv_aload_n hx hb dX3_throwing_29 rfl (lv_at hl 0 rfl) ?_
    refine va_get (D := (dC, dI)) (ci := 3) (v := .int (zi (1))) (C := RX3) (T := TX3) (N := 18) hx hb hg inX3 hown hK hP 0 rfl rfl 0 (by decide) (hg _ wl_X3_48) (fun _ h9 => h9) rfl dX3_throwing_30 ?_
    refine zz_if_le (tgt := 40) hx hb (by omega) dX3_throwing_33 (by decide) (fun c_33 => ?_) (fun c_33 => ?_)
    · exact absurd c_33 (by decide)
    · refine lv_iconst (v := zi (1)) hx hb dX3_throwing_36 rfl ?_
      refine lv_goto (tgt := 41) hx hb dX3_throwing_37 (by decide) ?_
      have hP9 : va_P (dC, dI) vwCl [(m0, .inr (3, [.int (zi (m_thr o1 o2 o3)), .int (zi ((mp : Int))), .ref a1, .ref a2, .ref a3, .ref a4, .ref a5, .ref a6, .int (zi ((mb : Int))), .ref a7, .ref a8, .int (zi ((ml : Int))), .ref a9, .ref a10, .int (zi ((mz : Int))), .ref a11, .long (zl (ab)), .long (zl (be))]))] H := by unfold m_thr; rw [if_neg c_2]; exact hP
      rw [hQQ]
      exact wr_z hx hb hr hlocks (by unfold m_thr; rw [if_neg c_2]; rfl) (by first | exact Or.inl rfl | exact Or.inr rfl | exact zb_01 _ | omega) hP9 hS dX3_throwing_41

abbrev rm_X3_in : Room := { frames := 0, cells := 0, slots := 0, locals := 0 }
set_option maxHeartbeats 4000000 in
set_option maxRecDepth 100000 in
theorem c_X3_in (l : Launch) (v lo hi : Int)  (h_v : -2147483648 ≤ v ∧ v < 2147483648) (h_lo : -2147483648 ≤ lo ∧ lo < 2147483648) (h_hi : -2147483648 ≤ hi ∧ hi < 2147483648) : Met l yX3_in (Cond.code yX3_in cX3_in 3 ((Option.some Jvm.ClassFile.FieldType.boolean)) :: gw) rm_X3_in (PcS [.int (zi (v)), .int (zi (lo)), .int (zi (hi))]) (RdQ (some (.int (zi (zb (decide (lo ≤ v ∧ v ≤ hi))))))) 0 0 (fun _ => False) := by
  refine Met.ofW (cc := cX3_in) (maxL := 3) (ret := ((Option.some Jvm.ClassFile.FieldType.boolean))) (by decide) rfl ?_
  intro p e s m args below meth c s₁ B hml hv
  obtain ⟨hargs, -⟩ := hv
  have hx := B.exec
  have hb := B.bytes
  have hr := B.returns
  have hts := atoms_spec (ws := Cond.code yX3_in cX3_in 3 ((Option.some Jvm.ClassFile.FieldType.boolean)) :: gw) B.pre
  have hg : ∀ w ∈ gw, w.before args s = true := fun w h => hts w (List.mem_cons_of_mem _ h)
  have hown : s.vm.findClass RX3 = some m.cls := findClass_of_methodNamed B.named
  have hlocks := B.notSynchronized
  show W p l e rm_X3_in s m args below meth c s.heap [] 0 0 _ _
  have hl := lv_entry ([.int (zi (v)), .int (zi (lo)), .int (zi (hi))]) (n := 3) (Nat.le_of_ble_eq_true rfl)
  rw [show entryFrame m args 3 = entryFrame m ([.int (zi (v)), .int (zi (lo)), .int (zi (hi))] : List Value).toArray 3 by rw [hargs], lg_entry_eq]
  generalize (lg_sl ([.int (zi (v)), .int (zi (lo)), .int (zi (hi))]) ++ List.replicate (3 - (lg_sl ([.int (zi (v)), .int (zi (lo)), .int (zi (hi))])).length) Slot.unset).toArray = ls at hl ⊢
  have hl : lv_has ls 3 [(0, .int (zi (v))), (1, .int (zi (lo))), (2, .int (zi (hi)))] := hl
  obtain ⟨QQ, hQQ⟩ : ∃ Q, Q = MQ below (RdQ (some (.int (zi (zb (decide (lo ≤ v ∧ v ≤ hi))))))) args s 0 0 (fun _ => False) := ⟨_, rfl⟩
  rw [← hQQ]
  refine lv_iload_n hx hb dX3_in_0 rfl (lv_at hl 0 rfl) ?_
  refine lv_iload_n hx hb dX3_in_1 rfl (lv_at hl 1 rfl) ?_
  refine zz_icmp_lt (tgt := 14) hx hb (by omega) (by omega) dX3_in_2 (by decide) (fun c_2 => ?_) (fun c_2 => ?_)
  · refine lv_iconst (v := zi (0)) hx hb dX3_in_14 rfl ?_
    rw [hQQ]
    exact rd_z hx hb hr hlocks (zb_f (decide_eq_false (by omega))).symm (by first | exact Or.inl rfl | exact Or.inr rfl | exact zb_01 _ | omega) dX3_in_15
  · refine lv_iload_n hx hb dX3_in_5 rfl (lv_at hl 0 rfl) ?_
    refine lv_iload_n hx hb dX3_in_6 rfl (lv_at hl 2 rfl) ?_
    refine zz_icmp_gt (tgt := 14) hx hb (by omega) (by omega) dX3_in_7 (by decide) (fun c_7 => ?_) (fun c_7 => ?_)
    · refine lv_iconst (v := zi (0)) hx hb dX3_in_14 rfl ?_
      rw [hQQ]
      exact rd_z hx hb hr hlocks (zb_f (decide_eq_false (by omega))).symm (by first | exact Or.inl rfl | exact Or.inr rfl | exact zb_01 _ | omega) dX3_in_15
    · refine lv_iconst (v := zi (1)) hx hb dX3_in_10 rfl ?_
      refine lv_goto (tgt := 15) hx hb dX3_in_11 (by decide) ?_
      rw [hQQ]
      exact rd_z hx hb hr hlocks (zb_t (decide_eq_true (by omega))).symm (by first | exact Or.inl rfl | exact Or.inr rfl | exact zb_01 _ | omega) dX3_in_15

abbrev rm_X3_isProfile : Room := { frames := 1, cells := 0, slots := 0, locals := 22 }
set_option maxHeartbeats 4000000 in
set_option maxRecDepth 100000 in
theorem c_X3_isProfile (l : Launch) (dC : Nat → ClassId) (dI : Nat → Nat → Nat) (m0 a1 a2 a3 a4 a5 a6 a7 a8 a9 a10 a11 : Nat) (tw ab be : Int) (mp mb ml mz : Nat) (q : Int) (hmp : mp ≤ 6) (h_q : -2147483648 ≤ q ∧ q < 2147483648) : Met l yX3_isProfile (Cond.code yX3_isProfile cX3_isProfile 2 ((Option.some Jvm.ClassFile.FieldType.boolean)) :: gw) rm_X3_isProfile (PcR [.ref m0, .int (zi (q))] (dC, dI) vwCl [(m0, .inr (3, [.int (zi (tw)), .int (zi ((mp : Int))), .ref a1, .ref a2, .ref a3, .ref a4, .ref a5, .ref a6, .int (zi ((mb : Int))), .ref a7, .ref a8, .int (zi ((ml : Int))), .ref a9, .ref a10, .int (zi ((mz : Int))), .ref a11, .long (zl (ab)), .long (zl (be))]))] []) (RdQ (some (.int (zi (zb (decide (0 ≤ q ∧ q < (mp : Int)))))))) 0 0 (fun _ => False) := by
  refine Met.ofW (cc := cX3_isProfile) (maxL := 2) (ret := ((Option.some Jvm.ClassFile.FieldType.boolean))) (by decide) rfl ?_
  intro p e s m args below meth c s₁ B hml hv
  obtain ⟨hargs, hP, hK⟩ := hv
  have hx := B.exec
  have hb := B.bytes
  have hr := B.returns
  have hts := atoms_spec (ws := Cond.code yX3_isProfile cX3_isProfile 2 ((Option.some Jvm.ClassFile.FieldType.boolean)) :: gw) B.pre
  have hg : ∀ w ∈ gw, w.before args s = true := fun w h => hts w (List.mem_cons_of_mem _ h)
  have hown : s.vm.findClass RX3 = some m.cls := findClass_of_methodNamed B.named
  have hlocks := B.notSynchronized
  show W p l e rm_X3_isProfile s m args below meth c s.heap [] 0 0 _ _
  have hl := lv_entry ([.ref m0, .int (zi (q))]) (n := 2) (Nat.le_of_ble_eq_true rfl)
  rw [show entryFrame m args 2 = entryFrame m ([.ref m0, .int (zi (q))] : List Value).toArray 2 by rw [hargs], lg_entry_eq]
  generalize (lg_sl ([.ref m0, .int (zi (q))]) ++ List.replicate (2 - (lg_sl ([.ref m0, .int (zi (q))])).length) Slot.unset).toArray = ls at hl ⊢
  have hl : lv_has ls 2 [(0, .ref m0), (1, .int (zi (q)))] := hl
  obtain ⟨QQ, hQQ⟩ : ∃ Q, Q = MQ below (RdQ (some (.int (zi (zb (decide (0 ≤ q ∧ q < (mp : Int)))))))) args s 0 0 (fun _ => False) := ⟨_, rfl⟩
  rw [← hQQ]
  refine lv_iload_n hx hb dX3_isProfile_0 rfl (lv_at hl 1 rfl) ?_
  refine lv_iconst (v := zi (0)) hx hb dX3_isProfile_1 rfl ?_
  refine lv_aload_n hx hb dX3_isProfile_2 rfl (lv_at hl 0 rfl) ?_
  refine va_get (D := (dC, dI)) (ci := 3) (v := .int (zi ((mp : Int)))) (C := RX3) (T := TX3) (N := 18) hx hb hg inX3 hown hK hP 0 rfl rfl 1 (by decide) (hg _ wl_X3_52) (fun _ h9 => h9) rfl dX3_isProfile_3 ?_
  refine lv_iconst (v := zi (1)) hx hb dX3_isProfile_6 rfl ?_
  refine zz_isub hx hb dX3_isProfile_7 ?_
  refine rdS (As := [.int (zi (q)), .int (zi (0)), .int (zi (((mp : Int)) - (1)))]) (rest := []) (n := 3) hx hb hml hown hg (c_X3_in l (q) (0) (((mp : Int)) - (1)) (by omega) (by omega) (by omega)) (gwS wl_X3_55 wt_X3_in wi_X3 wc_X3_in) rfl rfl (by decide +kernel) ⟨Nat.le_of_ble_eq_true rfl, Nat.le_of_ble_eq_true rfl⟩ rfl hl.1 rfl (Nat.le_of_ble_eq_true rfl) dX3_isProfile_8 ⟨Nat.zero_le _, Nat.zero_le _⟩ ?_
  rw [hQQ]
  exact rd_z hx hb hr hlocks (by congr 1; exact decide_eq_decide.mpr (by omega)) (by first | exact Or.inl rfl | exact Or.inr rfl | exact zb_01 _ | omega) dX3_isProfile_11

abbrev rm_X3_height : Room := { frames := 0, cells := 0, slots := 0, locals := 0 }
set_option maxHeartbeats 4000000 in
set_option maxRecDepth 100000 in
theorem c_X3_height (l : Launch) (dC : Nat → ClassId) (dI : Nat → Nat → Nat) (m0 a1 a2 a3 a4 a5 a6 a7 a8 a9 a10 a11 : Nat) (tw ab be : Int) (mp mb ml mz : Nat) (cA : ClassId) (j : Nat) (hh hs : Nat → Int) (k : Nat) (hj : j < 6) (hhs : ∀ k, k < 12 → hh (12 * j + k) = hs k) (hk : k < 12) : Met l yX3_height (Cond.code yX3_height cX3_height 3 ((Option.some Jvm.ClassFile.FieldType.int)) :: gw) rm_X3_height (PcR [.ref m0, .int (zi ((j : Int))), .int (zi ((k : Int)))] (dC, dI) vwCl [(m0, .inr (3, [.int (zi (tw)), .int (zi ((mp : Int))), .ref a1, .ref a2, .ref a3, .ref a4, .ref a5, .ref a6, .int (zi ((mb : Int))), .ref a7, .ref a8, .int (zi ((ml : Int))), .ref a9, .ref a10, .int (zi ((mz : Int))), .ref a11, .long (zl (ab)), .long (zl (be))])), (a2, .inl (cA, 72, .inl (zA (hh))))] [(cA, .int)]) (RdQ (some (.int (zi (hs k))))) 0 0 (fun _ => False) := by
  refine Met.ofW (cc := cX3_height) (maxL := 3) (ret := ((Option.some Jvm.ClassFile.FieldType.int))) (by decide) rfl ?_
  intro p e s m args below meth c s₁ B hml hv
  obtain ⟨hargs, hP, hK⟩ := hv
  have hx := B.exec
  have hb := B.bytes
  have hr := B.returns
  have hts := atoms_spec (ws := Cond.code yX3_height cX3_height 3 ((Option.some Jvm.ClassFile.FieldType.int)) :: gw) B.pre
  have hg : ∀ w ∈ gw, w.before args s = true := fun w h => hts w (List.mem_cons_of_mem _ h)
  have hown : s.vm.findClass RX3 = some m.cls := findClass_of_methodNamed B.named
  have hlocks := B.notSynchronized
  show W p l e rm_X3_height s m args below meth c s.heap [] 0 0 _ _
  have hl := lv_entry ([.ref m0, .int (zi ((j : Int))), .int (zi ((k : Int)))]) (n := 3) (Nat.le_of_ble_eq_true rfl)
  rw [show entryFrame m args 3 = entryFrame m ([.ref m0, .int (zi ((j : Int))), .int (zi ((k : Int)))] : List Value).toArray 3 by rw [hargs], lg_entry_eq]
  generalize (lg_sl ([.ref m0, .int (zi ((j : Int))), .int (zi ((k : Int)))]) ++ List.replicate (3 - (lg_sl ([.ref m0, .int (zi ((j : Int))), .int (zi ((k : Int)))])).length) Slot.unset).toArray = ls at hl ⊢
  have hl : lv_has ls 3 [(0, .ref m0), (1, .int (zi ((j : Int)))), (2, .int (zi ((k : Int))))] := hl
  obtain ⟨QQ, hQQ⟩ : ∃ Q, Q = MQ below (RdQ (some (.int (zi (hs k))))) args s 0 0 (fun _ => False) := ⟨_, rfl⟩
  rw [← hQQ]
  refine lv_aload_n hx hb dX3_height_0 rfl (lv_at hl 0 rfl) ?_
  refine va_get (D := (dC, dI)) (ci := 3) (v := .ref a2) (C := RX3) (T := TX3) (N := 18) hx hb hg inX3 hown hK hP 0 rfl rfl 3 (by decide) (hg _ wl_X3_13) (fun _ h9 => h9) rfl dX3_height_1 ?_
  refine lv_bipush (v := zi (12)) hx hb dX3_height_4 (by decide) ?_
  refine lv_iload_n hx hb dX3_height_6 rfl (lv_at hl 1 rfl) ?_
  refine zz_imul hx hb dX3_height_7 ?_
  refine lv_iload_n hx hb dX3_height_8 rfl (lv_at hl 2 rfl) ?_
  refine zz_iadd hx hb dX3_height_9 ?_
  refine zz_iald hx hb hK hP 1 0 rfl rfl (12 * j + k) (by omega) (by omega) (by decide) dX3_height_10 ?_
  rw [hQQ]
  exact rd_i hx hb hr hlocks (hhs k hk) dX3_height_11

abbrev rm_X3_radiusAt : Room := { frames := 0, cells := 0, slots := 0, locals := 0 }
set_option maxHeartbeats 4000000 in
set_option maxRecDepth 100000 in
theorem c_X3_radiusAt (l : Launch) (dC : Nat → ClassId) (dI : Nat → Nat → Nat) (m0 a1 a2 a3 a4 a5 a6 a7 a8 a9 a10 a11 : Nat) (tw ab be : Int) (mp mb ml mz : Nat) (cA : ClassId) (j : Nat) (rr rs : Nat → Int) (k : Nat) (hj : j < 6) (hrs : ∀ k, k < 12 → rr (12 * j + k) = rs k) (hk : k < 12) : Met l yX3_radiusAt (Cond.code yX3_radiusAt cX3_radiusAt 3 ((Option.some Jvm.ClassFile.FieldType.int)) :: gw) rm_X3_radiusAt (PcR [.ref m0, .int (zi ((j : Int))), .int (zi ((k : Int)))] (dC, dI) vwCl [(m0, .inr (3, [.int (zi (tw)), .int (zi ((mp : Int))), .ref a1, .ref a2, .ref a3, .ref a4, .ref a5, .ref a6, .int (zi ((mb : Int))), .ref a7, .ref a8, .int (zi ((ml : Int))), .ref a9, .ref a10, .int (zi ((mz : Int))), .ref a11, .long (zl (ab)), .long (zl (be))])), (a3, .inl (cA, 72, .inl (zA (rr))))] [(cA, .int)]) (RdQ (some (.int (zi (rs k))))) 0 0 (fun _ => False) := by
  refine Met.ofW (cc := cX3_radiusAt) (maxL := 3) (ret := ((Option.some Jvm.ClassFile.FieldType.int))) (by decide) rfl ?_
  intro p e s m args below meth c s₁ B hml hv
  obtain ⟨hargs, hP, hK⟩ := hv
  have hx := B.exec
  have hb := B.bytes
  have hr := B.returns
  have hts := atoms_spec (ws := Cond.code yX3_radiusAt cX3_radiusAt 3 ((Option.some Jvm.ClassFile.FieldType.int)) :: gw) B.pre
  have hg : ∀ w ∈ gw, w.before args s = true := fun w h => hts w (List.mem_cons_of_mem _ h)
  have hown : s.vm.findClass RX3 = some m.cls := findClass_of_methodNamed B.named
  have hlocks := B.notSynchronized
  show W p l e rm_X3_radiusAt s m args below meth c s.heap [] 0 0 _ _
  have hl := lv_entry ([.ref m0, .int (zi ((j : Int))), .int (zi ((k : Int)))]) (n := 3) (Nat.le_of_ble_eq_true rfl)
  rw [show entryFrame m args 3 = entryFrame m ([.ref m0, .int (zi ((j : Int))), .int (zi ((k : Int)))] : List Value).toArray 3 by rw [hargs], lg_entry_eq]
  generalize (lg_sl ([.ref m0, .int (zi ((j : Int))), .int (zi ((k : Int)))]) ++ List.replicate (3 - (lg_sl ([.ref m0, .int (zi ((j : Int))), .int (zi ((k : Int)))])).length) Slot.unset).toArray = ls at hl ⊢
  have hl : lv_has ls 3 [(0, .ref m0), (1, .int (zi ((j : Int)))), (2, .int (zi ((k : Int))))] := hl
  obtain ⟨QQ, hQQ⟩ : ∃ Q, Q = MQ below (RdQ (some (.int (zi (rs k))))) args s 0 0 (fun _ => False) := ⟨_, rfl⟩
  rw [← hQQ]
  refine lv_aload_n hx hb dX3_radiusAt_0 rfl (lv_at hl 0 rfl) ?_
  refine va_get (D := (dC, dI)) (ci := 3) (v := .ref a3) (C := RX3) (T := TX3) (N := 18) hx hb hg inX3 hown hK hP 0 rfl rfl 4 (by decide) (hg _ wl_X3_16) (fun _ h9 => h9) rfl dX3_radiusAt_1 ?_
  refine lv_bipush (v := zi (12)) hx hb dX3_radiusAt_4 (by decide) ?_
  refine lv_iload_n hx hb dX3_radiusAt_6 rfl (lv_at hl 1 rfl) ?_
  refine zz_imul hx hb dX3_radiusAt_7 ?_
  refine lv_iload_n hx hb dX3_radiusAt_8 rfl (lv_at hl 2 rfl) ?_
  refine zz_iadd hx hb dX3_radiusAt_9 ?_
  refine zz_iald hx hb hK hP 1 0 rfl rfl (12 * j + k) (by omega) (by omega) (by decide) dX3_radiusAt_10 ?_
  rw [hQQ]
  exact rd_i hx hb hr hlocks (hrs k hk) dX3_radiusAt_11

abbrev rm_X3_thrown : Room := { frames := 0, cells := 0, slots := 0, locals := 0 }
set_option maxHeartbeats 4000000 in
set_option maxRecDepth 100000 in
theorem c_X3_thrown (l : Launch) (dC : Nat → ClassId) (dI : Nat → Nat → Nat) (m0 a1 a2 a3 a4 a5 a6 a7 a8 a9 a10 a11 : Nat) (tw ab be : Int) (mp mb ml mz : Nat)  : Met l yX3_thrown (Cond.code yX3_thrown cX3_thrown 1 ((Option.some Jvm.ClassFile.FieldType.int)) :: gw) rm_X3_thrown (PcR [.ref m0] (dC, dI) vwCl [(m0, .inr (3, [.int (zi (tw)), .int (zi ((mp : Int))), .ref a1, .ref a2, .ref a3, .ref a4, .ref a5, .ref a6, .int (zi ((mb : Int))), .ref a7, .ref a8, .int (zi ((ml : Int))), .ref a9, .ref a10, .int (zi ((mz : Int))), .ref a11, .long (zl (ab)), .long (zl (be))]))] []) (RdQ (some (.int (zi tw)))) 0 0 (fun _ => False) := by
  refine Met.ofW (cc := cX3_thrown) (maxL := 1) (ret := ((Option.some Jvm.ClassFile.FieldType.int))) (by decide) rfl ?_
  intro p e s m args below meth c s₁ B hml hv
  obtain ⟨hargs, hP, hK⟩ := hv
  have hx := B.exec
  have hb := B.bytes
  have hr := B.returns
  have hts := atoms_spec (ws := Cond.code yX3_thrown cX3_thrown 1 ((Option.some Jvm.ClassFile.FieldType.int)) :: gw) B.pre
  have hg : ∀ w ∈ gw, w.before args s = true := fun w h => hts w (List.mem_cons_of_mem _ h)
  have hown : s.vm.findClass RX3 = some m.cls := findClass_of_methodNamed B.named
  have hlocks := B.notSynchronized
  show W p l e rm_X3_thrown s m args below meth c s.heap [] 0 0 _ _
  have hl := lv_entry ([.ref m0]) (n := 1) (Nat.le_of_ble_eq_true rfl)
  rw [show entryFrame m args 1 = entryFrame m ([.ref m0] : List Value).toArray 1 by rw [hargs], lg_entry_eq]
  generalize (lg_sl ([.ref m0]) ++ List.replicate (1 - (lg_sl ([.ref m0])).length) Slot.unset).toArray = ls at hl ⊢
  have hl : lv_has ls 1 [(0, .ref m0)] := hl
  obtain ⟨QQ, hQQ⟩ : ∃ Q, Q = MQ below (RdQ (some (.int (zi tw)))) args s 0 0 (fun _ => False) := ⟨_, rfl⟩
  rw [← hQQ]
  refine lv_aload_n hx hb dX3_thrown_0 rfl (lv_at hl 0 rfl) ?_
  refine va_get (D := (dC, dI)) (ci := 3) (v := .int (zi (tw))) (C := RX3) (T := TX3) (N := 18) hx hb hg inX3 hown hK hP 0 rfl rfl 0 (by decide) (hg _ wl_X3_48) (fun _ h9 => h9) rfl dX3_thrown_1 ?_
  rw [hQQ]
  exact rd_i hx hb hr hlocks rfl dX3_thrown_4

abbrev rm_X3_less : Room := { frames := 0, cells := 0, slots := 0, locals := 0 }
set_option maxHeartbeats 4000000 in
set_option maxRecDepth 100000 in
theorem c_X3_less (l : Launch) (r w9 : Int)  (h_r : -2147483648 ≤ r ∧ r < 2147483648) (h_w9 : -2147483648 ≤ w9 ∧ w9 < 2147483648) : Met l yX3_less (Cond.code yX3_less cX3_less 2 ((Option.some Jvm.ClassFile.FieldType.int)) :: gw) rm_X3_less (PcS [.int (zi (r)), .int (zi (w9))]) (RdQ (some (.int (zi (max 0 (r - w9)))))) 0 0 (fun _ => False) := by
  refine Met.ofW (cc := cX3_less) (maxL := 2) (ret := ((Option.some Jvm.ClassFile.FieldType.int))) (by decide) rfl ?_
  intro p e s m args below meth c s₁ B hml hv
  obtain ⟨hargs, -⟩ := hv
  have hx := B.exec
  have hb := B.bytes
  have hr := B.returns
  have hts := atoms_spec (ws := Cond.code yX3_less cX3_less 2 ((Option.some Jvm.ClassFile.FieldType.int)) :: gw) B.pre
  have hg : ∀ w ∈ gw, w.before args s = true := fun w h => hts w (List.mem_cons_of_mem _ h)
  have hown : s.vm.findClass RX3 = some m.cls := findClass_of_methodNamed B.named
  have hlocks := B.notSynchronized
  show W p l e rm_X3_less s m args below meth c s.heap [] 0 0 _ _
  have hl := lv_entry ([.int (zi (r)), .int (zi (w9))]) (n := 2) (Nat.le_of_ble_eq_true rfl)
  rw [show entryFrame m args 2 = entryFrame m ([.int (zi (r)), .int (zi (w9))] : List Value).toArray 2 by rw [hargs], lg_entry_eq]
  generalize (lg_sl ([.int (zi (r)), .int (zi (w9))]) ++ List.replicate (2 - (lg_sl ([.int (zi (r)), .int (zi (w9))])).length) Slot.unset).toArray = ls at hl ⊢
  have hl : lv_has ls 2 [(0, .int (zi (r))), (1, .int (zi (w9)))] := hl
  obtain ⟨QQ, hQQ⟩ : ∃ Q, Q = MQ below (RdQ (some (.int (zi (max 0 (r - w9)))))) args s 0 0 (fun _ => False) := ⟨_, rfl⟩
  rw [← hQQ]
  refine lv_iload_n hx hb dX3_less_0 rfl (lv_at hl 0 rfl) ?_
  refine lv_iload_n hx hb dX3_less_1 rfl (lv_at hl 1 rfl) ?_
  refine zz_icmp_le (tgt := 11) hx hb (by omega) (by omega) dX3_less_2 (by decide) (fun c_2 => ?_) (fun c_2 => ?_)
  · refine lv_iconst (v := zi (0)) hx hb dX3_less_11 rfl ?_
    rw [hQQ]
    exact rd_i hx hb hr hlocks (by omega) dX3_less_12
  · refine lv_iload_n hx hb dX3_less_5 rfl (lv_at hl 0 rfl) ?_
    refine lv_iload_n hx hb dX3_less_6 rfl (lv_at hl 1 rfl) ?_
    refine zz_isub hx hb dX3_less_7 ?_
    refine lv_goto (tgt := 12) hx hb dX3_less_8 (by decide) ?_
    rw [hQQ]
    exact rd_i hx hb hr hlocks (by omega) dX3_less_12

abbrev rm_X3_mayFollow : Room := { frames := 1, cells := 0, slots := 0, locals := 22 }
set_option maxHeartbeats 4000000 in
set_option maxRecDepth 100000 in
theorem c_X3_mayFollow (l : Launch) (dC : Nat → ClassId) (dI : Nat → Nat → Nat) (m0 a1 a2 a3 a4 a5 a6 a7 a8 a9 a10 a11 : Nat) (tw ab be : Int) (mp mb ml mz : Nat) (cA : ClassId) (j n : Nat) (sf hh rr hs rs : Nat → Int) (h r : Int) (hj : j < 6) (hsf : sf j = (n : Int)) (hhs : ∀ k, k < 12 → hh (12 * j + k) = hs k) (hrs : ∀ k, k < 12 → rr (12 * j + k) = rs k) (hn : n ≤ 12) (hH : ∀ j, 0 ≤ hs j ∧ hs j ≤ 400) (hR : ∀ j, 0 ≤ rs j ∧ rs j ≤ 200) (hn2 : n < 12) (h9 : 0 ≤ h ∧ h ≤ 400) (r9 : 0 ≤ r ∧ r ≤ 200) (hso : 1 < n → hs (n - 2) ≤ hs (n - 1)) : Met l yX3_mayFollow (Cond.code yX3_mayFollow cX3_mayFollow 5 ((Option.some Jvm.ClassFile.FieldType.boolean)) :: gw) rm_X3_mayFollow (PcR [.ref m0, .int (zi ((j : Int))), .int (zi (h)), .int (zi (r))] (dC, dI) vwCl [(m0, .inr (3, [.int (zi (tw)), .int (zi ((mp : Int))), .ref a1, .ref a2, .ref a3, .ref a4, .ref a5, .ref a6, .int (zi ((mb : Int))), .ref a7, .ref a8, .int (zi ((ml : Int))), .ref a9, .ref a10, .int (zi ((mz : Int))), .ref a11, .long (zl (ab)), .long (zl (be))])), (a1, .inl (cA, 6, .inl (zA (sf)))), (a2, .inl (cA, 72, .inl (zA (hh)))), (a3, .inl (cA, 72, .inl (zA (rr))))] [(cA, .int)]) (RdQ (some (.int (zi (zb (p_canf n hs rs h r)))))) 0 0 (fun _ => False) := by
  refine Met.ofW (cc := cX3_mayFollow) (maxL := 5) (ret := ((Option.some Jvm.ClassFile.FieldType.boolean))) (by decide) rfl ?_
  intro p e s m args below meth c s₁ B hml hv
  obtain ⟨hargs, hP, hK⟩ := hv
  have hx := B.exec
  have hb := B.bytes
  have hr := B.returns
  have hts := atoms_spec (ws := Cond.code yX3_mayFollow cX3_mayFollow 5 ((Option.some Jvm.ClassFile.FieldType.boolean)) :: gw) B.pre
  have hg : ∀ w ∈ gw, w.before args s = true := fun w h => hts w (List.mem_cons_of_mem _ h)
  have hown : s.vm.findClass RX3 = some m.cls := findClass_of_methodNamed B.named
  have hlocks := B.notSynchronized
  show W p l e rm_X3_mayFollow s m args below meth c s.heap [] 0 0 _ _
  have hl := lv_entry ([.ref m0, .int (zi ((j : Int))), .int (zi (h)), .int (zi (r))]) (n := 5) (Nat.le_of_ble_eq_true rfl)
  rw [show entryFrame m args 5 = entryFrame m ([.ref m0, .int (zi ((j : Int))), .int (zi (h)), .int (zi (r))] : List Value).toArray 5 by rw [hargs], lg_entry_eq]
  generalize (lg_sl ([.ref m0, .int (zi ((j : Int))), .int (zi (h)), .int (zi (r))]) ++ List.replicate (5 - (lg_sl ([.ref m0, .int (zi ((j : Int))), .int (zi (h)), .int (zi (r))])).length) Slot.unset).toArray = ls at hl ⊢
  have hl : lv_has ls 5 [(0, .ref m0), (1, .int (zi ((j : Int)))), (2, .int (zi (h))), (3, .int (zi (r)))] := hl
  obtain ⟨QQ, hQQ⟩ : ∃ Q, Q = MQ below (RdQ (some (.int (zi (zb (p_canf n hs rs h r)))))) args s 0 0 (fun _ => False) := ⟨_, rfl⟩
  rw [← hQQ]
  refine lv_aload_n hx hb dX3_mayFollow_0 rfl (lv_at hl 0 rfl) ?_
  refine va_get (D := (dC, dI)) (ci := 3) (v := .ref a1) (C := RX3) (T := TX3) (N := 18) hx hb hg inX3 hown hK hP 0 rfl rfl 2 (by decide) (hg _ wl_X3_7) (fun _ h9 => h9) rfl dX3_mayFollow_1 ?_
  refine lv_iload_n hx hb dX3_mayFollow_4 rfl (lv_at hl 1 rfl) ?_
  refine zz_iald hx hb hK hP 1 0 rfl rfl (j) (by omega) (by omega) (by decide) dX3_mayFollow_5 ?_
  refine zz_topi (z := (n : Int)) (congrArg zi hsf) ?_
  refine lv_istore (lv' := [(4, .int (zi ((n : Int)))), (0, .ref m0), (1, .int (zi ((j : Int)))), (2, .int (zi (h))), (3, .int (zi (r)))]) hx hb dX3_mayFollow_6 hl (by decide) rfl (fun ls hl => ?_)
  refine lv_iload hx hb dX3_mayFollow_8 (lv_at hl 0 rfl) ?_
  refine zz_if_ne (tgt := 15) hx hb (by omega) dX3_mayFollow_10 (by decide) (fun c_10 => ?_) (fun c_10 => ?_)
  · refine lv_iload_n hx hb dX3_mayFollow_15 rfl (lv_at hl 3 rfl) ?_
    refine lv_aload_n hx hb dX3_mayFollow_16 rfl (lv_at hl 1 rfl) ?_
    refine lv_iload_n hx hb dX3_mayFollow_17 rfl (lv_at hl 2 rfl) ?_
    refine lv_iload hx hb dX3_mayFollow_18 (lv_at hl 0 rfl) ?_
    refine lv_iconst (v := zi (1)) hx hb dX3_mayFollow_20 rfl ?_
    refine zz_isub hx hb dX3_mayFollow_21 ?_
    refine zz_topi (z := ((n - 1 : Nat) : Int)) (congrArg zi (by omega)) ?_
    refine rdV (As := [.int (zi ((j : Int))), .int (zi (((n - 1 : Nat) : Int)))]) (rest := [.int (zi (h))]) (n := 2) hx hb hml hown hg (c_X3_height l dC dI m0 a1 a2 a3 a4 a5 a6 a7 a8 a9 a10 a11 (tw) (ab) (be) mp mb ml mz cA j hh hs (n - 1) hj hhs (by omega)) (gwV wl_X3_63 wm_X3_height we_X3_height wi_X3 wc_X3_height) rfl rfl (by decide +kernel) ⟨Nat.le_of_ble_eq_true rfl, Nat.le_of_ble_eq_true rfl⟩ (hK.sub [0] rfl) (hP.sub [0, 2] rfl) 0 rfl rfl rfl rfl hl.1 rfl (Nat.le_of_ble_eq_true rfl) dX3_mayFollow_22 ⟨Nat.zero_le _, Nat.zero_le _⟩ ?_
    have hv_1 := hH (n - 1)
    refine zz_icmp_lt (tgt := 54) hx hb (by omega) (by omega) dX3_mayFollow_25 (by decide) (fun c_25 => ?_) (fun c_25 => ?_)
    · refine lv_iconst (v := zi (0)) hx hb dX3_mayFollow_54 rfl ?_
      rw [hQQ]
      exact rd_z hx hb hr hlocks (zb_f (by unfold p_canf; first | (rw [if_neg (by omega), if_neg (by omega)]; exact decide_eq_false (by omega)) | (rw [if_neg (by omega), if_neg (by omega)]; exact decide_eq_true (by omega)) | (simp; omega) | (rw [if_neg (by omega)]; simp; omega) | (rw [if_pos (by omega)]) | (split <;> simp_all <;> omega) | (simp_all; omega))).symm (by first | exact Or.inl rfl | exact Or.inr rfl | exact zb_01 _ | omega) dX3_mayFollow_55
    · refine lv_iload_n hx hb dX3_mayFollow_28 rfl (lv_at hl 3 rfl) ?_
      refine lv_aload_n hx hb dX3_mayFollow_29 rfl (lv_at hl 1 rfl) ?_
      refine lv_iload_n hx hb dX3_mayFollow_30 rfl (lv_at hl 2 rfl) ?_
      refine lv_iload hx hb dX3_mayFollow_31 (lv_at hl 0 rfl) ?_
      refine lv_iconst (v := zi (1)) hx hb dX3_mayFollow_33 rfl ?_
      refine zz_isub hx hb dX3_mayFollow_34 ?_
      refine zz_topi (z := ((n - 1 : Nat) : Int)) (congrArg zi (by omega)) ?_
      refine rdV (As := [.int (zi ((j : Int))), .int (zi (((n - 1 : Nat) : Int)))]) (rest := [.int (zi (h))]) (n := 2) hx hb hml hown hg (c_X3_height l dC dI m0 a1 a2 a3 a4 a5 a6 a7 a8 a9 a10 a11 (tw) (ab) (be) mp mb ml mz cA j hh hs (n - 1) hj hhs (by omega)) (gwV wl_X3_63 wm_X3_height we_X3_height wi_X3 wc_X3_height) rfl rfl (by decide +kernel) ⟨Nat.le_of_ble_eq_true rfl, Nat.le_of_ble_eq_true rfl⟩ (hK.sub [0] rfl) (hP.sub [0, 2] rfl) 0 rfl rfl rfl rfl hl.1 rfl (Nat.le_of_ble_eq_true rfl) dX3_mayFollow_35 ⟨Nat.zero_le _, Nat.zero_le _⟩ ?_
      have hv_2 := hH (n - 1)
      refine zz_icmp_ne (tgt := 56) hx hb (by omega) (by omega) dX3_mayFollow_38 (by decide) (fun c_38 => ?_) (fun c_38 => ?_)
      · refine lv_iload hx hb dX3_mayFollow_56 (lv_at hl 0 rfl) ?_
        refine lv_iconst (v := zi (2)) hx hb dX3_mayFollow_58 rfl ?_
        refine zz_icmp_lt (tgt := 88) hx hb (by omega) (by omega) dX3_mayFollow_59 (by decide) (fun c_59 => ?_) (fun c_59 => ?_)
        · refine lv_iconst (v := zi (1)) hx hb dX3_mayFollow_88 rfl ?_
          refine lv_goto (tgt := 93) hx hb dX3_mayFollow_89 (by decide) ?_
          rw [hQQ]
          exact rd_z hx hb hr hlocks (zb_t (by unfold p_canf; first | (rw [if_neg (by omega), if_neg (by omega)]; exact decide_eq_false (by omega)) | (rw [if_neg (by omega), if_neg (by omega)]; exact decide_eq_true (by omega)) | (simp; omega) | (rw [if_neg (by omega)]; simp; omega) | (rw [if_pos (by omega)]) | (split <;> simp_all <;> omega) | (simp_all; omega))).symm (by first | exact Or.inl rfl | exact Or.inr rfl | exact zb_01 _ | omega) dX3_mayFollow_93
        · refine lv_iload_n hx hb dX3_mayFollow_62 rfl (lv_at hl 3 rfl) ?_
          refine lv_aload_n hx hb dX3_mayFollow_63 rfl (lv_at hl 1 rfl) ?_
          refine lv_iload_n hx hb dX3_mayFollow_64 rfl (lv_at hl 2 rfl) ?_
          refine lv_iload hx hb dX3_mayFollow_65 (lv_at hl 0 rfl) ?_
          refine lv_iconst (v := zi (1)) hx hb dX3_mayFollow_67 rfl ?_
          refine zz_isub hx hb dX3_mayFollow_68 ?_
          refine zz_topi (z := ((n - 1 : Nat) : Int)) (congrArg zi (by omega)) ?_
          refine rdV (As := [.int (zi ((j : Int))), .int (zi (((n - 1 : Nat) : Int)))]) (rest := [.int (zi (h))]) (n := 2) hx hb hml hown hg (c_X3_height l dC dI m0 a1 a2 a3 a4 a5 a6 a7 a8 a9 a10 a11 (tw) (ab) (be) mp mb ml mz cA j hh hs (n - 1) hj hhs (by omega)) (gwV wl_X3_63 wm_X3_height we_X3_height wi_X3 wc_X3_height) rfl rfl (by decide +kernel) ⟨Nat.le_of_ble_eq_true rfl, Nat.le_of_ble_eq_true rfl⟩ (hK.sub [0] rfl) (hP.sub [0, 2] rfl) 0 rfl rfl rfl rfl hl.1 rfl (Nat.le_of_ble_eq_true rfl) dX3_mayFollow_69 ⟨Nat.zero_le _, Nat.zero_le _⟩ ?_
          have hv_3 := hH (n - 1)
          refine zz_icmp_ne (tgt := 88) hx hb (by omega) (by omega) dX3_mayFollow_72 (by decide) (fun c_72 => ?_) (fun c_72 => ?_)
          · refine lv_iconst (v := zi (1)) hx hb dX3_mayFollow_88 rfl ?_
            refine lv_goto (tgt := 93) hx hb dX3_mayFollow_89 (by decide) ?_
            rw [hQQ]
            exact rd_z hx hb hr hlocks (zb_t (by unfold p_canf; first | (rw [if_neg (by omega), if_neg (by omega)]; exact decide_eq_false (by omega)) | (rw [if_neg (by omega), if_neg (by omega)]; exact decide_eq_true (by omega)) | (simp; omega) | (rw [if_neg (by omega)]; simp; omega) | (rw [if_pos (by omega)]) | (split <;> simp_all <;> omega) | (simp_all; omega))).symm (by first | exact Or.inl rfl | exact Or.inr rfl | exact zb_01 _ | omega) dX3_mayFollow_93
          · refine lv_iload_n hx hb dX3_mayFollow_75 rfl (lv_at hl 3 rfl) ?_
            refine lv_aload_n hx hb dX3_mayFollow_76 rfl (lv_at hl 1 rfl) ?_
            refine lv_iload_n hx hb dX3_mayFollow_77 rfl (lv_at hl 2 rfl) ?_
            refine lv_iload hx hb dX3_mayFollow_78 (lv_at hl 0 rfl) ?_
            refine lv_iconst (v := zi (2)) hx hb dX3_mayFollow_80 rfl ?_
            refine zz_isub hx hb dX3_mayFollow_81 ?_
            refine zz_topi (z := ((n - 2 : Nat) : Int)) (congrArg zi (by omega)) ?_
            refine rdV (As := [.int (zi ((j : Int))), .int (zi (((n - 2 : Nat) : Int)))]) (rest := [.int (zi (h))]) (n := 2) hx hb hml hown hg (c_X3_height l dC dI m0 a1 a2 a3 a4 a5 a6 a7 a8 a9 a10 a11 (tw) (ab) (be) mp mb ml mz cA j hh hs (n - 2) hj hhs (by omega)) (gwV wl_X3_63 wm_X3_height we_X3_height wi_X3 wc_X3_height) rfl rfl (by decide +kernel) ⟨Nat.le_of_ble_eq_true rfl, Nat.le_of_ble_eq_true rfl⟩ (hK.sub [0] rfl) (hP.sub [0, 2] rfl) 0 rfl rfl rfl rfl hl.1 rfl (Nat.le_of_ble_eq_true rfl) dX3_mayFollow_82 ⟨Nat.zero_le _, Nat.zero_le _⟩ ?_
            have hv_4 := hH (n - 2)
            refine zz_icmp_eq (tgt := 92) hx hb (by omega) (by omega) dX3_mayFollow_85 (by decide) (fun c_85 => ?_) (fun c_85 => ?_)
            · refine lv_iconst (v := zi (0)) hx hb dX3_mayFollow_92 rfl ?_
              rw [hQQ]
              exact rd_z hx hb hr hlocks (zb_f (by unfold p_canf; first | (rw [if_neg (by omega), if_neg (by omega)]; exact decide_eq_false (by omega)) | (rw [if_neg (by omega), if_neg (by omega)]; exact decide_eq_true (by omega)) | (simp; omega) | (rw [if_neg (by omega)]; simp; omega) | (rw [if_pos (by omega)]) | (split <;> simp_all <;> omega) | (simp_all; omega))).symm (by first | exact Or.inl rfl | exact Or.inr rfl | exact zb_01 _ | omega) dX3_mayFollow_93
            · refine lv_iconst (v := zi (1)) hx hb dX3_mayFollow_88 rfl ?_
              refine lv_goto (tgt := 93) hx hb dX3_mayFollow_89 (by decide) ?_
              rw [hQQ]
              exact rd_z hx hb hr hlocks (zb_t (by unfold p_canf; first | (rw [if_neg (by omega), if_neg (by omega)]; exact decide_eq_false (by omega)) | (rw [if_neg (by omega), if_neg (by omega)]; exact decide_eq_true (by omega)) | (simp; omega) | (rw [if_neg (by omega)]; simp; omega) | (rw [if_pos (by omega)]) | (split <;> simp_all <;> omega) | (simp_all; omega))).symm (by first | exact Or.inl rfl | exact Or.inr rfl | exact zb_01 _ | omega) dX3_mayFollow_93
      · refine lv_iload_n hx hb dX3_mayFollow_41 rfl (lv_at hl 4 rfl) ?_
        refine lv_aload_n hx hb dX3_mayFollow_42 rfl (lv_at hl 1 rfl) ?_
        refine lv_iload_n hx hb dX3_mayFollow_43 rfl (lv_at hl 2 rfl) ?_
        refine lv_iload hx hb dX3_mayFollow_44 (lv_at hl 0 rfl) ?_
        refine lv_iconst (v := zi (1)) hx hb dX3_mayFollow_46 rfl ?_
        refine zz_isub hx hb dX3_mayFollow_47 ?_
        refine zz_topi (z := ((n - 1 : Nat) : Int)) (congrArg zi (by omega)) ?_
        refine rdV (As := [.int (zi ((j : Int))), .int (zi (((n - 1 : Nat) : Int)))]) (rest := [.int (zi (r))]) (n := 2) hx hb hml hown hg (c_X3_radiusAt l dC dI m0 a1 a2 a3 a4 a5 a6 a7 a8 a9 a10 a11 (tw) (ab) (be) mp mb ml mz cA j rr rs (n - 1) hj hrs (by omega)) (gwV wl_X3_67 wm_X3_radiusAt we_X3_radiusAt wi_X3 wc_X3_radiusAt) rfl rfl (by decide +kernel) ⟨Nat.le_of_ble_eq_true rfl, Nat.le_of_ble_eq_true rfl⟩ (hK.sub [0] rfl) (hP.sub [0, 3] rfl) 0 rfl rfl rfl rfl hl.1 rfl (Nat.le_of_ble_eq_true rfl) dX3_mayFollow_48 ⟨Nat.zero_le _, Nat.zero_le _⟩ ?_
        have hv_5 := hR (n - 1)
        refine zz_icmp_ne (tgt := 56) hx hb (by omega) (by omega) dX3_mayFollow_51 (by decide) (fun c_51 => ?_) (fun c_51 => ?_)
        · refine lv_iload hx hb dX3_mayFollow_56 (lv_at hl 0 rfl) ?_
          refine lv_iconst (v := zi (2)) hx hb dX3_mayFollow_58 rfl ?_
          refine zz_icmp_lt (tgt := 88) hx hb (by omega) (by omega) dX3_mayFollow_59 (by decide) (fun c_59 => ?_) (fun c_59 => ?_)
          · refine lv_iconst (v := zi (1)) hx hb dX3_mayFollow_88 rfl ?_
            refine lv_goto (tgt := 93) hx hb dX3_mayFollow_89 (by decide) ?_
            rw [hQQ]
            exact rd_z hx hb hr hlocks (zb_t (by unfold p_canf; first | (rw [if_neg (by omega), if_neg (by omega)]; exact decide_eq_false (by omega)) | (rw [if_neg (by omega), if_neg (by omega)]; exact decide_eq_true (by omega)) | (simp; omega) | (rw [if_neg (by omega)]; simp; omega) | (rw [if_pos (by omega)]) | (split <;> simp_all <;> omega) | (simp_all; omega))).symm (by first | exact Or.inl rfl | exact Or.inr rfl | exact zb_01 _ | omega) dX3_mayFollow_93
          · refine lv_iload_n hx hb dX3_mayFollow_62 rfl (lv_at hl 3 rfl) ?_
            refine lv_aload_n hx hb dX3_mayFollow_63 rfl (lv_at hl 1 rfl) ?_
            refine lv_iload_n hx hb dX3_mayFollow_64 rfl (lv_at hl 2 rfl) ?_
            refine lv_iload hx hb dX3_mayFollow_65 (lv_at hl 0 rfl) ?_
            refine lv_iconst (v := zi (1)) hx hb dX3_mayFollow_67 rfl ?_
            refine zz_isub hx hb dX3_mayFollow_68 ?_
            refine zz_topi (z := ((n - 1 : Nat) : Int)) (congrArg zi (by omega)) ?_
            refine rdV (As := [.int (zi ((j : Int))), .int (zi (((n - 1 : Nat) : Int)))]) (rest := [.int (zi (h))]) (n := 2) hx hb hml hown hg (c_X3_height l dC dI m0 a1 a2 a3 a4 a5 a6 a7 a8 a9 a10 a11 (tw) (ab) (be) mp mb ml mz cA j hh hs (n - 1) hj hhs (by omega)) (gwV wl_X3_63 wm_X3_height we_X3_height wi_X3 wc_X3_height) rfl rfl (by decide +kernel) ⟨Nat.le_of_ble_eq_true rfl, Nat.le_of_ble_eq_true rfl⟩ (hK.sub [0] rfl) (hP.sub [0, 2] rfl) 0 rfl rfl rfl rfl hl.1 rfl (Nat.le_of_ble_eq_true rfl) dX3_mayFollow_69 ⟨Nat.zero_le _, Nat.zero_le _⟩ ?_
            have hv_6 := hH (n - 1)
            refine zz_icmp_ne (tgt := 88) hx hb (by omega) (by omega) dX3_mayFollow_72 (by decide) (fun c_72 => ?_) (fun c_72 => ?_)
            · refine lv_iconst (v := zi (1)) hx hb dX3_mayFollow_88 rfl ?_
              refine lv_goto (tgt := 93) hx hb dX3_mayFollow_89 (by decide) ?_
              rw [hQQ]
              exact rd_z hx hb hr hlocks (zb_t (by unfold p_canf; first | (rw [if_neg (by omega), if_neg (by omega)]; exact decide_eq_false (by omega)) | (rw [if_neg (by omega), if_neg (by omega)]; exact decide_eq_true (by omega)) | (simp; omega) | (rw [if_neg (by omega)]; simp; omega) | (rw [if_pos (by omega)]) | (split <;> simp_all <;> omega) | (simp_all; omega))).symm (by first | exact Or.inl rfl | exact Or.inr rfl | exact zb_01 _ | omega) dX3_mayFollow_93
            · refine lv_iload_n hx hb dX3_mayFollow_75 rfl (lv_at hl 3 rfl) ?_
              refine lv_aload_n hx hb dX3_mayFollow_76 rfl (lv_at hl 1 rfl) ?_
              refine lv_iload_n hx hb dX3_mayFollow_77 rfl (lv_at hl 2 rfl) ?_
              refine lv_iload hx hb dX3_mayFollow_78 (lv_at hl 0 rfl) ?_
              refine lv_iconst (v := zi (2)) hx hb dX3_mayFollow_80 rfl ?_
              refine zz_isub hx hb dX3_mayFollow_81 ?_
              refine zz_topi (z := ((n - 2 : Nat) : Int)) (congrArg zi (by omega)) ?_
              refine rdV (As := [.int (zi ((j : Int))), .int (zi (((n - 2 : Nat) : Int)))]) (rest := [.int (zi (h))]) (n := 2) hx hb hml hown hg (c_X3_height l dC dI m0 a1 a2 a3 a4 a5 a6 a7 a8 a9 a10 a11 (tw) (ab) (be) mp mb ml mz cA j hh hs (n - 2) hj hhs (by omega)) (gwV wl_X3_63 wm_X3_height we_X3_height wi_X3 wc_X3_height) rfl rfl (by decide +kernel) ⟨Nat.le_of_ble_eq_true rfl, Nat.le_of_ble_eq_true rfl⟩ (hK.sub [0] rfl) (hP.sub [0, 2] rfl) 0 rfl rfl rfl rfl hl.1 rfl (Nat.le_of_ble_eq_true rfl) dX3_mayFollow_82 ⟨Nat.zero_le _, Nat.zero_le _⟩ ?_
              have hv_7 := hH (n - 2)
              refine zz_icmp_eq (tgt := 92) hx hb (by omega) (by omega) dX3_mayFollow_85 (by decide) (fun c_85 => ?_) (fun c_85 => ?_)
              · refine lv_iconst (v := zi (0)) hx hb dX3_mayFollow_92 rfl ?_
                rw [hQQ]
                exact rd_z hx hb hr hlocks (zb_f (by unfold p_canf; first | (rw [if_neg (by omega), if_neg (by omega)]; exact decide_eq_false (by omega)) | (rw [if_neg (by omega), if_neg (by omega)]; exact decide_eq_true (by omega)) | (simp; omega) | (rw [if_neg (by omega)]; simp; omega) | (rw [if_pos (by omega)]) | (split <;> simp_all <;> omega) | (simp_all; omega))).symm (by first | exact Or.inl rfl | exact Or.inr rfl | exact zb_01 _ | omega) dX3_mayFollow_93
              · refine lv_iconst (v := zi (1)) hx hb dX3_mayFollow_88 rfl ?_
                refine lv_goto (tgt := 93) hx hb dX3_mayFollow_89 (by decide) ?_
                rw [hQQ]
                exact rd_z hx hb hr hlocks (zb_t (by unfold p_canf; first | (rw [if_neg (by omega), if_neg (by omega)]; exact decide_eq_false (by omega)) | (rw [if_neg (by omega), if_neg (by omega)]; exact decide_eq_true (by omega)) | (simp; omega) | (rw [if_neg (by omega)]; simp; omega) | (rw [if_pos (by omega)]) | (split <;> simp_all <;> omega) | (simp_all; omega))).symm (by first | exact Or.inl rfl | exact Or.inr rfl | exact zb_01 _ | omega) dX3_mayFollow_93
        · refine lv_iconst (v := zi (0)) hx hb dX3_mayFollow_54 rfl ?_
          rw [hQQ]
          exact rd_z hx hb hr hlocks (zb_f (by unfold p_canf; first | (rw [if_neg (by omega), if_neg (by omega)]; exact decide_eq_false (by omega)) | (rw [if_neg (by omega), if_neg (by omega)]; exact decide_eq_true (by omega)) | (simp; omega) | (rw [if_neg (by omega)]; simp; omega) | (rw [if_pos (by omega)]) | (split <;> simp_all <;> omega) | (simp_all; omega))).symm (by first | exact Or.inl rfl | exact Or.inr rfl | exact zb_01 _ | omega) dX3_mayFollow_55
  · refine lv_iconst (v := zi (1)) hx hb dX3_mayFollow_13 rfl ?_
    rw [hQQ]
    exact rd_z hx hb hr hlocks (zb_t (by unfold p_canf; first | (rw [if_neg (by omega), if_neg (by omega)]; exact decide_eq_false (by omega)) | (rw [if_neg (by omega), if_neg (by omega)]; exact decide_eq_true (by omega)) | (simp; omega) | (rw [if_neg (by omega)]; simp; omega) | (rw [if_pos (by omega)]) | (split <;> simp_all <;> omega) | (simp_all; omega))).symm (by first | exact Or.inl rfl | exact Or.inr rfl | exact zb_01 _ | omega) dX3_mayFollow_14

abbrev rm_X3_append : Room := { frames := 0, cells := 0, slots := 0, locals := 0 }
set_option maxHeartbeats 4000000 in
set_option maxRecDepth 100000 in
theorem c_X3_append (l : Launch) (dC : Nat → ClassId) (dI : Nat → Nat → Nat) (sz : Nat) (m0 a1 a2 a3 a4 a5 a6 a7 a8 a9 a10 a11 : Nat) (tw ab be : Int) (mp mb ml mz : Nat) (cA : ClassId) (j n : Nat) (sf hh rr : Nat → Int) (h r : Int) (hj : j < 6) (hsf : sf j = (n : Int)) (hn : n < 12) : Met l yX3_append (Cond.code yX3_append cX3_append 4 ((Option.none : Option Jvm.ClassFile.FieldType)) :: gw) rm_X3_append (PcW [.ref m0, .int (zi ((j : Int))), .int (zi (h)), .int (zi (r))] (dC, dI) vwCl [(m0, .inr (3, [.int (zi (tw)), .int (zi ((mp : Int))), .ref a1, .ref a2, .ref a3, .ref a4, .ref a5, .ref a6, .int (zi ((mb : Int))), .ref a7, .ref a8, .int (zi ((ml : Int))), .ref a9, .ref a10, .int (zi ((mz : Int))), .ref a11, .long (zl (ab)), .long (zl (be))])), (a1, .inl (cA, 6, .inl (zA (sf)))), (a2, .inl (cA, 72, .inl (zA (hh)))), (a3, .inl (cA, 72, .inl (zA (rr))))] [(cA, .int)] sz) (WrQ (none) (dC, dI) vwCl [(m0, .inr (3, [.int (zi (tw)), .int (zi ((mp : Int))), .ref a1, .ref a2, .ref a3, .ref a4, .ref a5, .ref a6, .int (zi ((mb : Int))), .ref a7, .ref a8, .int (zi ((ml : Int))), .ref a9, .ref a10, .int (zi ((mz : Int))), .ref a11, .long (zl (ab)), .long (zl (be))])), (a1, .inl (cA, 6, .inl (zA (zupd sf (j) (((n + 1 : Nat) : Int)))))), (a2, .inl (cA, 72, .inl (zA (zupd hh (12 * j + n) (h))))), (a3, .inl (cA, 72, .inl (zA (zupd rr (12 * j + n) (r)))))] (va_A [(m0, .inr (3, [.int (zi (tw)), .int (zi ((mp : Int))), .ref a1, .ref a2, .ref a3, .ref a4, .ref a5, .ref a6, .int (zi ((mb : Int))), .ref a7, .ref a8, .int (zi ((ml : Int))), .ref a9, .ref a10, .int (zi ((mz : Int))), .ref a11, .long (zl (ab)), .long (zl (be))])), (a1, .inl (cA, 6, .inl (zA (sf)))), (a2, .inl (cA, 72, .inl (zA (hh)))), (a3, .inl (cA, 72, .inl (zA (rr))))] sz)) 0 0 (va_A [(m0, .inr (3, [.int (zi (tw)), .int (zi ((mp : Int))), .ref a1, .ref a2, .ref a3, .ref a4, .ref a5, .ref a6, .int (zi ((mb : Int))), .ref a7, .ref a8, .int (zi ((ml : Int))), .ref a9, .ref a10, .int (zi ((mz : Int))), .ref a11, .long (zl (ab)), .long (zl (be))])), (a1, .inl (cA, 6, .inl (zA (sf)))), (a2, .inl (cA, 72, .inl (zA (hh)))), (a3, .inl (cA, 72, .inl (zA (rr))))] sz) := by
  refine Met.ofW (cc := cX3_append) (maxL := 4) (ret := ((Option.none : Option Jvm.ClassFile.FieldType))) (by decide) rfl ?_
  intro p e s m args below meth c s₁ B hml hv
  obtain ⟨hargs, hsz, hP, hK, hD0⟩ := hv
  have hx := B.exec
  have hb := B.bytes
  have hr := B.returns
  have hts := atoms_spec (ws := Cond.code yX3_append cX3_append 4 ((Option.none : Option Jvm.ClassFile.FieldType)) :: gw) B.pre
  have hg : ∀ w ∈ gw, w.before args s = true := fun w h => hts w (List.mem_cons_of_mem _ h)
  have hown : s.vm.findClass RX3 = some m.cls := findClass_of_methodNamed B.named
  have hlocks := B.notSynchronized
  subst hsz
  have hD := hD0.self (sz := s.heap.size)
  generalize hAe : va_A [(m0, .inr (3, [.int (zi (tw)), .int (zi ((mp : Int))), .ref a1, .ref a2, .ref a3, .ref a4, .ref a5, .ref a6, .int (zi ((mb : Int))), .ref a7, .ref a8, .int (zi ((ml : Int))), .ref a9, .ref a10, .int (zi ((mz : Int))), .ref a11, .long (zl (ab)), .long (zl (be))])), (a1, .inl (cA, 6, .inl (zA (sf)))), (a2, .inl (cA, 72, .inl (zA (hh)))), (a3, .inl (cA, 72, .inl (zA (rr))))] s.heap.size = A at hD ⊢
  have hA : ∀ q : Nat, s.heap.size ≤ q → A q := fun q h => by rw [← hAe]; exact Or.inr h
  show W p l e rm_X3_append s m args below meth c s.heap [] 0 0 _ _
  have hl := lv_entry ([.ref m0, .int (zi ((j : Int))), .int (zi (h)), .int (zi (r))]) (n := 4) (Nat.le_of_ble_eq_true rfl)
  rw [show entryFrame m args 4 = entryFrame m ([.ref m0, .int (zi ((j : Int))), .int (zi (h)), .int (zi (r))] : List Value).toArray 4 by rw [hargs], lg_entry_eq]
  generalize (lg_sl ([.ref m0, .int (zi ((j : Int))), .int (zi (h)), .int (zi (r))]) ++ List.replicate (4 - (lg_sl ([.ref m0, .int (zi ((j : Int))), .int (zi (h)), .int (zi (r))])).length) Slot.unset).toArray = ls at hl ⊢
  have hl : lv_has ls 4 [(0, .ref m0), (1, .int (zi ((j : Int)))), (2, .int (zi (h))), (3, .int (zi (r)))] := hl
  obtain ⟨QQ, hQQ⟩ : ∃ Q, Q = MQ below (WrQ (none) (dC, dI) vwCl [(m0, .inr (3, [.int (zi (tw)), .int (zi ((mp : Int))), .ref a1, .ref a2, .ref a3, .ref a4, .ref a5, .ref a6, .int (zi ((mb : Int))), .ref a7, .ref a8, .int (zi ((ml : Int))), .ref a9, .ref a10, .int (zi ((mz : Int))), .ref a11, .long (zl (ab)), .long (zl (be))])), (a1, .inl (cA, 6, .inl (zA (zupd sf (j) (((n + 1 : Nat) : Int)))))), (a2, .inl (cA, 72, .inl (zA (zupd hh (12 * j + n) (h))))), (a3, .inl (cA, 72, .inl (zA (zupd rr (12 * j + n) (r)))))] A) args s 0 0 A := ⟨_, rfl⟩
  rw [← hQQ]
  obtain ⟨H, hHe⟩ : ∃ H : Heap, H = s.heap := ⟨_, rfl⟩
  obtain ⟨locs, hlc⟩ : ∃ x : List Loc, x = [] := ⟨_, rfl⟩
  have hS : va_S A s.heap H locs := by rw [hHe, hlc]; exact va_S.rf
  have hP : va_P (dC, dI) vwCl [(m0, .inr (3, [.int (zi (tw)), .int (zi ((mp : Int))), .ref a1, .ref a2, .ref a3, .ref a4, .ref a5, .ref a6, .int (zi ((mb : Int))), .ref a7, .ref a8, .int (zi ((ml : Int))), .ref a9, .ref a10, .int (zi ((mz : Int))), .ref a11, .long (zl (ab)), .long (zl (be))])), (a1, .inl (cA, 6, .inl (zA (sf)))), (a2, .inl (cA, 72, .inl (zA (hh)))), (a3, .inl (cA, 72, .inl (zA (rr))))] H := by rw [hHe]; exact hP
  have hD : va_D A [(m0, .inr (3, [.int (zi (tw)), .int (zi ((mp : Int))), .ref a1, .ref a2, .ref a3, .ref a4, .ref a5, .ref a6, .int (zi ((mb : Int))), .ref a7, .ref a8, .int (zi ((ml : Int))), .ref a9, .ref a10, .int (zi ((mz : Int))), .ref a11, .long (zl (ab)), .long (zl (be))])), (a1, .inl (cA, 6, .inl (zA (sf)))), (a2, .inl (cA, 72, .inl (zA (hh)))), (a3, .inl (cA, 72, .inl (zA (rr))))] := hD
  rw [← hHe, ← hlc]
  refine lv_aload_n hx hb dX3_append_0 rfl (lv_at hl 0 rfl) ?_
  refine va_get (D := (dC, dI)) (ci := 3) (v := .ref a2) (C := RX3) (T := TX3) (N := 18) hx hb hg inX3 hown hK hP 0 rfl rfl 3 (by decide) (hg _ wl_X3_13) (fun _ h9 => h9) rfl dX3_append_1 ?_
  refine lv_bipush (v := zi (12)) hx hb dX3_append_4 (by decide) ?_
  refine lv_iload_n hx hb dX3_append_6 rfl (lv_at hl 1 rfl) ?_
  refine zz_imul hx hb dX3_append_7 ?_
  refine lv_aload_n hx hb dX3_append_8 rfl (lv_at hl 0 rfl) ?_
  refine va_get (D := (dC, dI)) (ci := 3) (v := .ref a1) (C := RX3) (T := TX3) (N := 18) hx hb hg inX3 hown hK hP 0 rfl rfl 2 (by decide) (hg _ wl_X3_7) (fun _ h9 => h9) rfl dX3_append_9 ?_
  refine lv_iload_n hx hb dX3_append_12 rfl (lv_at hl 1 rfl) ?_
  refine zz_iald hx hb hK hP 1 0 rfl rfl (j) (by omega) (by omega) (by decide) dX3_append_13 ?_
  refine zz_topi (z := (n : Int)) (congrArg zi hsf) ?_
  refine zz_iadd hx hb dX3_append_14 ?_
  refine lv_iload_n hx hb dX3_append_15 rfl (lv_at hl 2 rfl) ?_
  refine zz_iast hx hb hK hP hD hS 2 0 rfl rfl (12 * j + n) (by omega) (by omega) (by decide) dX3_append_16 (fun H locs hP hD hS => ?_)
  have hP : va_P (dC, dI) vwCl [(m0, .inr (3, [.int (zi (tw)), .int (zi ((mp : Int))), .ref a1, .ref a2, .ref a3, .ref a4, .ref a5, .ref a6, .int (zi ((mb : Int))), .ref a7, .ref a8, .int (zi ((ml : Int))), .ref a9, .ref a10, .int (zi ((mz : Int))), .ref a11, .long (zl (ab)), .long (zl (be))])), (a1, .inl (cA, 6, .inl (zA (sf)))), (a2, .inl (cA, 72, .inl (zA (zupd hh (12 * j + n) (h))))), (a3, .inl (cA, 72, .inl (zA (rr))))] H := hP
  have hD : va_D A [(m0, .inr (3, [.int (zi (tw)), .int (zi ((mp : Int))), .ref a1, .ref a2, .ref a3, .ref a4, .ref a5, .ref a6, .int (zi ((mb : Int))), .ref a7, .ref a8, .int (zi ((ml : Int))), .ref a9, .ref a10, .int (zi ((mz : Int))), .ref a11, .long (zl (ab)), .long (zl (be))])), (a1, .inl (cA, 6, .inl (zA (sf)))), (a2, .inl (cA, 72, .inl (zA (zupd hh (12 * j + n) (h))))), (a3, .inl (cA, 72, .inl (zA (rr))))] := hD
  refine lv_aload_n hx hb dX3_append_17 rfl (lv_at hl 0 rfl) ?_
  refine va_get (D := (dC, dI)) (ci := 3) (v := .ref a3) (C := RX3) (T := TX3) (N := 18) hx hb hg inX3 hown hK hP 0 rfl rfl 4 (by decide) (hg _ wl_X3_16) (fun _ h9 => h9) rfl dX3_append_18 ?_
  refine lv_bipush (v := zi (12)) hx hb dX3_append_21 (by decide) ?_
  refine lv_iload_n hx hb dX3_append_23 rfl (lv_at hl 1 rfl) ?_
  refine zz_imul hx hb dX3_append_24 ?_
  refine lv_aload_n hx hb dX3_append_25 rfl (lv_at hl 0 rfl) ?_
  refine va_get (D := (dC, dI)) (ci := 3) (v := .ref a1) (C := RX3) (T := TX3) (N := 18) hx hb hg inX3 hown hK hP 0 rfl rfl 2 (by decide) (hg _ wl_X3_7) (fun _ h9 => h9) rfl dX3_append_26 ?_
  refine lv_iload_n hx hb dX3_append_29 rfl (lv_at hl 1 rfl) ?_
  refine zz_iald hx hb hK hP 1 0 rfl rfl (j) (by omega) (by omega) (by decide) dX3_append_30 ?_
  refine zz_topi (z := (n : Int)) (congrArg zi hsf) ?_
  refine zz_iadd hx hb dX3_append_31 ?_
  refine lv_iload_n hx hb dX3_append_32 rfl (lv_at hl 3 rfl) ?_
  refine zz_iast hx hb hK hP hD hS 3 0 rfl rfl (12 * j + n) (by omega) (by omega) (by decide) dX3_append_33 (fun H locs hP hD hS => ?_)
  have hP : va_P (dC, dI) vwCl [(m0, .inr (3, [.int (zi (tw)), .int (zi ((mp : Int))), .ref a1, .ref a2, .ref a3, .ref a4, .ref a5, .ref a6, .int (zi ((mb : Int))), .ref a7, .ref a8, .int (zi ((ml : Int))), .ref a9, .ref a10, .int (zi ((mz : Int))), .ref a11, .long (zl (ab)), .long (zl (be))])), (a1, .inl (cA, 6, .inl (zA (sf)))), (a2, .inl (cA, 72, .inl (zA (zupd hh (12 * j + n) (h))))), (a3, .inl (cA, 72, .inl (zA (zupd rr (12 * j + n) (r)))))] H := hP
  have hD : va_D A [(m0, .inr (3, [.int (zi (tw)), .int (zi ((mp : Int))), .ref a1, .ref a2, .ref a3, .ref a4, .ref a5, .ref a6, .int (zi ((mb : Int))), .ref a7, .ref a8, .int (zi ((ml : Int))), .ref a9, .ref a10, .int (zi ((mz : Int))), .ref a11, .long (zl (ab)), .long (zl (be))])), (a1, .inl (cA, 6, .inl (zA (sf)))), (a2, .inl (cA, 72, .inl (zA (zupd hh (12 * j + n) (h))))), (a3, .inl (cA, 72, .inl (zA (zupd rr (12 * j + n) (r)))))] := hD
  refine lv_aload_n hx hb dX3_append_34 rfl (lv_at hl 0 rfl) ?_
  refine va_get (D := (dC, dI)) (ci := 3) (v := .ref a1) (C := RX3) (T := TX3) (N := 18) hx hb hg inX3 hown hK hP 0 rfl rfl 2 (by decide) (hg _ wl_X3_7) (fun _ h9 => h9) rfl dX3_append_35 ?_
  refine lv_iload_n hx hb dX3_append_38 rfl (lv_at hl 1 rfl) ?_
  refine lv_dup2_11 hx hb dX3_append_39 rfl rfl ?_
  refine zz_iald hx hb hK hP 1 0 rfl rfl (j) (by omega) (by omega) (by decide) dX3_append_40 ?_
  refine zz_topi (z := (n : Int)) (congrArg zi hsf) ?_
  refine lv_iconst (v := zi (1)) hx hb dX3_append_41 rfl ?_
  refine zz_iadd hx hb dX3_append_42 ?_
  refine zz_topi (z := ((n + 1 : Nat) : Int)) (congrArg zi (by push_cast; rfl)) ?_
  refine zz_iast hx hb hK hP hD hS 1 0 rfl rfl (j) (by omega) (by omega) (by decide) dX3_append_43 (fun H locs hP hD hS => ?_)
  have hP : va_P (dC, dI) vwCl [(m0, .inr (3, [.int (zi (tw)), .int (zi ((mp : Int))), .ref a1, .ref a2, .ref a3, .ref a4, .ref a5, .ref a6, .int (zi ((mb : Int))), .ref a7, .ref a8, .int (zi ((ml : Int))), .ref a9, .ref a10, .int (zi ((mz : Int))), .ref a11, .long (zl (ab)), .long (zl (be))])), (a1, .inl (cA, 6, .inl (zA (zupd sf (j) (((n + 1 : Nat) : Int)))))), (a2, .inl (cA, 72, .inl (zA (zupd hh (12 * j + n) (h))))), (a3, .inl (cA, 72, .inl (zA (zupd rr (12 * j + n) (r)))))] H := hP
  have hD : va_D A [(m0, .inr (3, [.int (zi (tw)), .int (zi ((mp : Int))), .ref a1, .ref a2, .ref a3, .ref a4, .ref a5, .ref a6, .int (zi ((mb : Int))), .ref a7, .ref a8, .int (zi ((ml : Int))), .ref a9, .ref a10, .int (zi ((mz : Int))), .ref a11, .long (zl (ab)), .long (zl (be))])), (a1, .inl (cA, 6, .inl (zA (zupd sf (j) (((n + 1 : Nat) : Int)))))), (a2, .inl (cA, 72, .inl (zA (zupd hh (12 * j + n) (h))))), (a3, .inl (cA, 72, .inl (zA (zupd rr (12 * j + n) (r)))))] := hD
  have hP9 : va_P (dC, dI) vwCl [(m0, .inr (3, [.int (zi (tw)), .int (zi ((mp : Int))), .ref a1, .ref a2, .ref a3, .ref a4, .ref a5, .ref a6, .int (zi ((mb : Int))), .ref a7, .ref a8, .int (zi ((ml : Int))), .ref a9, .ref a10, .int (zi ((mz : Int))), .ref a11, .long (zl (ab)), .long (zl (be))])), (a1, .inl (cA, 6, .inl (zA (zupd sf (j) (((n + 1 : Nat) : Int)))))), (a2, .inl (cA, 72, .inl (zA (zupd hh (12 * j + n) (h))))), (a3, .inl (cA, 72, .inl (zA (zupd rr (12 * j + n) (r)))))] H := hP
  rw [hQQ]
  exact wr_v hx hb hr hlocks hP9 hS dX3_append_44
