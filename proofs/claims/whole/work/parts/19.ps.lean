abbrev rm_X2_vesselsBySherds : Room := { frames := 1, cells := 0, slots := 0, locals := 23 }
set_option maxHeartbeats 4000000 in
set_option maxRecDepth 100000 in
theorem c_vesselsBySherds (l : Launch) (dC : Nat → ClassId) (dI : Nat → Nat → Nat) (sz : Nat) (x0 pa ba ax ay sp ss vs fr : Nat) (pn bn ln sn : Nat) (cA : ClassId) (spf ssf : Nat → Int) (v0 : Nat → Int) (q : Int) (hsn : sn ≤ 60) (hP9 : ∀ j, 0 ≤ spf j ∧ spf j ≤ 5) (hS9 : ∀ j, 0 ≤ ssf j ∧ ssf j ≤ 1000) (hV0 : ∀ j, 0 ≤ v0 j ∧ v0 j ≤ 1000) (hq : -2147483648 ≤ q ∧ q < 2147483648) : Met l yX2_vesselsBySherds (Cond.code yX2_vesselsBySherds cX2_vesselsBySherds 5 ((Option.some Jvm.ClassFile.FieldType.int)) :: gw) rm_X2_vesselsBySherds (PcW [.ref x0, .int (zi (q))] (dC, dI) vwCl [(x0, .inr (2, [.ref pa, .int (zi ((pn : Int))), .ref ba, .int (zi ((bn : Int))), .ref ax, .ref ay, .int (zi ((ln : Int))), .ref sp, .ref ss, .int (zi ((sn : Int))), .ref vs, .ref fr])), (sp, .inl (cA, 60, .inl (zA (spf)))), (ss, .inl (cA, 60, .inl (zA (ssf)))), (vs, .inl (cA, 60, .inl (zA (v0))))] [(cA, .int)] sz) (WrQ (some (.int (zi ((((s_ves spf ssf q v0 sn).1 : Nat)) : Int)))) (dC, dI) vwCl [(x0, .inr (2, [.ref pa, .int (zi ((pn : Int))), .ref ba, .int (zi ((bn : Int))), .ref ax, .ref ay, .int (zi ((ln : Int))), .ref sp, .ref ss, .int (zi ((sn : Int))), .ref vs, .ref fr])), (sp, .inl (cA, 60, .inl (zA (spf)))), (ss, .inl (cA, 60, .inl (zA (ssf)))), (vs, .inl (cA, 60, .inl (zA ((s_ves spf ssf q v0 sn).2))))] (va_A [(x0, .inr (2, [.ref pa, .int (zi ((pn : Int))), .ref ba, .int (zi ((bn : Int))), .ref ax, .ref ay, .int (zi ((ln : Int))), .ref sp, .ref ss, .int (zi ((sn : Int))), .ref vs, .ref fr])), (sp, .inl (cA, 60, .inl (zA (spf)))), (ss, .inl (cA, 60, .inl (zA (ssf)))), (vs, .inl (cA, 60, .inl (zA (v0))))] sz)) 0 0 (va_A [(x0, .inr (2, [.ref pa, .int (zi ((pn : Int))), .ref ba, .int (zi ((bn : Int))), .ref ax, .ref ay, .int (zi ((ln : Int))), .ref sp, .ref ss, .int (zi ((sn : Int))), .ref vs, .ref fr])), (sp, .inl (cA, 60, .inl (zA (spf)))), (ss, .inl (cA, 60, .inl (zA (ssf)))), (vs, .inl (cA, 60, .inl (zA (v0))))] sz) := by
  refine Met.ofW (cc := cX2_vesselsBySherds) (maxL := 5) (ret := ((Option.some Jvm.ClassFile.FieldType.int))) (by decide) rfl ?_
  intro p e s m args below meth c s₁ B hml hv
  obtain ⟨hargs, hsz, hP, hK, hD0⟩ := hv
  have hx := B.exec
  have hb := B.bytes
  have hr := B.returns
  have hts := atoms_spec (ws := Cond.code yX2_vesselsBySherds cX2_vesselsBySherds 5 ((Option.some Jvm.ClassFile.FieldType.int)) :: gw) B.pre
  have hg : ∀ w ∈ gw, w.before args s = true := fun w h => hts w (List.mem_cons_of_mem _ h)
  have hown : s.vm.findClass RX2 = some m.cls := findClass_of_methodNamed B.named
  have hlocks := B.notSynchronized
  subst hsz
  have hD := hD0.self (sz := s.heap.size)
  generalize hAe : va_A [(x0, .inr (2, [.ref pa, .int (zi ((pn : Int))), .ref ba, .int (zi ((bn : Int))), .ref ax, .ref ay, .int (zi ((ln : Int))), .ref sp, .ref ss, .int (zi ((sn : Int))), .ref vs, .ref fr])), (sp, .inl (cA, 60, .inl (zA (spf)))), (ss, .inl (cA, 60, .inl (zA (ssf)))), (vs, .inl (cA, 60, .inl (zA (v0))))] s.heap.size = A at hD ⊢
  have hA : ∀ q : Nat, s.heap.size ≤ q → A q := fun q h => by rw [← hAe]; exact Or.inr h
  show W p l e rm_X2_vesselsBySherds s m args below meth c s.heap [] 0 0 _ _
  have hl := lv_entry ([.ref x0, .int (zi (q))]) (n := 5) (Nat.le_of_ble_eq_true rfl)
  rw [show entryFrame m args 5 = entryFrame m ([.ref x0, .int (zi (q))] : List Value).toArray 5 by rw [hargs], lg_entry_eq]
  generalize (lg_sl ([.ref x0, .int (zi (q))]) ++ List.replicate (5 - (lg_sl ([.ref x0, .int (zi (q))])).length) Slot.unset).toArray = ls at hl ⊢
  have hl : lv_has ls 5 [(0, .ref x0), (1, .int (zi (q)))] := hl
  obtain ⟨QQ, hQQ⟩ : ∃ Q, Q = MQ below (WrQ (some (.int (zi ((((s_ves spf ssf q v0 sn).1 : Nat)) : Int)))) (dC, dI) vwCl [(x0, .inr (2, [.ref pa, .int (zi ((pn : Int))), .ref ba, .int (zi ((bn : Int))), .ref ax, .ref ay, .int (zi ((ln : Int))), .ref sp, .ref ss, .int (zi ((sn : Int))), .ref vs, .ref fr])), (sp, .inl (cA, 60, .inl (zA (spf)))), (ss, .inl (cA, 60, .inl (zA (ssf)))), (vs, .inl (cA, 60, .inl (zA ((s_ves spf ssf q v0 sn).2))))] A) args s 0 0 A := ⟨_, rfl⟩
  rw [← hQQ]
  obtain ⟨H, hHe⟩ : ∃ H : Heap, H = s.heap := ⟨_, rfl⟩
  obtain ⟨locs, hlc⟩ : ∃ x : List Loc, x = [] := ⟨_, rfl⟩
  have hS : va_S A s.heap H locs := by rw [hHe, hlc]; exact va_S.rf
  have hP : va_P (dC, dI) vwCl [(x0, .inr (2, [.ref pa, .int (zi ((pn : Int))), .ref ba, .int (zi ((bn : Int))), .ref ax, .ref ay, .int (zi ((ln : Int))), .ref sp, .ref ss, .int (zi ((sn : Int))), .ref vs, .ref fr])), (sp, .inl (cA, 60, .inl (zA (spf)))), (ss, .inl (cA, 60, .inl (zA (ssf)))), (vs, .inl (cA, 60, .inl (zA (v0))))] H := by rw [hHe]; exact hP
  have hD : va_D A [(x0, .inr (2, [.ref pa, .int (zi ((pn : Int))), .ref ba, .int (zi ((bn : Int))), .ref ax, .ref ay, .int (zi ((ln : Int))), .ref sp, .ref ss, .int (zi ((sn : Int))), .ref vs, .ref fr])), (sp, .inl (cA, 60, .inl (zA (spf)))), (ss, .inl (cA, 60, .inl (zA (ssf)))), (vs, .inl (cA, 60, .inl (zA (v0))))] := hD
  rw [← hHe, ← hlc]
  refine lv_iconst (v := zi (0)) hx hb dX2_vesselsBySherds_0 rfl ?_
  refine lv_istore_n (lv' := [(2, .int (zi (0))), (0, .ref x0), (1, .int (zi (q)))]) hx hb dX2_vesselsBySherds_1 rfl hl (by decide) rfl (fun ls hl => ?_)
  refine lv_iconst (v := zi (0)) hx hb dX2_vesselsBySherds_2 rfl ?_
  refine lv_istore_n (lv' := [(3, .int (zi (0))), (2, .int (zi (0))), (0, .ref x0), (1, .int (zi (q)))]) hx hb dX2_vesselsBySherds_3 rfl hl (by decide) rfl (fun ls hl => ?_)
  have key_4 : ∀ (n_ : Nat) (t : Nat), t ≤ sn → sn - t < n_ → ∀ (H : Heap) (locs : List Loc), va_P (dC, dI) vwCl [(x0, .inr (2, [.ref pa, .int (zi ((pn : Int))), .ref ba, .int (zi ((bn : Int))), .ref ax, .ref ay, .int (zi ((ln : Int))), .ref sp, .ref ss, .int (zi ((sn : Int))), .ref vs, .ref fr])), (sp, .inl (cA, 60, .inl (zA (spf)))), (ss, .inl (cA, 60, .inl (zA (ssf)))), (vs, .inl (cA, 60, .inl (zA ((s_ves spf ssf q v0 t).2))))] H → va_D A [(x0, .inr (2, [.ref pa, .int (zi ((pn : Int))), .ref ba, .int (zi ((bn : Int))), .ref ax, .ref ay, .int (zi ((ln : Int))), .ref sp, .ref ss, .int (zi ((sn : Int))), .ref vs, .ref fr])), (sp, .inl (cA, 60, .inl (zA (spf)))), (ss, .inl (cA, 60, .inl (zA (ssf)))), (vs, .inl (cA, 60, .inl (zA ((s_ves spf ssf q v0 t).2))))] → va_S A s.heap H locs → ∀ (ls : Array Slot), lv_has ls 5 [(3, .int (zi ((t : Int)))), (2, .int (zi ((((s_ves spf ssf q v0 t).1 : Nat) : Int)))), (1, .int (zi (q))), (0, .ref x0)] → W p l e rm_X2_vesselsBySherds s m args below meth c H locs 0 0 QQ (F0 m 4 ls []) := by
    intro n_
    induction n_ with
    | zero => intro t ht hm_; exact absurd hm_ (Nat.not_lt_zero _)
    | succ n_ ih =>
      intro t ht hm_ H locs hP hD hS ls hl
      refine lv_iload_n hx hb dX2_vesselsBySherds_4 rfl (lv_at hl 0 rfl) ?_
      have hvb := s_ves_bd (pf := spf) (sf := ssf) (p := q) hV0 hS9 t
      have hfl := s_first_le ((s_ves spf ssf q v0 t).2) (ssf t) ((s_ves spf ssf q v0 t).1) 0
      refine lv_aload_n hx hb dX2_vesselsBySherds_5 rfl (lv_at hl 3 rfl) ?_
      refine va_get (D := (dC, dI)) (ci := 2) (v := .int (zi ((sn : Int)))) (C := RX2) (T := TX2) (N := 12) hx hb hg inX2 hown hK hP 0 rfl rfl 9 (by decide) (hg _ wl_X2_173) (fun _ h9 => h9) rfl dX2_vesselsBySherds_6 ?_
      refine zz_icmp_ge (tgt := 77) hx hb (by omega) (by omega) dX2_vesselsBySherds_9 (by decide) (fun c_9 => ?_) (fun c_9 => ?_)
      · refine lv_iload_n hx hb dX2_vesselsBySherds_77 rfl (lv_at hl 1 rfl) ?_
        have hts9 : t = sn := by omega
        have hP9 : va_P (dC, dI) vwCl [(x0, .inr (2, [.ref pa, .int (zi ((pn : Int))), .ref ba, .int (zi ((bn : Int))), .ref ax, .ref ay, .int (zi ((ln : Int))), .ref sp, .ref ss, .int (zi ((sn : Int))), .ref vs, .ref fr])), (sp, .inl (cA, 60, .inl (zA (spf)))), (ss, .inl (cA, 60, .inl (zA (ssf)))), (vs, .inl (cA, 60, .inl (zA ((s_ves spf ssf q v0 sn).2))))] H := by rw [← hts9]; rw [← hts9] at hP; exact hP
        rw [hQQ]
        exact wr_i hx hb hr hlocks (by rw [hts9]) hP9 hS dX2_vesselsBySherds_78
      · refine lv_aload_n hx hb dX2_vesselsBySherds_12 rfl (lv_at hl 3 rfl) ?_
        refine va_get (D := (dC, dI)) (ci := 2) (v := .ref sp) (C := RX2) (T := TX2) (N := 12) hx hb hg inX2 hown hK hP 0 rfl rfl 7 (by decide) (hg _ wl_X2_25) (fun _ h9 => h9) rfl dX2_vesselsBySherds_13 ?_
        refine lv_iload_n hx hb dX2_vesselsBySherds_16 rfl (lv_at hl 0 rfl) ?_
        refine zz_iald hx hb hK hP 1 0 rfl rfl (t) (by omega) (by omega) (by decide) dX2_vesselsBySherds_17 ?_
        have hv_1 := hP9 (t)
        refine lv_iload_n hx hb dX2_vesselsBySherds_18 rfl (lv_at hl 2 rfl) ?_
        refine zz_icmp_eq (tgt := 25) hx hb (by omega) (by omega) dX2_vesselsBySherds_19 (by decide) (fun c_19 => ?_) (fun c_19 => ?_)
        · refine lv_aload_n hx hb dX2_vesselsBySherds_25 rfl (lv_at hl 3 rfl) ?_
          refine lv_iload_n hx hb dX2_vesselsBySherds_26 rfl (lv_at hl 1 rfl) ?_
          refine lv_aload_n hx hb dX2_vesselsBySherds_27 rfl (lv_at hl 3 rfl) ?_
          refine va_get (D := (dC, dI)) (ci := 2) (v := .ref ss) (C := RX2) (T := TX2) (N := 12) hx hb hg inX2 hown hK hP 0 rfl rfl 8 (by decide) (hg _ wl_X2_28) (fun _ h9 => h9) rfl dX2_vesselsBySherds_28 ?_
          refine lv_iload_n hx hb dX2_vesselsBySherds_31 rfl (lv_at hl 0 rfl) ?_
          refine zz_iald hx hb hK hP 2 0 rfl rfl (t) (by omega) (by omega) (by decide) dX2_vesselsBySherds_32 ?_
          have hv_2 := hS9 (t)
          refine rdV (As := [.int (zi ((((s_ves spf ssf q v0 t).1 : Nat) : Int))), .int (zi (ssf (t)))]) (rest := []) (n := 2) hx hb hml hown hg (c_firstWithRoom l dC dI x0 pa ba ax ay sp ss vs fr pn bn ln sn cA ((s_ves spf ssf q v0 t).2) ((s_ves spf ssf q v0 t).1) (ssf t) (by omega) hvb.2 (by omega)) (gwV wl_X2_205 wm_X2_firstWithRoom we_X2_firstWithRoom wi_X2 wc_X2_firstWithRoom) rfl rfl (by decide +kernel) ⟨Nat.le_of_ble_eq_true rfl, Nat.le_of_ble_eq_true rfl⟩ (hK.sub [0] rfl) (hP.sub [0, 3] rfl) 0 rfl rfl rfl rfl hl.1 rfl (Nat.le_of_ble_eq_true rfl) dX2_vesselsBySherds_33 ⟨Nat.zero_le _, Nat.zero_le _⟩ ?_
          refine lv_istore (lv' := [(4, .int (zi ((((s_first (s_ves spf ssf q v0 t).2 (ssf t) (s_ves spf ssf q v0 t).1 0) : Nat) : Int)))), (3, .int (zi ((t : Int)))), (2, .int (zi ((((s_ves spf ssf q v0 t).1 : Nat) : Int)))), (1, .int (zi (q))), (0, .ref x0)]) hx hb dX2_vesselsBySherds_36 hl (by decide) rfl (fun ls hl => ?_)
          refine lv_iload hx hb dX2_vesselsBySherds_38 (lv_at hl 0 rfl) ?_
          refine lv_iload_n hx hb dX2_vesselsBySherds_40 rfl (lv_at hl 2 rfl) ?_
          refine zz_icmp_ne (tgt := 55) hx hb (by omega) (by omega) dX2_vesselsBySherds_41 (by decide) (fun c_41 => ?_) (fun c_41 => ?_)
          · have hcn : ¬ (s_first (s_ves spf ssf q v0 t).2 (ssf t) (s_ves spf ssf q v0 t).1 0) = (s_ves spf ssf q v0 t).1 := by omega
            refine lv_aload_n hx hb dX2_vesselsBySherds_55 rfl (lv_at hl 4 rfl) ?_
            refine va_get (D := (dC, dI)) (ci := 2) (v := .ref vs) (C := RX2) (T := TX2) (N := 12) hx hb hg inX2 hown hK hP 0 rfl rfl 10 (by decide) (hg _ wl_X2_31) (fun _ h9 => h9) rfl dX2_vesselsBySherds_56 ?_
            refine lv_iload hx hb dX2_vesselsBySherds_59 (lv_at hl 0 rfl) ?_
            refine lv_dup2_11 hx hb dX2_vesselsBySherds_61 rfl rfl ?_
            refine zz_iald hx hb hK hP 3 0 rfl rfl ((s_first (s_ves spf ssf q v0 t).2 (ssf t) (s_ves spf ssf q v0 t).1 0)) (by omega) (by omega) (by decide) dX2_vesselsBySherds_62 ?_
            refine lv_aload_n hx hb dX2_vesselsBySherds_63 rfl (lv_at hl 4 rfl) ?_
            refine va_get (D := (dC, dI)) (ci := 2) (v := .ref ss) (C := RX2) (T := TX2) (N := 12) hx hb hg inX2 hown hK hP 0 rfl rfl 8 (by decide) (hg _ wl_X2_28) (fun _ h9 => h9) rfl dX2_vesselsBySherds_64 ?_
            refine lv_iload_n hx hb dX2_vesselsBySherds_67 rfl (lv_at hl 1 rfl) ?_
            refine zz_iald hx hb hK hP 2 0 rfl rfl (t) (by omega) (by omega) (by decide) dX2_vesselsBySherds_68 ?_
            have hv_3 := hS9 (t)
            refine zz_iadd hx hb dX2_vesselsBySherds_69 ?_
            refine zz_iast hx hb hK hP hD hS 3 0 rfl rfl ((s_first (s_ves spf ssf q v0 t).2 (ssf t) (s_ves spf ssf q v0 t).1 0)) (by omega) (by omega) (by decide) dX2_vesselsBySherds_70 (fun H locs hP hD hS => ?_)
            have hP : va_P (dC, dI) vwCl [(x0, .inr (2, [.ref pa, .int (zi ((pn : Int))), .ref ba, .int (zi ((bn : Int))), .ref ax, .ref ay, .int (zi ((ln : Int))), .ref sp, .ref ss, .int (zi ((sn : Int))), .ref vs, .ref fr])), (sp, .inl (cA, 60, .inl (zA (spf)))), (ss, .inl (cA, 60, .inl (zA (ssf)))), (vs, .inl (cA, 60, .inl (zA (zupd ((s_ves spf ssf q v0 t).2) ((s_first (s_ves spf ssf q v0 t).2 (ssf t) (s_ves spf ssf q v0 t).1 0)) ((((s_ves spf ssf q v0 t).2) ((s_first (s_ves spf ssf q v0 t).2 (ssf t) (s_ves spf ssf q v0 t).1 0))) + (ssf (t)))))))] H := hP
            have hD : va_D A [(x0, .inr (2, [.ref pa, .int (zi ((pn : Int))), .ref ba, .int (zi ((bn : Int))), .ref ax, .ref ay, .int (zi ((ln : Int))), .ref sp, .ref ss, .int (zi ((sn : Int))), .ref vs, .ref fr])), (sp, .inl (cA, 60, .inl (zA (spf)))), (ss, .inl (cA, 60, .inl (zA (ssf)))), (vs, .inl (cA, 60, .inl (zA (zupd ((s_ves spf ssf q v0 t).2) ((s_first (s_ves spf ssf q v0 t).2 (ssf t) (s_ves spf ssf q v0 t).1 0)) ((((s_ves spf ssf q v0 t).2) ((s_first (s_ves spf ssf q v0 t).2 (ssf t) (s_ves spf ssf q v0 t).1 0))) + (ssf (t)))))))] := hD
            refine lv_iinc (v := zi (((t : Int)) + (1))) (lv' := [(3, .int (zi (((t : Int)) + (1)))), (4, .int (zi ((((s_first (s_ves spf ssf q v0 t).2 (ssf t) (s_ves spf ssf q v0 t).1 0) : Nat) : Int)))), (2, .int (zi ((((s_ves spf ssf q v0 t).1 : Nat) : Int)))), (1, .int (zi (q))), (0, .ref x0)]) hx hb dX2_vesselsBySherds_71 hl (k := 1) rfl (zi_add _ _) (by decide) rfl (fun ls hl => ?_)
            refine lv_goto (tgt := 4) hx hb dX2_vesselsBySherds_74 (by decide) ?_
            have hst : s_ves spf ssf q v0 (t + 1) = s_lay ((s_ves spf ssf q v0 t).1) ((s_ves spf ssf q v0 t).2) (ssf t) := by rw [s_ves, if_pos c_19]
            have hl9 : s_lay ((s_ves spf ssf q v0 t).1) ((s_ves spf ssf q v0 t).2) (ssf t) = ((s_ves spf ssf q v0 t).1, zupd ((s_ves spf ssf q v0 t).2) ((s_first (s_ves spf ssf q v0 t).2 (ssf t) (s_ves spf ssf q v0 t).1 0)) ((((s_ves spf ssf q v0 t).2) ((s_first (s_ves spf ssf q v0 t).2 (ssf t) (s_ves spf ssf q v0 t).1 0))) + (ssf (t)))) := by unfold s_lay; rw [if_neg hcn]
            rw [hl9] at hst
            have hP : va_P (dC, dI) vwCl [(x0, .inr (2, [.ref pa, .int (zi ((pn : Int))), .ref ba, .int (zi ((bn : Int))), .ref ax, .ref ay, .int (zi ((ln : Int))), .ref sp, .ref ss, .int (zi ((sn : Int))), .ref vs, .ref fr])), (sp, .inl (cA, 60, .inl (zA (spf)))), (ss, .inl (cA, 60, .inl (zA (ssf)))), (vs, .inl (cA, 60, .inl (zA ((s_ves spf ssf q v0 (t + 1)).2))))] H := by rw [hst]; exact hP
            have hD : va_D A [(x0, .inr (2, [.ref pa, .int (zi ((pn : Int))), .ref ba, .int (zi ((bn : Int))), .ref ax, .ref ay, .int (zi ((ln : Int))), .ref sp, .ref ss, .int (zi ((sn : Int))), .ref vs, .ref fr])), (sp, .inl (cA, 60, .inl (zA (spf)))), (ss, .inl (cA, 60, .inl (zA (ssf)))), (vs, .inl (cA, 60, .inl (zA ((s_ves spf ssf q v0 (t + 1)).2))))] := by rw [hst]; exact hD
            have hl : lv_has ls 5 [(3, .int (zi (((t + 1 : Nat) : Int)))), (2, .int (zi ((((s_ves spf ssf q v0 (t + 1)).1 : Nat) : Int)))), (1, .int (zi (q))), (0, .ref x0)] := by rw [hst]; exact lv_sub hl [0, 2, 3, 4] rfl
            exact ih (t + 1) (by omega) (by omega) H locs hP hD hS ls hl
          · have hcn : (s_first (s_ves spf ssf q v0 t).2 (ssf t) (s_ves spf ssf q v0 t).1 0) = (s_ves spf ssf q v0 t).1 := by omega
            refine lv_aload_n hx hb dX2_vesselsBySherds_44 rfl (lv_at hl 4 rfl) ?_
            refine va_get (D := (dC, dI)) (ci := 2) (v := .ref vs) (C := RX2) (T := TX2) (N := 12) hx hb hg inX2 hown hK hP 0 rfl rfl 10 (by decide) (hg _ wl_X2_31) (fun _ h9 => h9) rfl dX2_vesselsBySherds_45 ?_
            refine lv_iload hx hb dX2_vesselsBySherds_48 (lv_at hl 0 rfl) ?_
            refine lv_iconst (v := zi (0)) hx hb dX2_vesselsBySherds_50 rfl ?_
            refine zz_iast hx hb hK hP hD hS 3 0 rfl rfl ((s_first (s_ves spf ssf q v0 t).2 (ssf t) (s_ves spf ssf q v0 t).1 0)) (by omega) (by omega) (by decide) dX2_vesselsBySherds_51 (fun H locs hP hD hS => ?_)
            have hP : va_P (dC, dI) vwCl [(x0, .inr (2, [.ref pa, .int (zi ((pn : Int))), .ref ba, .int (zi ((bn : Int))), .ref ax, .ref ay, .int (zi ((ln : Int))), .ref sp, .ref ss, .int (zi ((sn : Int))), .ref vs, .ref fr])), (sp, .inl (cA, 60, .inl (zA (spf)))), (ss, .inl (cA, 60, .inl (zA (ssf)))), (vs, .inl (cA, 60, .inl (zA (zupd ((s_ves spf ssf q v0 t).2) ((s_first (s_ves spf ssf q v0 t).2 (ssf t) (s_ves spf ssf q v0 t).1 0)) (0)))))] H := hP
            have hD : va_D A [(x0, .inr (2, [.ref pa, .int (zi ((pn : Int))), .ref ba, .int (zi ((bn : Int))), .ref ax, .ref ay, .int (zi ((ln : Int))), .ref sp, .ref ss, .int (zi ((sn : Int))), .ref vs, .ref fr])), (sp, .inl (cA, 60, .inl (zA (spf)))), (ss, .inl (cA, 60, .inl (zA (ssf)))), (vs, .inl (cA, 60, .inl (zA (zupd ((s_ves spf ssf q v0 t).2) ((s_first (s_ves spf ssf q v0 t).2 (ssf t) (s_ves spf ssf q v0 t).1 0)) (0)))))] := hD
            refine lv_iinc (v := zi (((((s_ves spf ssf q v0 t).1 : Nat) : Int)) + (1))) (lv' := [(2, .int (zi (((((s_ves spf ssf q v0 t).1 : Nat) : Int)) + (1)))), (4, .int (zi ((((s_first (s_ves spf ssf q v0 t).2 (ssf t) (s_ves spf ssf q v0 t).1 0) : Nat) : Int)))), (3, .int (zi ((t : Int)))), (1, .int (zi (q))), (0, .ref x0)]) hx hb dX2_vesselsBySherds_52 hl (k := 2) rfl (zi_add _ _) (by decide) rfl (fun ls hl => ?_)
            refine lv_aload_n hx hb dX2_vesselsBySherds_55 rfl (lv_at hl 4 rfl) ?_
            refine va_get (D := (dC, dI)) (ci := 2) (v := .ref vs) (C := RX2) (T := TX2) (N := 12) hx hb hg inX2 hown hK hP 0 rfl rfl 10 (by decide) (hg _ wl_X2_31) (fun _ h9 => h9) rfl dX2_vesselsBySherds_56 ?_
            refine lv_iload hx hb dX2_vesselsBySherds_59 (lv_at hl 1 rfl) ?_
            refine lv_dup2_11 hx hb dX2_vesselsBySherds_61 rfl rfl ?_
            refine zz_iald hx hb hK hP 3 0 rfl rfl ((s_first (s_ves spf ssf q v0 t).2 (ssf t) (s_ves spf ssf q v0 t).1 0)) (by omega) (by omega) (by decide) dX2_vesselsBySherds_62 ?_
            refine lv_aload_n hx hb dX2_vesselsBySherds_63 rfl (lv_at hl 4 rfl) ?_
            refine va_get (D := (dC, dI)) (ci := 2) (v := .ref ss) (C := RX2) (T := TX2) (N := 12) hx hb hg inX2 hown hK hP 0 rfl rfl 8 (by decide) (hg _ wl_X2_28) (fun _ h9 => h9) rfl dX2_vesselsBySherds_64 ?_
            refine lv_iload_n hx hb dX2_vesselsBySherds_67 rfl (lv_at hl 2 rfl) ?_
            refine zz_iald hx hb hK hP 2 0 rfl rfl (t) (by omega) (by omega) (by decide) dX2_vesselsBySherds_68 ?_
            have hv_4 := hS9 (t)
            refine zz_iadd hx hb dX2_vesselsBySherds_69 ?_
            refine zz_iast hx hb hK hP hD hS 3 0 rfl rfl ((s_first (s_ves spf ssf q v0 t).2 (ssf t) (s_ves spf ssf q v0 t).1 0)) (by omega) (by omega) (by decide) dX2_vesselsBySherds_70 (fun H locs hP hD hS => ?_)
            have hP : va_P (dC, dI) vwCl [(x0, .inr (2, [.ref pa, .int (zi ((pn : Int))), .ref ba, .int (zi ((bn : Int))), .ref ax, .ref ay, .int (zi ((ln : Int))), .ref sp, .ref ss, .int (zi ((sn : Int))), .ref vs, .ref fr])), (sp, .inl (cA, 60, .inl (zA (spf)))), (ss, .inl (cA, 60, .inl (zA (ssf)))), (vs, .inl (cA, 60, .inl (zA (zupd (zupd ((s_ves spf ssf q v0 t).2) ((s_first (s_ves spf ssf q v0 t).2 (ssf t) (s_ves spf ssf q v0 t).1 0)) (0)) ((s_first (s_ves spf ssf q v0 t).2 (ssf t) (s_ves spf ssf q v0 t).1 0)) (((zupd ((s_ves spf ssf q v0 t).2) ((s_first (s_ves spf ssf q v0 t).2 (ssf t) (s_ves spf ssf q v0 t).1 0)) (0)) ((s_first (s_ves spf ssf q v0 t).2 (ssf t) (s_ves spf ssf q v0 t).1 0))) + (ssf (t)))))))] H := hP
            have hD : va_D A [(x0, .inr (2, [.ref pa, .int (zi ((pn : Int))), .ref ba, .int (zi ((bn : Int))), .ref ax, .ref ay, .int (zi ((ln : Int))), .ref sp, .ref ss, .int (zi ((sn : Int))), .ref vs, .ref fr])), (sp, .inl (cA, 60, .inl (zA (spf)))), (ss, .inl (cA, 60, .inl (zA (ssf)))), (vs, .inl (cA, 60, .inl (zA (zupd (zupd ((s_ves spf ssf q v0 t).2) ((s_first (s_ves spf ssf q v0 t).2 (ssf t) (s_ves spf ssf q v0 t).1 0)) (0)) ((s_first (s_ves spf ssf q v0 t).2 (ssf t) (s_ves spf ssf q v0 t).1 0)) (((zupd ((s_ves spf ssf q v0 t).2) ((s_first (s_ves spf ssf q v0 t).2 (ssf t) (s_ves spf ssf q v0 t).1 0)) (0)) ((s_first (s_ves spf ssf q v0 t).2 (ssf t) (s_ves spf ssf q v0 t).1 0))) + (ssf (t)))))))] := hD
            refine lv_iinc (v := zi (((t : Int)) + (1))) (lv' := [(3, .int (zi (((t : Int)) + (1)))), (2, .int (zi (((((s_ves spf ssf q v0 t).1 : Nat) : Int)) + (1)))), (4, .int (zi ((((s_first (s_ves spf ssf q v0 t).2 (ssf t) (s_ves spf ssf q v0 t).1 0) : Nat) : Int)))), (1, .int (zi (q))), (0, .ref x0)]) hx hb dX2_vesselsBySherds_71 hl (k := 2) rfl (zi_add _ _) (by decide) rfl (fun ls hl => ?_)
            refine lv_goto (tgt := 4) hx hb dX2_vesselsBySherds_74 (by decide) ?_
            have hst : s_ves spf ssf q v0 (t + 1) = s_lay ((s_ves spf ssf q v0 t).1) ((s_ves spf ssf q v0 t).2) (ssf t) := by rw [s_ves, if_pos c_19]
            have hl9 : s_lay ((s_ves spf ssf q v0 t).1) ((s_ves spf ssf q v0 t).2) (ssf t) = ((s_ves spf ssf q v0 t).1 + 1, zupd (zupd ((s_ves spf ssf q v0 t).2) ((s_first (s_ves spf ssf q v0 t).2 (ssf t) (s_ves spf ssf q v0 t).1 0)) (0)) ((s_first (s_ves spf ssf q v0 t).2 (ssf t) (s_ves spf ssf q v0 t).1 0)) (((zupd ((s_ves spf ssf q v0 t).2) ((s_first (s_ves spf ssf q v0 t).2 (ssf t) (s_ves spf ssf q v0 t).1 0)) (0)) ((s_first (s_ves spf ssf q v0 t).2 (ssf t) (s_ves spf ssf q v0 t).1 0))) + (ssf (t)))) := by unfold s_lay; rw [if_pos hcn]
            rw [hl9] at hst
            have hP : va_P (dC, dI) vwCl [(x0, .inr (2, [.ref pa, .int (zi ((pn : Int))), .ref ba, .int (zi ((bn : Int))), .ref ax, .ref ay, .int (zi ((ln : Int))), .ref sp, .ref ss, .int (zi ((sn : Int))), .ref vs, .ref fr])), (sp, .inl (cA, 60, .inl (zA (spf)))), (ss, .inl (cA, 60, .inl (zA (ssf)))), (vs, .inl (cA, 60, .inl (zA ((s_ves spf ssf q v0 (t + 1)).2))))] H := by rw [hst]; exact hP
            have hD : va_D A [(x0, .inr (2, [.ref pa, .int (zi ((pn : Int))), .ref ba, .int (zi ((bn : Int))), .ref ax, .ref ay, .int (zi ((ln : Int))), .ref sp, .ref ss, .int (zi ((sn : Int))), .ref vs, .ref fr])), (sp, .inl (cA, 60, .inl (zA (spf)))), (ss, .inl (cA, 60, .inl (zA (ssf)))), (vs, .inl (cA, 60, .inl (zA ((s_ves spf ssf q v0 (t + 1)).2))))] := by rw [hst]; exact hD
            have hl : lv_has ls 5 [(3, .int (zi (((t + 1 : Nat) : Int)))), (2, .int (zi ((((s_ves spf ssf q v0 (t + 1)).1 : Nat) : Int)))), (1, .int (zi (q))), (0, .ref x0)] := by rw [hst]; exact lv_sub hl [0, 1, 3, 4] rfl
            exact ih (t + 1) (by omega) (by omega) H locs hP hD hS ls hl
        · refine lv_goto (tgt := 71) hx hb dX2_vesselsBySherds_22 (by decide) ?_
          refine lv_iinc (v := zi (((t : Int)) + (1))) (lv' := [(3, .int (zi (((t : Int)) + (1)))), (2, .int (zi ((((s_ves spf ssf q v0 t).1 : Nat) : Int)))), (1, .int (zi (q))), (0, .ref x0)]) hx hb dX2_vesselsBySherds_71 hl (k := 0) rfl (zi_add _ _) (by decide) rfl (fun ls hl => ?_)
          refine lv_goto (tgt := 4) hx hb dX2_vesselsBySherds_74 (by decide) ?_
          have hst : s_ves spf ssf q v0 (t + 1) = s_ves spf ssf q v0 t := by rw [s_ves, if_neg c_19]
          rw [← hst] at hP hD hl
          have hl : lv_has ls 5 [(3, .int (zi (((t + 1 : Nat) : Int)))), (2, .int (zi ((((s_ves spf ssf q v0 (t + 1)).1 : Nat) : Int)))), (1, .int (zi (q))), (0, .ref x0)] := lv_sub hl [0, 1, 2, 3] rfl
          exact ih (t + 1) (by omega) (by omega) H locs hP hD hS ls hl
  exact key_4 _ 0 (Nat.zero_le _) (Nat.lt_succ_self _) H locs (hP.sub [0, 1, 2, 3] rfl) (hD.sub [0, 1, 2, 3] (by decide) rfl) hS ls (lv_sub hl [0, 1, 3, 2] rfl)

abbrev rt_X2_sherd : Room := { frames := 8, cells := 1, slots := 6, locals := 140 }
set_option maxHeartbeats 4000000 in
set_option maxRecDepth 100000 in
theorem t_sherd_p (l : Launch) (hl0 : l.stackTraces = false) (dC : Nat → ClassId) (dI : Nat → Nat → Nat) (x0 pa ba ax ay sp ss vs fr : Nat) (pn bn ln sn : Nat) (q v : Int) (hpn : pn ≤ 6) (h_q : -2147483648 ≤ q ∧ q < 2147483648) (hbad : ¬ (0 ≤ q ∧ q < pn)) : ThM l yX2_sherd cX2_sherd 3 ((Option.some Jvm.ClassFile.FieldType.int)) rt_X2_sherd (PcT [.ref x0, .int (zi (q)), .int (zi (v))] (dC, dI) vwCl [(x0, .inr (2, [.ref pa, .int (zi ((pn : Int))), .ref ba, .int (zi ((bn : Int))), .ref ax, .ref ay, .int (zi ((ln : Int))), .ref sp, .ref ss, .int (zi ((sn : Int))), .ref vs, .ref fr]))] []) KI := by
  refine vx_ofW (cc := cX2_sherd) (maxL := 3) (ret := ((Option.some Jvm.ClassFile.FieldType.int))) (by decide) rfl ?_
  intro p e s m args below meth c s₁ B hml hno hv
  obtain ⟨hargs, hP, hK, hE⟩ := hv
  have hx := B.exec
  have hb := B.bytes
  have hr := B.returns
  have hts := atoms_spec (ws := Cond.code yX2_sherd cX2_sherd 3 ((Option.some Jvm.ClassFile.FieldType.int)) :: gw) B.pre
  have hg : ∀ w ∈ gw, w.before args s = true := fun w h => hts w (List.mem_cons_of_mem _ h)
  have hown : s.vm.findClass RX2 = some m.cls := findClass_of_methodNamed B.named
  have hlocks := B.notSynchronized
  show W p l e rt_X2_sherd s m args below meth c s.heap [] 0 0 _ _
  have hl := lv_entry ([.ref x0, .int (zi (q)), .int (zi (v))]) (n := 3) (Nat.le_of_ble_eq_true rfl)
  rw [show entryFrame m args 3 = entryFrame m ([.ref x0, .int (zi (q)), .int (zi (v))] : List Value).toArray 3 by rw [hargs], lg_entry_eq]
  generalize (lg_sl ([.ref x0, .int (zi (q)), .int (zi (v))]) ++ List.replicate (3 - (lg_sl ([.ref x0, .int (zi (q)), .int (zi (v))])).length) Slot.unset).toArray = ls at hl ⊢
  have hl : lv_has ls 3 [(0, .ref x0), (1, .int (zi (q))), (2, .int (zi (v)))] := hl
  obtain ⟨QQ, hQQ⟩ : ∃ Q, Q = vx_MQ below QF (XK KI) args s 1 6 (fun _ => False) := ⟨_, rfl⟩
  rw [← hQQ]
  refine lv_aload_n hx hb dX2_sherd_0 rfl (lv_at hl 0 rfl) ?_
  refine lv_iload_n hx hb dX2_sherd_1 rfl (lv_at hl 1 rfl) ?_
  rw [hQQ]
  exact thV (As := [.int (zi (q))]) (rest := []) (n := 1) hx hb hml hown hg (t_X2_needProfile l hl0 dC dI x0 pa ba ax ay sp ss vs fr pn bn ln sn (q) hpn h_q hbad) (gwV wl_X2_168 wm_X2_needProfile we_X2_needProfile wi_X2 wc_X2_needProfile) rfl rfl (by decide +kernel) ⟨Nat.le_of_ble_eq_true rfl, Nat.le_of_ble_eq_true rfl⟩ (hK.sub [] rfl) (hP.sub [0] rfl) hE 0 rfl rfl rfl rfl hl.1 rfl (Nat.le_of_ble_eq_true rfl) dX2_sherd_2 ⟨Nat.le_of_ble_eq_true rfl, Nat.le_of_ble_eq_true rfl⟩ hno hlocks

set_option maxHeartbeats 4000000 in
set_option maxRecDepth 100000 in
theorem t_sherd_A (l : Launch) (hl0 : l.stackTraces = false) (dC : Nat → ClassId) (dI : Nat → Nat → Nat) (x0 pa ba ax ay sp ss vs fr : Nat) (pn bn ln sn : Nat) (q v : Int) (hpn : pn ≤ 6) (hq : 0 ≤ q ∧ q < pn) (h_v : -2147483648 ≤ v ∧ v < 2147483648) (hbad : ¬ (1 ≤ v ∧ v ≤ 1000)) : ThM l yX2_sherd cX2_sherd 3 ((Option.some Jvm.ClassFile.FieldType.int)) rt_X2_sherd (PcT [.ref x0, .int (zi (q)), .int (zi (v))] (dC, dI) vwCl [(x0, .inr (2, [.ref pa, .int (zi ((pn : Int))), .ref ba, .int (zi ((bn : Int))), .ref ax, .ref ay, .int (zi ((ln : Int))), .ref sp, .ref ss, .int (zi ((sn : Int))), .ref vs, .ref fr]))] []) KA := by
  refine vx_ofW (cc := cX2_sherd) (maxL := 3) (ret := ((Option.some Jvm.ClassFile.FieldType.int))) (by decide) rfl ?_
  intro p e s m args below meth c s₁ B hml hno hv
  obtain ⟨hargs, hP, hK, hE⟩ := hv
  have hx := B.exec
  have hb := B.bytes
  have hr := B.returns
  have hts := atoms_spec (ws := Cond.code yX2_sherd cX2_sherd 3 ((Option.some Jvm.ClassFile.FieldType.int)) :: gw) B.pre
  have hg : ∀ w ∈ gw, w.before args s = true := fun w h => hts w (List.mem_cons_of_mem _ h)
  have hown : s.vm.findClass RX2 = some m.cls := findClass_of_methodNamed B.named
  have hlocks := B.notSynchronized
  show W p l e rt_X2_sherd s m args below meth c s.heap [] 0 0 _ _
  have hl := lv_entry ([.ref x0, .int (zi (q)), .int (zi (v))]) (n := 3) (Nat.le_of_ble_eq_true rfl)
  rw [show entryFrame m args 3 = entryFrame m ([.ref x0, .int (zi (q)), .int (zi (v))] : List Value).toArray 3 by rw [hargs], lg_entry_eq]
  generalize (lg_sl ([.ref x0, .int (zi (q)), .int (zi (v))]) ++ List.replicate (3 - (lg_sl ([.ref x0, .int (zi (q)), .int (zi (v))])).length) Slot.unset).toArray = ls at hl ⊢
  have hl : lv_has ls 3 [(0, .ref x0), (1, .int (zi (q))), (2, .int (zi (v)))] := hl
  obtain ⟨QQ, hQQ⟩ : ∃ Q, Q = vx_MQ below QF (XK KA) args s 1 6 (fun _ => False) := ⟨_, rfl⟩
  rw [← hQQ]
  refine lv_aload_n hx hb dX2_sherd_0 rfl (lv_at hl 0 rfl) ?_
  refine lv_iload_n hx hb dX2_sherd_1 rfl (lv_at hl 1 rfl) ?_
  refine rdV (As := [.int (zi (q))]) (rest := []) (n := 1) hx hb hml hown hg (c_X2_needProfile l dC dI x0 pa ba ax ay sp ss vs fr pn bn ln sn (q) hpn hq) (gwV wl_X2_168 wm_X2_needProfile we_X2_needProfile wi_X2 wc_X2_needProfile) rfl rfl (by decide +kernel) ⟨Nat.le_of_ble_eq_true rfl, Nat.le_of_ble_eq_true rfl⟩ (hK.sub [] rfl) (hP.sub [0] rfl) 0 rfl rfl rfl rfl hl.1 rfl (Nat.le_of_ble_eq_true rfl) dX2_sherd_2 ⟨Nat.zero_le _, Nat.zero_le _⟩ ?_
  refine lv_iload_n hx hb dX2_sherd_5 rfl (lv_at hl 2 rfl) ?_
  refine lv_iconst (v := zi (1)) hx hb dX2_sherd_6 rfl ?_
  refine zz_icmp_lt (tgt := 17) hx hb (by omega) (by omega) dX2_sherd_7 (by decide) (fun c_7 => ?_) (fun c_7 => ?_)
  · rw [hQQ]
    exact thr (K := KA) hx hb hl0 hown hE (by decide +kernel) (hg _ wl_X2_57) (hg _ wi_IllegalArgumentException) (by decide) (xh_A hg hE) xh_ot.2.1 hml hl.1 dX2_sherd_17 dX2_sherd_20 dX2_sherd_21 dX2_sherd_23 dX2_sherd_26 hno hlocks (Nat.le_of_ble_eq_true rfl) (Nat.le_of_ble_eq_true rfl) (Nat.le_of_ble_eq_true rfl) (Nat.le_of_ble_eq_true rfl)
  · refine lv_iload_n hx hb dX2_sherd_10 rfl (lv_at hl 2 rfl) ?_
    refine lv_sipush (v := zi (1000)) hx hb dX2_sherd_11 (by decide) ?_
    refine zz_icmp_le (tgt := 27) hx hb (by omega) (by omega) dX2_sherd_14 (by decide) (fun c_14 => ?_) (fun c_14 => ?_)
    · exact False.elim (by omega)
    · rw [hQQ]
      exact thr (K := KA) hx hb hl0 hown hE (by decide +kernel) (hg _ wl_X2_57) (hg _ wi_IllegalArgumentException) (by decide) (xh_A hg hE) xh_ot.2.1 hml hl.1 dX2_sherd_17 dX2_sherd_20 dX2_sherd_21 dX2_sherd_23 dX2_sherd_26 hno hlocks (Nat.le_of_ble_eq_true rfl) (Nat.le_of_ble_eq_true rfl) (Nat.le_of_ble_eq_true rfl) (Nat.le_of_ble_eq_true rfl)

set_option maxHeartbeats 4000000 in
set_option maxRecDepth 100000 in
theorem t_sherd_S (l : Launch) (hl0 : l.stackTraces = false) (dC : Nat → ClassId) (dI : Nat → Nat → Nat) (x0 pa ba ax ay sp ss vs fr : Nat) (pn bn ln sn : Nat) (q v : Int) (hpn : pn ≤ 6) (hq : 0 ≤ q ∧ q < pn) (hv : 1 ≤ v ∧ v ≤ 1000) (hsn : sn ≤ 60) (hbad : sn = 60) : ThM l yX2_sherd cX2_sherd 3 ((Option.some Jvm.ClassFile.FieldType.int)) rt_X2_sherd (PcT [.ref x0, .int (zi (q)), .int (zi (v))] (dC, dI) vwCl [(x0, .inr (2, [.ref pa, .int (zi ((pn : Int))), .ref ba, .int (zi ((bn : Int))), .ref ax, .ref ay, .int (zi ((ln : Int))), .ref sp, .ref ss, .int (zi ((sn : Int))), .ref vs, .ref fr]))] []) KS := by
  refine vx_ofW (cc := cX2_sherd) (maxL := 3) (ret := ((Option.some Jvm.ClassFile.FieldType.int))) (by decide) rfl ?_
  intro p e s m args below meth c s₁ B hml hno hv
  obtain ⟨hargs, hP, hK, hE⟩ := hv
  have hx := B.exec
  have hb := B.bytes
  have hr := B.returns
  have hts := atoms_spec (ws := Cond.code yX2_sherd cX2_sherd 3 ((Option.some Jvm.ClassFile.FieldType.int)) :: gw) B.pre
  have hg : ∀ w ∈ gw, w.before args s = true := fun w h => hts w (List.mem_cons_of_mem _ h)
  have hown : s.vm.findClass RX2 = some m.cls := findClass_of_methodNamed B.named
  have hlocks := B.notSynchronized
  show W p l e rt_X2_sherd s m args below meth c s.heap [] 0 0 _ _
  have hl := lv_entry ([.ref x0, .int (zi (q)), .int (zi (v))]) (n := 3) (Nat.le_of_ble_eq_true rfl)
  rw [show entryFrame m args 3 = entryFrame m ([.ref x0, .int (zi (q)), .int (zi (v))] : List Value).toArray 3 by rw [hargs], lg_entry_eq]
  generalize (lg_sl ([.ref x0, .int (zi (q)), .int (zi (v))]) ++ List.replicate (3 - (lg_sl ([.ref x0, .int (zi (q)), .int (zi (v))])).length) Slot.unset).toArray = ls at hl ⊢
  have hl : lv_has ls 3 [(0, .ref x0), (1, .int (zi (q))), (2, .int (zi (v)))] := hl
  obtain ⟨QQ, hQQ⟩ : ∃ Q, Q = vx_MQ below QF (XK KS) args s 1 6 (fun _ => False) := ⟨_, rfl⟩
  rw [← hQQ]
  refine lv_aload_n hx hb dX2_sherd_0 rfl (lv_at hl 0 rfl) ?_
  refine lv_iload_n hx hb dX2_sherd_1 rfl (lv_at hl 1 rfl) ?_
  refine rdV (As := [.int (zi (q))]) (rest := []) (n := 1) hx hb hml hown hg (c_X2_needProfile l dC dI x0 pa ba ax ay sp ss vs fr pn bn ln sn (q) hpn hq) (gwV wl_X2_168 wm_X2_needProfile we_X2_needProfile wi_X2 wc_X2_needProfile) rfl rfl (by decide +kernel) ⟨Nat.le_of_ble_eq_true rfl, Nat.le_of_ble_eq_true rfl⟩ (hK.sub [] rfl) (hP.sub [0] rfl) 0 rfl rfl rfl rfl hl.1 rfl (Nat.le_of_ble_eq_true rfl) dX2_sherd_2 ⟨Nat.zero_le _, Nat.zero_le _⟩ ?_
  refine lv_iload_n hx hb dX2_sherd_5 rfl (lv_at hl 2 rfl) ?_
  refine lv_iconst (v := zi (1)) hx hb dX2_sherd_6 rfl ?_
  refine zz_icmp_lt (tgt := 17) hx hb (by omega) (by omega) dX2_sherd_7 (by decide) (fun c_7 => ?_) (fun c_7 => ?_)
  · exact False.elim (by omega)
  · refine lv_iload_n hx hb dX2_sherd_10 rfl (lv_at hl 2 rfl) ?_
    refine lv_sipush (v := zi (1000)) hx hb dX2_sherd_11 (by decide) ?_
    refine zz_icmp_le (tgt := 27) hx hb (by omega) (by omega) dX2_sherd_14 (by decide) (fun c_14 => ?_) (fun c_14 => ?_)
    · refine lv_aload_n hx hb dX2_sherd_27 rfl (lv_at hl 0 rfl) ?_
      refine va_get (D := (dC, dI)) (ci := 2) (v := .int (zi ((sn : Int)))) (C := RX2) (T := TX2) (N := 12) hx hb hg inX2 hown hK hP 0 rfl rfl 9 (by decide) (hg _ wl_X2_173) (fun _ h9 => h9) rfl dX2_sherd_28 ?_
      refine lv_bipush (v := zi (60)) hx hb dX2_sherd_31 (by decide) ?_
      refine zz_icmp_lt (tgt := 46) hx hb (by omega) (by omega) dX2_sherd_33 (by decide) (fun c_33 => ?_) (fun c_33 => ?_)
      · exact False.elim (by omega)
      · rw [hQQ]
        exact thr (K := KS) hx hb hl0 hown hE (by decide +kernel) (hg _ wl_X2_45) (hg _ wi_IllegalStateException) (by decide) (xh_S hg hE) xh_ot.2.2 hml hl.1 dX2_sherd_36 dX2_sherd_39 dX2_sherd_40 dX2_sherd_42 dX2_sherd_45 hno hlocks (Nat.le_of_ble_eq_true rfl) (Nat.le_of_ble_eq_true rfl) (Nat.le_of_ble_eq_true rfl) (Nat.le_of_ble_eq_true rfl)
    · exact False.elim (by omega)

abbrev rm_X2_sherd : Room := { frames := 7, cells := 0, slots := 0, locals := 121 }
set_option maxHeartbeats 4000000 in
set_option maxRecDepth 100000 in
theorem c_sherd (l : Launch) (dC : Nat → ClassId) (dI : Nat → Nat → Nat) (sz : Nat) (x0 pa ba ax ay sp ss vs fr : Nat) (pn bn ln sn : Nat) (cA : ClassId) (spf ssf : Nat → Int) (q v : Int) (hsn : sn < 60) (hP9 : ∀ j, 0 ≤ spf j ∧ spf j ≤ 5) (hS9 : ∀ j, 0 ≤ ssf j ∧ ssf j ≤ 1000) (hpn : pn ≤ 6) (hq : 0 ≤ q ∧ q < pn) (hv9 : 1 ≤ v ∧ v ≤ 1000) : Met l yX2_sherd (Cond.code yX2_sherd cX2_sherd 3 ((Option.some Jvm.ClassFile.FieldType.int)) :: gw) rm_X2_sherd (PcW [.ref x0, .int (zi (q)), .int (zi (v))] (dC, dI) vwCl [(x0, .inr (2, [.ref pa, .int (zi ((pn : Int))), .ref ba, .int (zi ((bn : Int))), .ref ax, .ref ay, .int (zi ((ln : Int))), .ref sp, .ref ss, .int (zi ((sn : Int))), .ref vs, .ref fr])), (sp, .inl (cA, 60, .inl (zA (spf)))), (ss, .inl (cA, 60, .inl (zA (ssf))))] [(cA, .int)] sz) (WrQ (some (.int (zi (s_sum (zupd spf (sn) (q)) (zupd ssf (sn) (v)) q (sn + 1))))) (dC, dI) vwCl [(x0, .inr (2, [.ref pa, .int (zi ((pn : Int))), .ref ba, .int (zi ((bn : Int))), .ref ax, .ref ay, .int (zi ((ln : Int))), .ref sp, .ref ss, .int (zi (((sn + 1 : Nat) : Int))), .ref vs, .ref fr])), (sp, .inl (cA, 60, .inl (zA (zupd spf (sn) (q))))), (ss, .inl (cA, 60, .inl (zA (zupd ssf (sn) (v)))))] (va_A [(x0, .inr (2, [.ref pa, .int (zi ((pn : Int))), .ref ba, .int (zi ((bn : Int))), .ref ax, .ref ay, .int (zi ((ln : Int))), .ref sp, .ref ss, .int (zi ((sn : Int))), .ref vs, .ref fr])), (sp, .inl (cA, 60, .inl (zA (spf)))), (ss, .inl (cA, 60, .inl (zA (ssf))))] sz)) 0 0 (va_A [(x0, .inr (2, [.ref pa, .int (zi ((pn : Int))), .ref ba, .int (zi ((bn : Int))), .ref ax, .ref ay, .int (zi ((ln : Int))), .ref sp, .ref ss, .int (zi ((sn : Int))), .ref vs, .ref fr])), (sp, .inl (cA, 60, .inl (zA (spf)))), (ss, .inl (cA, 60, .inl (zA (ssf))))] sz) := by
  refine Met.ofW (cc := cX2_sherd) (maxL := 3) (ret := ((Option.some Jvm.ClassFile.FieldType.int))) (by decide) rfl ?_
  intro p e s m args below meth c s₁ B hml hv
  obtain ⟨hargs, hsz, hP, hK, hD0⟩ := hv
  have hx := B.exec
  have hb := B.bytes
  have hr := B.returns
  have hts := atoms_spec (ws := Cond.code yX2_sherd cX2_sherd 3 ((Option.some Jvm.ClassFile.FieldType.int)) :: gw) B.pre
  have hg : ∀ w ∈ gw, w.before args s = true := fun w h => hts w (List.mem_cons_of_mem _ h)
  have hown : s.vm.findClass RX2 = some m.cls := findClass_of_methodNamed B.named
  have hlocks := B.notSynchronized
  subst hsz
  have hD := hD0.self (sz := s.heap.size)
  generalize hAe : va_A [(x0, .inr (2, [.ref pa, .int (zi ((pn : Int))), .ref ba, .int (zi ((bn : Int))), .ref ax, .ref ay, .int (zi ((ln : Int))), .ref sp, .ref ss, .int (zi ((sn : Int))), .ref vs, .ref fr])), (sp, .inl (cA, 60, .inl (zA (spf)))), (ss, .inl (cA, 60, .inl (zA (ssf))))] s.heap.size = A at hD ⊢
  have hA : ∀ q : Nat, s.heap.size ≤ q → A q := fun q h => by rw [← hAe]; exact Or.inr h
  show W p l e rm_X2_sherd s m args below meth c s.heap [] 0 0 _ _
  have hl := lv_entry ([.ref x0, .int (zi (q)), .int (zi (v))]) (n := 3) (Nat.le_of_ble_eq_true rfl)
  rw [show entryFrame m args 3 = entryFrame m ([.ref x0, .int (zi (q)), .int (zi (v))] : List Value).toArray 3 by rw [hargs], lg_entry_eq]
  generalize (lg_sl ([.ref x0, .int (zi (q)), .int (zi (v))]) ++ List.replicate (3 - (lg_sl ([.ref x0, .int (zi (q)), .int (zi (v))])).length) Slot.unset).toArray = ls at hl ⊢
  have hl : lv_has ls 3 [(0, .ref x0), (1, .int (zi (q))), (2, .int (zi (v)))] := hl
  obtain ⟨QQ, hQQ⟩ : ∃ Q, Q = MQ below (WrQ (some (.int (zi (s_sum (zupd spf (sn) (q)) (zupd ssf (sn) (v)) q (sn + 1))))) (dC, dI) vwCl [(x0, .inr (2, [.ref pa, .int (zi ((pn : Int))), .ref ba, .int (zi ((bn : Int))), .ref ax, .ref ay, .int (zi ((ln : Int))), .ref sp, .ref ss, .int (zi (((sn + 1 : Nat) : Int))), .ref vs, .ref fr])), (sp, .inl (cA, 60, .inl (zA (zupd spf (sn) (q))))), (ss, .inl (cA, 60, .inl (zA (zupd ssf (sn) (v)))))] A) args s 0 0 A := ⟨_, rfl⟩
  rw [← hQQ]
  obtain ⟨H, hHe⟩ : ∃ H : Heap, H = s.heap := ⟨_, rfl⟩
  obtain ⟨locs, hlc⟩ : ∃ x : List Loc, x = [] := ⟨_, rfl⟩
  have hS : va_S A s.heap H locs := by rw [hHe, hlc]; exact va_S.rf
  have hP : va_P (dC, dI) vwCl [(x0, .inr (2, [.ref pa, .int (zi ((pn : Int))), .ref ba, .int (zi ((bn : Int))), .ref ax, .ref ay, .int (zi ((ln : Int))), .ref sp, .ref ss, .int (zi ((sn : Int))), .ref vs, .ref fr])), (sp, .inl (cA, 60, .inl (zA (spf)))), (ss, .inl (cA, 60, .inl (zA (ssf))))] H := by rw [hHe]; exact hP
  have hD : va_D A [(x0, .inr (2, [.ref pa, .int (zi ((pn : Int))), .ref ba, .int (zi ((bn : Int))), .ref ax, .ref ay, .int (zi ((ln : Int))), .ref sp, .ref ss, .int (zi ((sn : Int))), .ref vs, .ref fr])), (sp, .inl (cA, 60, .inl (zA (spf)))), (ss, .inl (cA, 60, .inl (zA (ssf))))] := hD
  rw [← hHe, ← hlc]
  refine lv_aload_n hx hb dX2_sherd_0 rfl (lv_at hl 0 rfl) ?_
  refine lv_iload_n hx hb dX2_sherd_1 rfl (lv_at hl 1 rfl) ?_
  refine rdV (As := [.int (zi (q))]) (rest := []) (n := 1) hx hb hml hown hg (c_X2_needProfile l dC dI x0 pa ba ax ay sp ss vs fr pn bn ln sn (q) hpn hq) (gwV wl_X2_168 wm_X2_needProfile we_X2_needProfile wi_X2 wc_X2_needProfile) rfl rfl (by decide +kernel) ⟨Nat.le_of_ble_eq_true rfl, Nat.le_of_ble_eq_true rfl⟩ (hK.sub [] rfl) (hP.sub [0] rfl) 0 rfl rfl rfl rfl hl.1 rfl (Nat.le_of_ble_eq_true rfl) dX2_sherd_2 ⟨Nat.zero_le _, Nat.zero_le _⟩ ?_
  refine lv_iload_n hx hb dX2_sherd_5 rfl (lv_at hl 2 rfl) ?_
  refine lv_iconst (v := zi (1)) hx hb dX2_sherd_6 rfl ?_
  refine zz_icmp_lt (tgt := 17) hx hb (by omega) (by omega) dX2_sherd_7 (by decide) (fun c_7 => ?_) (fun c_7 => ?_)
  · exact False.elim (by omega)
  · refine lv_iload_n hx hb dX2_sherd_10 rfl (lv_at hl 2 rfl) ?_
    refine lv_sipush (v := zi (1000)) hx hb dX2_sherd_11 (by decide) ?_
    refine zz_icmp_le (tgt := 27) hx hb (by omega) (by omega) dX2_sherd_14 (by decide) (fun c_14 => ?_) (fun c_14 => ?_)
    · refine lv_aload_n hx hb dX2_sherd_27 rfl (lv_at hl 0 rfl) ?_
      refine va_get (D := (dC, dI)) (ci := 2) (v := .int (zi ((sn : Int)))) (C := RX2) (T := TX2) (N := 12) hx hb hg inX2 hown hK hP 0 rfl rfl 9 (by decide) (hg _ wl_X2_173) (fun _ h9 => h9) rfl dX2_sherd_28 ?_
      refine lv_bipush (v := zi (60)) hx hb dX2_sherd_31 (by decide) ?_
      refine zz_icmp_lt (tgt := 46) hx hb (by omega) (by omega) dX2_sherd_33 (by decide) (fun c_33 => ?_) (fun c_33 => ?_)
      · refine lv_aload_n hx hb dX2_sherd_46 rfl (lv_at hl 0 rfl) ?_
        refine va_get (D := (dC, dI)) (ci := 2) (v := .ref sp) (C := RX2) (T := TX2) (N := 12) hx hb hg inX2 hown hK hP 0 rfl rfl 7 (by decide) (hg _ wl_X2_25) (fun _ h9 => h9) rfl dX2_sherd_47 ?_
        refine lv_aload_n hx hb dX2_sherd_50 rfl (lv_at hl 0 rfl) ?_
        refine va_get (D := (dC, dI)) (ci := 2) (v := .int (zi ((sn : Int)))) (C := RX2) (T := TX2) (N := 12) hx hb hg inX2 hown hK hP 0 rfl rfl 9 (by decide) (hg _ wl_X2_173) (fun _ h9 => h9) rfl dX2_sherd_51 ?_
        refine lv_iload_n hx hb dX2_sherd_54 rfl (lv_at hl 1 rfl) ?_
        refine zz_iast hx hb hK hP hD hS 1 0 rfl rfl (sn) (by omega) (by omega) (by decide) dX2_sherd_55 (fun H locs hP hD hS => ?_)
        have hP : va_P (dC, dI) vwCl [(x0, .inr (2, [.ref pa, .int (zi ((pn : Int))), .ref ba, .int (zi ((bn : Int))), .ref ax, .ref ay, .int (zi ((ln : Int))), .ref sp, .ref ss, .int (zi ((sn : Int))), .ref vs, .ref fr])), (sp, .inl (cA, 60, .inl (zA (zupd spf (sn) (q))))), (ss, .inl (cA, 60, .inl (zA (ssf))))] H := hP
        have hD : va_D A [(x0, .inr (2, [.ref pa, .int (zi ((pn : Int))), .ref ba, .int (zi ((bn : Int))), .ref ax, .ref ay, .int (zi ((ln : Int))), .ref sp, .ref ss, .int (zi ((sn : Int))), .ref vs, .ref fr])), (sp, .inl (cA, 60, .inl (zA (zupd spf (sn) (q))))), (ss, .inl (cA, 60, .inl (zA (ssf))))] := hD
        refine lv_aload_n hx hb dX2_sherd_56 rfl (lv_at hl 0 rfl) ?_
        refine va_get (D := (dC, dI)) (ci := 2) (v := .ref ss) (C := RX2) (T := TX2) (N := 12) hx hb hg inX2 hown hK hP 0 rfl rfl 8 (by decide) (hg _ wl_X2_28) (fun _ h9 => h9) rfl dX2_sherd_57 ?_
        refine lv_aload_n hx hb dX2_sherd_60 rfl (lv_at hl 0 rfl) ?_
        refine va_get (D := (dC, dI)) (ci := 2) (v := .int (zi ((sn : Int)))) (C := RX2) (T := TX2) (N := 12) hx hb hg inX2 hown hK hP 0 rfl rfl 9 (by decide) (hg _ wl_X2_173) (fun _ h9 => h9) rfl dX2_sherd_61 ?_
        refine lv_iload_n hx hb dX2_sherd_64 rfl (lv_at hl 2 rfl) ?_
        refine zz_iast hx hb hK hP hD hS 2 0 rfl rfl (sn) (by omega) (by omega) (by decide) dX2_sherd_65 (fun H locs hP hD hS => ?_)
        have hP : va_P (dC, dI) vwCl [(x0, .inr (2, [.ref pa, .int (zi ((pn : Int))), .ref ba, .int (zi ((bn : Int))), .ref ax, .ref ay, .int (zi ((ln : Int))), .ref sp, .ref ss, .int (zi ((sn : Int))), .ref vs, .ref fr])), (sp, .inl (cA, 60, .inl (zA (zupd spf (sn) (q))))), (ss, .inl (cA, 60, .inl (zA (zupd ssf (sn) (v)))))] H := hP
        have hD : va_D A [(x0, .inr (2, [.ref pa, .int (zi ((pn : Int))), .ref ba, .int (zi ((bn : Int))), .ref ax, .ref ay, .int (zi ((ln : Int))), .ref sp, .ref ss, .int (zi ((sn : Int))), .ref vs, .ref fr])), (sp, .inl (cA, 60, .inl (zA (zupd spf (sn) (q))))), (ss, .inl (cA, 60, .inl (zA (zupd ssf (sn) (v)))))] := hD
        refine lv_aload_n hx hb dX2_sherd_66 rfl (lv_at hl 0 rfl) ?_
        refine lv_dup hx hb dX2_sherd_67 rfl ?_
        refine va_get (D := (dC, dI)) (ci := 2) (v := .int (zi ((sn : Int)))) (C := RX2) (T := TX2) (N := 12) hx hb hg inX2 hown hK hP 0 rfl rfl 9 (by decide) (hg _ wl_X2_173) (fun _ h9 => h9) rfl dX2_sherd_68 ?_
        refine lv_iconst (v := zi (1)) hx hb dX2_sherd_71 rfl ?_
        refine zz_iadd hx hb dX2_sherd_72 ?_
        refine zz_topi (z := ((sn + 1 : Nat) : Int)) (congrArg zi (by push_cast; rfl)) ?_
        refine va_put (D := (dC, dI)) (ci := 2) (v := .int (zi (((sn + 1 : Nat) : Int)))) (ty := .int) (C := RX2) (T := TX2) (N := 12) hx hb hg inX2 tyX2 tyX2_ok nmX2 hown hK hP hD hS 0 rfl rfl 9 (by decide) (hg _ wl_X2_173) (fun _ h9 => h9) rfl (by decide +kernel) rfl rfl (Nat.le_of_ble_eq_true rfl) dX2_sherd_73 (fun H locs hP hD hS => ?_)
        have hP : va_P (dC, dI) vwCl [(x0, .inr (2, [.ref pa, .int (zi ((pn : Int))), .ref ba, .int (zi ((bn : Int))), .ref ax, .ref ay, .int (zi ((ln : Int))), .ref sp, .ref ss, .int (zi (((sn + 1 : Nat) : Int))), .ref vs, .ref fr])), (sp, .inl (cA, 60, .inl (zA (zupd spf (sn) (q))))), (ss, .inl (cA, 60, .inl (zA (zupd ssf (sn) (v)))))] H := hP
        have hD : va_D A [(x0, .inr (2, [.ref pa, .int (zi ((pn : Int))), .ref ba, .int (zi ((bn : Int))), .ref ax, .ref ay, .int (zi ((ln : Int))), .ref sp, .ref ss, .int (zi (((sn + 1 : Nat) : Int))), .ref vs, .ref fr])), (sp, .inl (cA, 60, .inl (zA (zupd spf (sn) (q))))), (ss, .inl (cA, 60, .inl (zA (zupd ssf (sn) (v)))))] := hD
        refine lv_aload_n hx hb dX2_sherd_76 rfl (lv_at hl 0 rfl) ?_
        refine lv_iload_n hx hb dX2_sherd_77 rfl (lv_at hl 1 rfl) ?_
        refine rdV (As := [.int (zi (q))]) (rest := []) (n := 1) hx hb hml hown hg (c_sumOfShares l dC dI x0 pa ba ax ay sp ss vs fr pn bn ln (sn + 1) cA (zupd spf (sn) (q)) (zupd ssf (sn) (v)) q (by omega) (fun j => by have := hP9 j; simp only [zupd]; split <;> omega) (fun j => by have := hS9 j; simp only [zupd]; split <;> omega) (by omega)) (gwV wl_X2_178 wm_X2_sumOfShares we_X2_sumOfShares wi_X2 wc_X2_sumOfShares) rfl rfl (by decide +kernel) ⟨Nat.le_of_ble_eq_true rfl, Nat.le_of_ble_eq_true rfl⟩ (hK.sub [0] rfl) (hP.sub [0, 1, 2] rfl) 0 rfl rfl rfl rfl hl.1 rfl (Nat.le_of_ble_eq_true rfl) dX2_sherd_78 ⟨Nat.zero_le _, Nat.zero_le _⟩ ?_
        have hP9 : va_P (dC, dI) vwCl [(x0, .inr (2, [.ref pa, .int (zi ((pn : Int))), .ref ba, .int (zi ((bn : Int))), .ref ax, .ref ay, .int (zi ((ln : Int))), .ref sp, .ref ss, .int (zi (((sn + 1 : Nat) : Int))), .ref vs, .ref fr])), (sp, .inl (cA, 60, .inl (zA (zupd spf (sn) (q))))), (ss, .inl (cA, 60, .inl (zA (zupd ssf (sn) (v)))))] H := hP
        rw [hQQ]
        exact wr_i hx hb hr hlocks rfl hP9 hS dX2_sherd_81
      · exact False.elim (by omega)
    · exact False.elim (by omega)

abbrev rt_X2_vessels : Room := { frames := 8, cells := 1, slots := 6, locals := 140 }
set_option maxHeartbeats 4000000 in
set_option maxRecDepth 100000 in
theorem t_vessels_p (l : Launch) (hl0 : l.stackTraces = false) (dC : Nat → ClassId) (dI : Nat → Nat → Nat) (x0 pa ba ax ay sp ss vs fr : Nat) (pn bn ln sn : Nat) (q how : Int) (hpn : pn ≤ 6) (h_q : -2147483648 ≤ q ∧ q < 2147483648) (hbad : ¬ (0 ≤ q ∧ q < pn)) : ThM l yX2_vessels cX2_vessels 3 ((Option.some Jvm.ClassFile.FieldType.int)) rt_X2_vessels (PcT [.ref x0, .int (zi (q)), .int (zi (how))] (dC, dI) vwCl [(x0, .inr (2, [.ref pa, .int (zi ((pn : Int))), .ref ba, .int (zi ((bn : Int))), .ref ax, .ref ay, .int (zi ((ln : Int))), .ref sp, .ref ss, .int (zi ((sn : Int))), .ref vs, .ref fr]))] []) KI := by
  refine vx_ofW (cc := cX2_vessels) (maxL := 3) (ret := ((Option.some Jvm.ClassFile.FieldType.int))) (by decide) rfl ?_
  intro p e s m args below meth c s₁ B hml hno hv
  obtain ⟨hargs, hP, hK, hE⟩ := hv
  have hx := B.exec
  have hb := B.bytes
  have hr := B.returns
  have hts := atoms_spec (ws := Cond.code yX2_vessels cX2_vessels 3 ((Option.some Jvm.ClassFile.FieldType.int)) :: gw) B.pre
  have hg : ∀ w ∈ gw, w.before args s = true := fun w h => hts w (List.mem_cons_of_mem _ h)
  have hown : s.vm.findClass RX2 = some m.cls := findClass_of_methodNamed B.named
  have hlocks := B.notSynchronized
  show W p l e rt_X2_vessels s m args below meth c s.heap [] 0 0 _ _
  have hl := lv_entry ([.ref x0, .int (zi (q)), .int (zi (how))]) (n := 3) (Nat.le_of_ble_eq_true rfl)
  rw [show entryFrame m args 3 = entryFrame m ([.ref x0, .int (zi (q)), .int (zi (how))] : List Value).toArray 3 by rw [hargs], lg_entry_eq]
  generalize (lg_sl ([.ref x0, .int (zi (q)), .int (zi (how))]) ++ List.replicate (3 - (lg_sl ([.ref x0, .int (zi (q)), .int (zi (how))])).length) Slot.unset).toArray = ls at hl ⊢
  have hl : lv_has ls 3 [(0, .ref x0), (1, .int (zi (q))), (2, .int (zi (how)))] := hl
  obtain ⟨QQ, hQQ⟩ : ∃ Q, Q = vx_MQ below QF (XK KI) args s 1 6 (fun _ => False) := ⟨_, rfl⟩
  rw [← hQQ]
  refine lv_aload_n hx hb dX2_vessels_0 rfl (lv_at hl 0 rfl) ?_
  refine lv_iload_n hx hb dX2_vessels_1 rfl (lv_at hl 1 rfl) ?_
  rw [hQQ]
  exact thV (As := [.int (zi (q))]) (rest := []) (n := 1) hx hb hml hown hg (t_X2_needProfile l hl0 dC dI x0 pa ba ax ay sp ss vs fr pn bn ln sn (q) hpn h_q hbad) (gwV wl_X2_168 wm_X2_needProfile we_X2_needProfile wi_X2 wc_X2_needProfile) rfl rfl (by decide +kernel) ⟨Nat.le_of_ble_eq_true rfl, Nat.le_of_ble_eq_true rfl⟩ (hK.sub [] rfl) (hP.sub [0] rfl) hE 0 rfl rfl rfl rfl hl.1 rfl (Nat.le_of_ble_eq_true rfl) dX2_vessels_2 ⟨Nat.le_of_ble_eq_true rfl, Nat.le_of_ble_eq_true rfl⟩ hno hlocks

set_option maxHeartbeats 4000000 in
set_option maxRecDepth 100000 in
theorem t_vessels_w (l : Launch) (hl0 : l.stackTraces = false) (dC : Nat → ClassId) (dI : Nat → Nat → Nat) (x0 pa ba ax ay sp ss vs fr : Nat) (pn bn ln sn : Nat) (q how : Int) (hpn : pn ≤ 6) (hq : 0 ≤ q ∧ q < pn) (h_how : -2147483648 ≤ how ∧ how < 2147483648) (hbad : ¬ (how = 0 ∨ how = 1)) : ThM l yX2_vessels cX2_vessels 3 ((Option.some Jvm.ClassFile.FieldType.int)) rt_X2_vessels (PcT [.ref x0, .int (zi (q)), .int (zi (how))] (dC, dI) vwCl [(x0, .inr (2, [.ref pa, .int (zi ((pn : Int))), .ref ba, .int (zi ((bn : Int))), .ref ax, .ref ay, .int (zi ((ln : Int))), .ref sp, .ref ss, .int (zi ((sn : Int))), .ref vs, .ref fr]))] []) KI := by
  refine vx_ofW (cc := cX2_vessels) (maxL := 3) (ret := ((Option.some Jvm.ClassFile.FieldType.int))) (by decide) rfl ?_
  intro p e s m args below meth c s₁ B hml hno hv
  obtain ⟨hargs, hP, hK, hE⟩ := hv
  have hx := B.exec
  have hb := B.bytes
  have hr := B.returns
  have hts := atoms_spec (ws := Cond.code yX2_vessels cX2_vessels 3 ((Option.some Jvm.ClassFile.FieldType.int)) :: gw) B.pre
  have hg : ∀ w ∈ gw, w.before args s = true := fun w h => hts w (List.mem_cons_of_mem _ h)
  have hown : s.vm.findClass RX2 = some m.cls := findClass_of_methodNamed B.named
  have hlocks := B.notSynchronized
  show W p l e rt_X2_vessels s m args below meth c s.heap [] 0 0 _ _
  have hl := lv_entry ([.ref x0, .int (zi (q)), .int (zi (how))]) (n := 3) (Nat.le_of_ble_eq_true rfl)
  rw [show entryFrame m args 3 = entryFrame m ([.ref x0, .int (zi (q)), .int (zi (how))] : List Value).toArray 3 by rw [hargs], lg_entry_eq]
  generalize (lg_sl ([.ref x0, .int (zi (q)), .int (zi (how))]) ++ List.replicate (3 - (lg_sl ([.ref x0, .int (zi (q)), .int (zi (how))])).length) Slot.unset).toArray = ls at hl ⊢
  have hl : lv_has ls 3 [(0, .ref x0), (1, .int (zi (q))), (2, .int (zi (how)))] := hl
  obtain ⟨QQ, hQQ⟩ : ∃ Q, Q = vx_MQ below QF (XK KI) args s 1 6 (fun _ => False) := ⟨_, rfl⟩
  rw [← hQQ]
  refine lv_aload_n hx hb dX2_vessels_0 rfl (lv_at hl 0 rfl) ?_
  refine lv_iload_n hx hb dX2_vessels_1 rfl (lv_at hl 1 rfl) ?_
  refine rdV (As := [.int (zi (q))]) (rest := []) (n := 1) hx hb hml hown hg (c_X2_needProfile l dC dI x0 pa ba ax ay sp ss vs fr pn bn ln sn (q) hpn hq) (gwV wl_X2_168 wm_X2_needProfile we_X2_needProfile wi_X2 wc_X2_needProfile) rfl rfl (by decide +kernel) ⟨Nat.le_of_ble_eq_true rfl, Nat.le_of_ble_eq_true rfl⟩ (hK.sub [] rfl) (hP.sub [0] rfl) 0 rfl rfl rfl rfl hl.1 rfl (Nat.le_of_ble_eq_true rfl) dX2_vessels_2 ⟨Nat.zero_le _, Nat.zero_le _⟩ ?_
  refine lv_iload_n hx hb dX2_vessels_5 rfl (lv_at hl 2 rfl) ?_
  rw [hQQ]
  exact thS (As := [.int (zi (how))]) (rest := []) (n := 1) hx hb hml hown hg (t_X2_needOneOfTwo l hl0 (how) h_how hbad) (gwS wl_X2_74 wt_X2_needOneOfTwo wi_X2 wc_X2_needOneOfTwo) rfl rfl (by decide +kernel) ⟨Nat.le_of_ble_eq_true rfl, Nat.le_of_ble_eq_true rfl⟩ hE rfl hl.1 rfl (Nat.le_of_ble_eq_true rfl) dX2_vessels_6 ⟨Nat.le_of_ble_eq_true rfl, Nat.le_of_ble_eq_true rfl⟩ hno hlocks

abbrev rm_X2_vessels : Room := { frames := 7, cells := 0, slots := 0, locals := 121 }
set_option maxHeartbeats 4000000 in
set_option maxRecDepth 100000 in
theorem c_vessels_0 (l : Launch) (dC : Nat → ClassId) (dI : Nat → Nat → Nat) (x0 pa ba ax ay sp ss vs fr : Nat) (pn bn ln sn : Nat) (cA : ClassId) (spf ssf : Nat → Int) (q how : Int) (hsn : sn ≤ 60) (hP9 : ∀ j, 0 ≤ spf j ∧ spf j ≤ 5) (hS9 : ∀ j, 0 ≤ ssf j ∧ ssf j ≤ 1000) (hpn : pn ≤ 6) (hq : 0 ≤ q ∧ q < pn) (h0 : how = 0) : Met l yX2_vessels (Cond.code yX2_vessels cX2_vessels 3 ((Option.some Jvm.ClassFile.FieldType.int)) :: gw) rm_X2_vessels (PcR [.ref x0, .int (zi (q)), .int (zi (how))] (dC, dI) vwCl [(x0, .inr (2, [.ref pa, .int (zi ((pn : Int))), .ref ba, .int (zi ((bn : Int))), .ref ax, .ref ay, .int (zi ((ln : Int))), .ref sp, .ref ss, .int (zi ((sn : Int))), .ref vs, .ref fr])), (sp, .inl (cA, 60, .inl (zA (spf)))), (ss, .inl (cA, 60, .inl (zA (ssf))))] [(cA, .int)]) (RdQ (some (.int (zi (Int.tdiv (s_sum spf ssf q sn + 999) 1000))))) 0 0 (fun _ => False) := by
  refine Met.ofW (cc := cX2_vessels) (maxL := 3) (ret := ((Option.some Jvm.ClassFile.FieldType.int))) (by decide) rfl ?_
  intro p e s m args below meth c s₁ B hml hv
  obtain ⟨hargs, hP, hK⟩ := hv
  have hx := B.exec
  have hb := B.bytes
  have hr := B.returns
  have hts := atoms_spec (ws := Cond.code yX2_vessels cX2_vessels 3 ((Option.some Jvm.ClassFile.FieldType.int)) :: gw) B.pre
  have hg : ∀ w ∈ gw, w.before args s = true := fun w h => hts w (List.mem_cons_of_mem _ h)
  have hown : s.vm.findClass RX2 = some m.cls := findClass_of_methodNamed B.named
  have hlocks := B.notSynchronized
  show W p l e rm_X2_vessels s m args below meth c s.heap [] 0 0 _ _
  have hl := lv_entry ([.ref x0, .int (zi (q)), .int (zi (how))]) (n := 3) (Nat.le_of_ble_eq_true rfl)
  rw [show entryFrame m args 3 = entryFrame m ([.ref x0, .int (zi (q)), .int (zi (how))] : List Value).toArray 3 by rw [hargs], lg_entry_eq]
  generalize (lg_sl ([.ref x0, .int (zi (q)), .int (zi (how))]) ++ List.replicate (3 - (lg_sl ([.ref x0, .int (zi (q)), .int (zi (how))])).length) Slot.unset).toArray = ls at hl ⊢
  have hl : lv_has ls 3 [(0, .ref x0), (1, .int (zi (q))), (2, .int (zi (how)))] := hl
  obtain ⟨QQ, hQQ⟩ : ∃ Q, Q = MQ below (RdQ (some (.int (zi (Int.tdiv (s_sum spf ssf q sn + 999) 1000))))) args s 0 0 (fun _ => False) := ⟨_, rfl⟩
  rw [← hQQ]
  have hsb := s_sum_bd (pf := spf) (sf := ssf) (p := q) hS9 sn
  refine lv_aload_n hx hb dX2_vessels_0 rfl (lv_at hl 0 rfl) ?_
  refine lv_iload_n hx hb dX2_vessels_1 rfl (lv_at hl 1 rfl) ?_
  refine rdV (As := [.int (zi (q))]) (rest := []) (n := 1) hx hb hml hown hg (c_X2_needProfile l dC dI x0 pa ba ax ay sp ss vs fr pn bn ln sn (q) hpn hq) (gwV wl_X2_168 wm_X2_needProfile we_X2_needProfile wi_X2 wc_X2_needProfile) rfl rfl (by decide +kernel) ⟨Nat.le_of_ble_eq_true rfl, Nat.le_of_ble_eq_true rfl⟩ (hK.sub [] rfl) (hP.sub [0] rfl) 0 rfl rfl rfl rfl hl.1 rfl (Nat.le_of_ble_eq_true rfl) dX2_vessels_2 ⟨Nat.zero_le _, Nat.zero_le _⟩ ?_
  refine lv_iload_n hx hb dX2_vessels_5 rfl (lv_at hl 2 rfl) ?_
  refine rdS (As := [.int (zi (how))]) (rest := []) (n := 1) hx hb hml hown hg (c_X2_needOneOfTwo l (how) (Or.inl h0)) (gwS wl_X2_74 wt_X2_needOneOfTwo wi_X2 wc_X2_needOneOfTwo) rfl rfl (by decide +kernel) ⟨Nat.le_of_ble_eq_true rfl, Nat.le_of_ble_eq_true rfl⟩ rfl hl.1 rfl (Nat.le_of_ble_eq_true rfl) dX2_vessels_6 ⟨Nat.zero_le _, Nat.zero_le _⟩ ?_
  refine lv_iload_n hx hb dX2_vessels_9 rfl (lv_at hl 2 rfl) ?_
  refine zz_if_ne (tgt := 29) hx hb (by omega) dX2_vessels_10 (by decide) (fun c_10 => ?_) (fun c_10 => ?_)
  · exact False.elim (by omega)
  · refine lv_aload_n hx hb dX2_vessels_13 rfl (lv_at hl 0 rfl) ?_
    refine lv_iload_n hx hb dX2_vessels_14 rfl (lv_at hl 1 rfl) ?_
    refine rdV (As := [.int (zi (q))]) (rest := []) (n := 1) hx hb hml hown hg (c_sumOfShares l dC dI x0 pa ba ax ay sp ss vs fr pn bn ln sn cA spf ssf q hsn hP9 hS9 (by omega)) (gwV wl_X2_178 wm_X2_sumOfShares we_X2_sumOfShares wi_X2 wc_X2_sumOfShares) rfl rfl (by decide +kernel) ⟨Nat.le_of_ble_eq_true rfl, Nat.le_of_ble_eq_true rfl⟩ (hK.sub [0] rfl) (hP.sub [0, 1, 2] rfl) 0 rfl rfl rfl rfl hl.1 rfl (Nat.le_of_ble_eq_true rfl) dX2_vessels_15 ⟨Nat.zero_le _, Nat.zero_le _⟩ ?_
    refine lv_sipush (v := zi (1000)) hx hb dX2_vessels_18 (by decide) ?_
    refine zz_iadd hx hb dX2_vessels_21 ?_
    refine lv_iconst (v := zi (1)) hx hb dX2_vessels_22 rfl ?_
    refine zz_isub hx hb dX2_vessels_23 ?_
    refine zz_topi (z := s_sum spf ssf q sn + 999) (congrArg zi (by omega)) ?_
    refine lv_sipush (v := zi (1000)) hx hb dX2_vessels_24 (by decide) ?_
    refine zz_idiv hx hb (by omega) (by omega) dX2_vessels_27 ?_
    rw [hQQ]
    exact rd_i hx hb hr hlocks rfl dX2_vessels_28

set_option maxHeartbeats 4000000 in
set_option maxRecDepth 100000 in
theorem c_vessels_1 (l : Launch) (dC : Nat → ClassId) (dI : Nat → Nat → Nat) (sz : Nat) (x0 pa ba ax ay sp ss vs fr : Nat) (pn bn ln sn : Nat) (cA : ClassId) (spf ssf : Nat → Int) (v0 : Nat → Int) (q how : Int) (hsn : sn ≤ 60) (hP9 : ∀ j, 0 ≤ spf j ∧ spf j ≤ 5) (hS9 : ∀ j, 0 ≤ ssf j ∧ ssf j ≤ 1000) (hpn : pn ≤ 6) (hq : 0 ≤ q ∧ q < pn) (hV0 : ∀ j, 0 ≤ v0 j ∧ v0 j ≤ 1000) (h1 : how = 1) : Met l yX2_vessels (Cond.code yX2_vessels cX2_vessels 3 ((Option.some Jvm.ClassFile.FieldType.int)) :: gw) rm_X2_vessels (PcW [.ref x0, .int (zi (q)), .int (zi (how))] (dC, dI) vwCl [(x0, .inr (2, [.ref pa, .int (zi ((pn : Int))), .ref ba, .int (zi ((bn : Int))), .ref ax, .ref ay, .int (zi ((ln : Int))), .ref sp, .ref ss, .int (zi ((sn : Int))), .ref vs, .ref fr])), (sp, .inl (cA, 60, .inl (zA (spf)))), (ss, .inl (cA, 60, .inl (zA (ssf)))), (vs, .inl (cA, 60, .inl (zA (v0))))] [(cA, .int)] sz) (WrQ (some (.int (zi ((((s_ves spf ssf q v0 sn).1 : Nat)) : Int)))) (dC, dI) vwCl [(x0, .inr (2, [.ref pa, .int (zi ((pn : Int))), .ref ba, .int (zi ((bn : Int))), .ref ax, .ref ay, .int (zi ((ln : Int))), .ref sp, .ref ss, .int (zi ((sn : Int))), .ref vs, .ref fr])), (sp, .inl (cA, 60, .inl (zA (spf)))), (ss, .inl (cA, 60, .inl (zA (ssf)))), (vs, .inl (cA, 60, .inl (zA ((s_ves spf ssf q v0 sn).2))))] (va_A [(x0, .inr (2, [.ref pa, .int (zi ((pn : Int))), .ref ba, .int (zi ((bn : Int))), .ref ax, .ref ay, .int (zi ((ln : Int))), .ref sp, .ref ss, .int (zi ((sn : Int))), .ref vs, .ref fr])), (sp, .inl (cA, 60, .inl (zA (spf)))), (ss, .inl (cA, 60, .inl (zA (ssf)))), (vs, .inl (cA, 60, .inl (zA (v0))))] sz)) 0 0 (va_A [(x0, .inr (2, [.ref pa, .int (zi ((pn : Int))), .ref ba, .int (zi ((bn : Int))), .ref ax, .ref ay, .int (zi ((ln : Int))), .ref sp, .ref ss, .int (zi ((sn : Int))), .ref vs, .ref fr])), (sp, .inl (cA, 60, .inl (zA (spf)))), (ss, .inl (cA, 60, .inl (zA (ssf)))), (vs, .inl (cA, 60, .inl (zA (v0))))] sz) := by
  refine Met.ofW (cc := cX2_vessels) (maxL := 3) (ret := ((Option.some Jvm.ClassFile.FieldType.int))) (by decide) rfl ?_
  intro p e s m args below meth c s₁ B hml hv
  obtain ⟨hargs, hsz, hP, hK, hD0⟩ := hv
  have hx := B.exec
  have hb := B.bytes
  have hr := B.returns
  have hts := atoms_spec (ws := Cond.code yX2_vessels cX2_vessels 3 ((Option.some Jvm.ClassFile.FieldType.int)) :: gw) B.pre
  have hg : ∀ w ∈ gw, w.before args s = true := fun w h => hts w (List.mem_cons_of_mem _ h)
  have hown : s.vm.findClass RX2 = some m.cls := findClass_of_methodNamed B.named
  have hlocks := B.notSynchronized
  subst hsz
  have hD := hD0.self (sz := s.heap.size)
  generalize hAe : va_A [(x0, .inr (2, [.ref pa, .int (zi ((pn : Int))), .ref ba, .int (zi ((bn : Int))), .ref ax, .ref ay, .int (zi ((ln : Int))), .ref sp, .ref ss, .int (zi ((sn : Int))), .ref vs, .ref fr])), (sp, .inl (cA, 60, .inl (zA (spf)))), (ss, .inl (cA, 60, .inl (zA (ssf)))), (vs, .inl (cA, 60, .inl (zA (v0))))] s.heap.size = A at hD ⊢
  have hA : ∀ q : Nat, s.heap.size ≤ q → A q := fun q h => by rw [← hAe]; exact Or.inr h
  show W p l e rm_X2_vessels s m args below meth c s.heap [] 0 0 _ _
  have hl := lv_entry ([.ref x0, .int (zi (q)), .int (zi (how))]) (n := 3) (Nat.le_of_ble_eq_true rfl)
  rw [show entryFrame m args 3 = entryFrame m ([.ref x0, .int (zi (q)), .int (zi (how))] : List Value).toArray 3 by rw [hargs], lg_entry_eq]
  generalize (lg_sl ([.ref x0, .int (zi (q)), .int (zi (how))]) ++ List.replicate (3 - (lg_sl ([.ref x0, .int (zi (q)), .int (zi (how))])).length) Slot.unset).toArray = ls at hl ⊢
  have hl : lv_has ls 3 [(0, .ref x0), (1, .int (zi (q))), (2, .int (zi (how)))] := hl
  obtain ⟨QQ, hQQ⟩ : ∃ Q, Q = MQ below (WrQ (some (.int (zi ((((s_ves spf ssf q v0 sn).1 : Nat)) : Int)))) (dC, dI) vwCl [(x0, .inr (2, [.ref pa, .int (zi ((pn : Int))), .ref ba, .int (zi ((bn : Int))), .ref ax, .ref ay, .int (zi ((ln : Int))), .ref sp, .ref ss, .int (zi ((sn : Int))), .ref vs, .ref fr])), (sp, .inl (cA, 60, .inl (zA (spf)))), (ss, .inl (cA, 60, .inl (zA (ssf)))), (vs, .inl (cA, 60, .inl (zA ((s_ves spf ssf q v0 sn).2))))] A) args s 0 0 A := ⟨_, rfl⟩
  rw [← hQQ]
  obtain ⟨H, hHe⟩ : ∃ H : Heap, H = s.heap := ⟨_, rfl⟩
  obtain ⟨locs, hlc⟩ : ∃ x : List Loc, x = [] := ⟨_, rfl⟩
  have hS : va_S A s.heap H locs := by rw [hHe, hlc]; exact va_S.rf
  have hP : va_P (dC, dI) vwCl [(x0, .inr (2, [.ref pa, .int (zi ((pn : Int))), .ref ba, .int (zi ((bn : Int))), .ref ax, .ref ay, .int (zi ((ln : Int))), .ref sp, .ref ss, .int (zi ((sn : Int))), .ref vs, .ref fr])), (sp, .inl (cA, 60, .inl (zA (spf)))), (ss, .inl (cA, 60, .inl (zA (ssf)))), (vs, .inl (cA, 60, .inl (zA (v0))))] H := by rw [hHe]; exact hP
  have hD : va_D A [(x0, .inr (2, [.ref pa, .int (zi ((pn : Int))), .ref ba, .int (zi ((bn : Int))), .ref ax, .ref ay, .int (zi ((ln : Int))), .ref sp, .ref ss, .int (zi ((sn : Int))), .ref vs, .ref fr])), (sp, .inl (cA, 60, .inl (zA (spf)))), (ss, .inl (cA, 60, .inl (zA (ssf)))), (vs, .inl (cA, 60, .inl (zA (v0))))] := hD
  rw [← hHe, ← hlc]
  refine lv_aload_n hx hb dX2_vessels_0 rfl (lv_at hl 0 rfl) ?_
  refine lv_iload_n hx hb dX2_vessels_1 rfl (lv_at hl 1 rfl) ?_
  refine rdV (As := [.int (zi (q))]) (rest := []) (n := 1) hx hb hml hown hg (c_X2_needProfile l dC dI x0 pa ba ax ay sp ss vs fr pn bn ln sn (q) hpn hq) (gwV wl_X2_168 wm_X2_needProfile we_X2_needProfile wi_X2 wc_X2_needProfile) rfl rfl (by decide +kernel) ⟨Nat.le_of_ble_eq_true rfl, Nat.le_of_ble_eq_true rfl⟩ (hK.sub [] rfl) (hP.sub [0] rfl) 0 rfl rfl rfl rfl hl.1 rfl (Nat.le_of_ble_eq_true rfl) dX2_vessels_2 ⟨Nat.zero_le _, Nat.zero_le _⟩ ?_
  refine lv_iload_n hx hb dX2_vessels_5 rfl (lv_at hl 2 rfl) ?_
  refine rdS (As := [.int (zi (how))]) (rest := []) (n := 1) hx hb hml hown hg (c_X2_needOneOfTwo l (how) (Or.inr h1)) (gwS wl_X2_74 wt_X2_needOneOfTwo wi_X2 wc_X2_needOneOfTwo) rfl rfl (by decide +kernel) ⟨Nat.le_of_ble_eq_true rfl, Nat.le_of_ble_eq_true rfl⟩ rfl hl.1 rfl (Nat.le_of_ble_eq_true rfl) dX2_vessels_6 ⟨Nat.zero_le _, Nat.zero_le _⟩ ?_
  refine lv_iload_n hx hb dX2_vessels_9 rfl (lv_at hl 2 rfl) ?_
  refine zz_if_ne (tgt := 29) hx hb (by omega) dX2_vessels_10 (by decide) (fun c_10 => ?_) (fun c_10 => ?_)
  · refine lv_aload_n hx hb dX2_vessels_29 rfl (lv_at hl 0 rfl) ?_
    refine lv_iload_n hx hb dX2_vessels_30 rfl (lv_at hl 1 rfl) ?_
    refine wrV (As := [.int (zi (q))]) (rest := []) (n := 1) (ws' := [(x0, .inr (2, [.ref pa, .int (zi ((pn : Int))), .ref ba, .int (zi ((bn : Int))), .ref ax, .ref ay, .int (zi ((ln : Int))), .ref sp, .ref ss, .int (zi ((sn : Int))), .ref vs, .ref fr])), (sp, .inl (cA, 60, .inl (zA (spf)))), (ss, .inl (cA, 60, .inl (zA (ssf)))), (vs, .inl (cA, 60, .inl (zA ((s_ves spf ssf q v0 sn).2))))]) hx hb hml hown hg (c_vesselsBySherds l dC dI H.size x0 pa ba ax ay sp ss vs fr pn bn ln sn cA spf ssf v0 q hsn hP9 hS9 hV0 (by omega)) (gwV wl_X2_181 wm_X2_vesselsBySherds we_X2_vesselsBySherds wi_X2 wc_X2_vesselsBySherds) rfl rfl (by decide +kernel) ⟨Nat.le_of_ble_eq_true rfl, Nat.le_of_ble_eq_true rfl⟩ (hK.sub [0] rfl) hP hD hS hA [0, 1, 2, 3] rfl (by decide) [(true, 0), (true, 1), (true, 2), (true, 3)] rfl (by decide) rfl 0 rfl rfl rfl rfl hl.1 rfl (Nat.le_of_ble_eq_true rfl) dX2_vessels_31 ⟨Nat.zero_le _, Nat.zero_le _⟩ (fun H locs hP hD hS => ?_)
    have hP9 : va_P (dC, dI) vwCl [(x0, .inr (2, [.ref pa, .int (zi ((pn : Int))), .ref ba, .int (zi ((bn : Int))), .ref ax, .ref ay, .int (zi ((ln : Int))), .ref sp, .ref ss, .int (zi ((sn : Int))), .ref vs, .ref fr])), (sp, .inl (cA, 60, .inl (zA (spf)))), (ss, .inl (cA, 60, .inl (zA (ssf)))), (vs, .inl (cA, 60, .inl (zA ((s_ves spf ssf q v0 sn).2))))] H := hP
    rw [hQQ]
    exact wr_i hx hb hr hlocks rfl hP9 hS dX2_vessels_34
  · exact False.elim (by omega)
