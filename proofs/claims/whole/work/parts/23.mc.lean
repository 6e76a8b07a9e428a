def m_tm (x : Nat × Nat) (by_ : Nat) : Nat := x.1 * by_ / x.2
def m_enc (x : Nat × Nat) (en : Int) : Int := if en = 0 then ((x.1 * 314159265 / x.2 / 100000000 : Nat) : Int) else ((x.1 * 314159266 / x.2 / 100000000 + (if 0 < x.1 * 314159266 % x.2 ∨ 0 < x.1 * 314159266 / x.2 % 100000000 then 1 else 0) : Nat) : Int)
theorem m_sc2 {hs rs : Nat → Int} {k : Nat} {wall x : Int} : (max 0 (rs k - wall)) * (hs (k + 1) - hs k) + (max 0 (rs (k + 1) - wall) - max 0 (rs k - wall)) * (x - hs k) = p_sc hs rs (k + 1) wall x := m_sc
abbrev rm_X3_addPiece : Room := { frames := 3, cells := 0, slots := 0, locals := 77 }
set_option maxHeartbeats 4000000 in
set_option maxRecDepth 100000 in
theorem c_X3_addPiece (l : Launch) (dC : Nat → ClassId) (dI : Nat → Nat → Nat) (sz : Nat) (m0 a1 a2 a3 a4 a5 a6 a7 a8 a9 a10 a11 : Nat) (tw : Int) (x : Nat × Nat) (mp mb ml mz : Nat) (cA : ClassId) (j n : Nat) (sf hh rr hs rs : Nat → Int) (k : Nat) (low high wall : Int) (hj : j < 6) (hsf : sf j = (n : Int)) (hhs : ∀ k, k < 12 → hh (12 * j + k) = hs k) (hrs : ∀ k, k < 12 → rr (12 * j + k) = rs k) (hn : n ≤ 12) (hH : ∀ j, 0 ≤ hs j ∧ hs j ≤ 400) (hR : ∀ j, 0 ≤ rs j ∧ rs j ≤ 200) (hk : k + 1 < 12) (hw : 0 ≤ wall ∧ wall ≤ 50) (hl1 : hs k ≤ low) (hl2 : low < high) (hl3 : high ≤ hs (k + 1)) (hok : m_ok x (p_u hs rs wall low high (k + 1)) (p_q hs (k + 1))) : Met l yX3_addPiece (Cond.code yX3_addPiece cX3_addPiece 16 ((Option.none : Option Jvm.ClassFile.FieldType)) :: gw) rm_X3_addPiece (PcW [.ref m0, .int (zi ((j : Int))), .int (zi ((k : Int))), .int (zi (low)), .int (zi (high)), .int (zi (wall))] (dC, dI) vwCl [(m0, .inr (3, [.int (zi (tw)), .int (zi ((mp : Int))), .ref a1, .ref a2, .ref a3, .ref a4, .ref a5, .ref a6, .int (zi ((mb : Int))), .ref a7, .ref a8, .int (zi ((ml : Int))), .ref a9, .ref a10, .int (zi ((mz : Int))), .ref a11, .long (zl ((((x).1 : Nat) : Int))), .long (zl ((((x).2 : Nat) : Int)))])), (a1, .inl (cA, 6, .inl (zA (sf)))), (a2, .inl (cA, 72, .inl (zA (hh)))), (a3, .inl (cA, 72, .inl (zA (rr))))] [(cA, .int)] sz) (WrQ (none) (dC, dI) vwCl [(m0, .inr (3, [.int (zi (tw)), .int (zi ((mp : Int))), .ref a1, .ref a2, .ref a3, .ref a4, .ref a5, .ref a6, .int (zi ((mb : Int))), .ref a7, .ref a8, .int (zi ((ml : Int))), .ref a9, .ref a10, .int (zi ((mz : Int))), .ref a11, .long (zl ((((m_add x (p_u hs rs wall low high (k + 1)) (p_q hs (k + 1))).1 : Nat) : Int))), .long (zl ((((m_add x (p_u hs rs wall low high (k + 1)) (p_q hs (k + 1))).2 : Nat) : Int)))])), (a1, .inl (cA, 6, .inl (zA (sf)))), (a2, .inl (cA, 72, .inl (zA (hh)))), (a3, .inl (cA, 72, .inl (zA (rr))))] (va_A [(m0, .inr (3, [.int (zi (tw)), .int (zi ((mp : Int))), .ref a1, .ref a2, .ref a3, .ref a4, .ref a5, .ref a6, .int (zi ((mb : Int))), .ref a7, .ref a8, .int (zi ((ml : Int))), .ref a9, .ref a10, .int (zi ((mz : Int))), .ref a11, .long (zl ((((x).1 : Nat) : Int))), .long (zl ((((x).2 : Nat) : Int)))])), (a1, .inl (cA, 6, .inl (zA (sf)))), (a2, .inl (cA, 72, .inl (zA (hh)))), (a3, .inl (cA, 72, .inl (zA (rr))))] sz)) 0 0 (va_A [(m0, .inr (3, [.int (zi (tw)), .int (zi ((mp : Int))), .ref a1, .ref a2, .ref a3, .ref a4, .ref a5, .ref a6, .int (zi ((mb : Int))), .ref a7, .ref a8, .int (zi ((ml : Int))), .ref a9, .ref a10, .int (zi ((mz : Int))), .ref a11, .long (zl ((((x).1 : Nat) : Int))), .long (zl ((((x).2 : Nat) : Int)))])), (a1, .inl (cA, 6, .inl (zA (sf)))), (a2, .inl (cA, 72, .inl (zA (hh)))), (a3, .inl (cA, 72, .inl (zA (rr))))] sz) := by
  refine Met.ofW (cc := cX3_addPiece) (maxL := 16) (ret := ((Option.none : Option Jvm.ClassFile.FieldType))) (by decide) rfl ?_
  intro p e s m args below meth c s₁ B hml hv
  obtain ⟨hargs, hsz, hP, hK, hD0⟩ := hv
  have hx := B.exec
  have hb := B.bytes
  have hr := B.returns
  have hts := atoms_spec (ws := Cond.code yX3_addPiece cX3_addPiece 16 ((Option.none : Option Jvm.ClassFile.FieldType)) :: gw) B.pre
  have hg : ∀ w ∈ gw, w.before args s = true := fun w h => hts w (List.mem_cons_of_mem _ h)
  have hown : s.vm.findClass RX3 = some m.cls := findClass_of_methodNamed B.named
  have hlocks := B.notSynchronized
  subst hsz
  have hD := hD0.self (sz := s.heap.size)
  generalize hAe : va_A [(m0, .inr (3, [.int (zi (tw)), .int (zi ((mp : Int))), .ref a1, .ref a2, .ref a3, .ref a4, .ref a5, .ref a6, .int (zi ((mb : Int))), .ref a7, .ref a8, .int (zi ((ml : Int))), .ref a9, .ref a10, .int (zi ((mz : Int))), .ref a11, .long (zl ((((x).1 : Nat) : Int))), .long (zl ((((x).2 : Nat) : Int)))])), (a1, .inl (cA, 6, .inl (zA (sf)))), (a2, .inl (cA, 72, .inl (zA (hh)))), (a3, .inl (cA, 72, .inl (zA (rr))))] s.heap.size = A at hD ⊢
  have hA : ∀ q : Nat, s.heap.size ≤ q → A q := fun q h => by rw [← hAe]; exact Or.inr h
  show W p l e rm_X3_addPiece s m args below meth c s.heap [] 0 0 _ _
  have hl := lv_entry ([.ref m0, .int (zi ((j : Int))), .int (zi ((k : Int))), .int (zi (low)), .int (zi (high)), .int (zi (wall))]) (n := 16) (Nat.le_of_ble_eq_true rfl)
  rw [show entryFrame m args 16 = entryFrame m ([.ref m0, .int (zi ((j : Int))), .int (zi ((k : Int))), .int (zi (low)), .int (zi (high)), .int (zi (wall))] : List Value).toArray 16 by rw [hargs], lg_entry_eq]
  generalize (lg_sl ([.ref m0, .int (zi ((j : Int))), .int (zi ((k : Int))), .int (zi (low)), .int (zi (high)), .int (zi (wall))]) ++ List.replicate (16 - (lg_sl ([.ref m0, .int (zi ((j : Int))), .int (zi ((k : Int))), .int (zi (low)), .int (zi (high)), .int (zi (wall))])).length) Slot.unset).toArray = ls at hl ⊢
  have hl : lv_has ls 16 [(0, .ref m0), (1, .int (zi ((j : Int)))), (2, .int (zi ((k : Int)))), (3, .int (zi (low))), (4, .int (zi (high))), (5, .int (zi (wall)))] := hl
  obtain ⟨QQ, hQQ⟩ : ∃ Q, Q = MQ below (WrQ (none) (dC, dI) vwCl [(m0, .inr (3, [.int (zi (tw)), .int (zi ((mp : Int))), .ref a1, .ref a2, .ref a3, .ref a4, .ref a5, .ref a6, .int (zi ((mb : Int))), .ref a7, .ref a8, .int (zi ((ml : Int))), .ref a9, .ref a10, .int (zi ((mz : Int))), .ref a11, .long (zl ((((m_add x (p_u hs rs wall low high (k + 1)) (p_q hs (k + 1))).1 : Nat) : Int))), .long (zl ((((m_add x (p_u hs rs wall low high (k + 1)) (p_q hs (k + 1))).2 : Nat) : Int)))])), (a1, .inl (cA, 6, .inl (zA (sf)))), (a2, .inl (cA, 72, .inl (zA (hh)))), (a3, .inl (cA, 72, .inl (zA (rr))))] A) args s 0 0 A := ⟨_, rfl⟩
  rw [← hQQ]
  obtain ⟨H, hHe⟩ : ∃ H : Heap, H = s.heap := ⟨_, rfl⟩
  obtain ⟨locs, hlc⟩ : ∃ x : List Loc, x = [] := ⟨_, rfl⟩
  have hS : va_S A s.heap H locs := by rw [hHe, hlc]; exact va_S.rf
  have hP : va_P (dC, dI) vwCl [(m0, .inr (3, [.int (zi (tw)), .int (zi ((mp : Int))), .ref a1, .ref a2, .ref a3, .ref a4, .ref a5, .ref a6, .int (zi ((mb : Int))), .ref a7, .ref a8, .int (zi ((ml : Int))), .ref a9, .ref a10, .int (zi ((mz : Int))), .ref a11, .long (zl ((((x).1 : Nat) : Int))), .long (zl ((((x).2 : Nat) : Int)))])), (a1, .inl (cA, 6, .inl (zA (sf)))), (a2, .inl (cA, 72, .inl (zA (hh)))), (a3, .inl (cA, 72, .inl (zA (rr))))] H := by rw [hHe]; exact hP
  have hD : va_D A [(m0, .inr (3, [.int (zi (tw)), .int (zi ((mp : Int))), .ref a1, .ref a2, .ref a3, .ref a4, .ref a5, .ref a6, .int (zi ((mb : Int))), .ref a7, .ref a8, .int (zi ((ml : Int))), .ref a9, .ref a10, .int (zi ((mz : Int))), .ref a11, .long (zl ((((x).1 : Nat) : Int))), .long (zl ((((x).2 : Nat) : Int)))])), (a1, .inl (cA, 6, .inl (zA (sf)))), (a2, .inl (cA, 72, .inl (zA (hh)))), (a3, .inl (cA, 72, .inl (zA (rr))))] := hD
  rw [← hHe, ← hlc]
  have hqb := p_q_bd (hs := hs) (k := k + 1) hH (show hs k < hs (k + 1) by omega)
  refine lv_aload_n hx hb dX3_addPiece_0 rfl (lv_at hl 0 rfl) ?_
  refine lv_iload_n hx hb dX3_addPiece_1 rfl (lv_at hl 1 rfl) ?_
  refine lv_iload_n hx hb dX3_addPiece_2 rfl (lv_at hl 2 rfl) ?_
  refine lv_iconst (v := zi (1)) hx hb dX3_addPiece_3 rfl ?_
  refine zz_iadd hx hb dX3_addPiece_4 ?_
  refine zz_topi (z := ((k + 1 : Nat) : Int)) (congrArg zi (by omega)) ?_
  refine rdV (As := [.int (zi ((j : Int))), .int (zi (((k + 1 : Nat) : Int)))]) (rest := []) (n := 2) hx hb hml hown hg (c_X3_height l dC dI m0 a1 a2 a3 a4 a5 a6 a7 a8 a9 a10 a11 (tw) ((((x).1 : Nat) : Int)) ((((x).2 : Nat) : Int)) mp mb ml mz cA j hh hs (k + 1) hj hhs (by omega)) (gwV wl_X3_63 wm_X3_height we_X3_height wi_X3 wc_X3_height) rfl rfl (by decide +kernel) ⟨Nat.le_of_ble_eq_true rfl, Nat.le_of_ble_eq_true rfl⟩ (hK.sub [0] rfl) (hP.sub [0, 2] rfl) 0 rfl rfl rfl rfl hl.1 rfl (Nat.le_of_ble_eq_true rfl) dX3_addPiece_5 ⟨Nat.zero_le _, Nat.zero_le _⟩ ?_
  have hv_1 := hH (k + 1)
  refine lv_aload_n hx hb dX3_addPiece_8 rfl (lv_at hl 0 rfl) ?_
  refine lv_iload_n hx hb dX3_addPiece_9 rfl (lv_at hl 1 rfl) ?_
  refine lv_iload_n hx hb dX3_addPiece_10 rfl (lv_at hl 2 rfl) ?_
  refine rdV (As := [.int (zi ((j : Int))), .int (zi ((k : Int)))]) (rest := [.int (zi (hs (k + 1)))]) (n := 2) hx hb hml hown hg (c_X3_height l dC dI m0 a1 a2 a3 a4 a5 a6 a7 a8 a9 a10 a11 (tw) ((((x).1 : Nat) : Int)) ((((x).2 : Nat) : Int)) mp mb ml mz cA j hh hs (k) hj hhs (by omega)) (gwV wl_X3_63 wm_X3_height we_X3_height wi_X3 wc_X3_height) rfl rfl (by decide +kernel) ⟨Nat.le_of_ble_eq_true rfl, Nat.le_of_ble_eq_true rfl⟩ (hK.sub [0] rfl) (hP.sub [0, 2] rfl) 0 rfl rfl rfl rfl hl.1 rfl (Nat.le_of_ble_eq_true rfl) dX3_addPiece_11 ⟨Nat.zero_le _, Nat.zero_le _⟩ ?_
  have hv_2 := hH (k)
  refine zz_isub hx hb dX3_addPiece_14 ?_
  refine zz_i2l hx hb (by omega) dX3_addPiece_15 ?_
  refine lv_lstore (lv' := [(6, .long (zl ((hs (k + 1)) - (hs (k))))), (0, .ref m0), (1, .int (zi ((j : Int)))), (2, .int (zi ((k : Int)))), (3, .int (zi (low))), (4, .int (zi (high))), (5, .int (zi (wall)))]) hx hb dX3_addPiece_16 hl (by decide) rfl (fun ls hl => ?_)
  refine lv_aload_n hx hb dX3_addPiece_18 rfl (lv_at hl 1 rfl) ?_
  refine lv_iload_n hx hb dX3_addPiece_19 rfl (lv_at hl 2 rfl) ?_
  refine lv_iload_n hx hb dX3_addPiece_20 rfl (lv_at hl 3 rfl) ?_
  refine rdV (As := [.int (zi ((j : Int))), .int (zi ((k : Int)))]) (rest := []) (n := 2) hx hb hml hown hg (c_X3_radiusAt l dC dI m0 a1 a2 a3 a4 a5 a6 a7 a8 a9 a10 a11 (tw) ((((x).1 : Nat) : Int)) ((((x).2 : Nat) : Int)) mp mb ml mz cA j rr rs (k) hj hrs (by omega)) (gwV wl_X3_67 wm_X3_radiusAt we_X3_radiusAt wi_X3 wc_X3_radiusAt) rfl rfl (by decide +kernel) ⟨Nat.le_of_ble_eq_true rfl, Nat.le_of_ble_eq_true rfl⟩ (hK.sub [0] rfl) (hP.sub [0, 3] rfl) 0 rfl rfl rfl rfl hl.1 rfl (Nat.le_of_ble_eq_true rfl) dX3_addPiece_21 ⟨Nat.zero_le _, Nat.zero_le _⟩ ?_
  have hv_3 := hR (k)
  refine lv_iload hx hb dX3_addPiece_24 (lv_at hl 6 rfl) ?_
  refine rdS (As := [.int (zi (rs (k))), .int (zi (wall))]) (rest := []) (n := 2) hx hb hml hown hg (c_X3_less l (rs (k)) (wall) (by omega) (by omega)) (gwS wl_X3_94 wt_X3_less wi_X3 wc_X3_less) rfl rfl (by decide +kernel) ⟨Nat.le_of_ble_eq_true rfl, Nat.le_of_ble_eq_true rfl⟩ rfl hl.1 rfl (Nat.le_of_ble_eq_true rfl) dX3_addPiece_26 ⟨Nat.zero_le _, Nat.zero_le _⟩ ?_
  refine zz_i2l hx hb (by omega) dX3_addPiece_29 ?_
  refine lv_lstore (lv' := [(8, .long (zl (max 0 (rs (k) - wall)))), (6, .long (zl ((hs (k + 1)) - (hs (k))))), (0, .ref m0), (1, .int (zi ((j : Int)))), (2, .int (zi ((k : Int)))), (3, .int (zi (low))), (4, .int (zi (high))), (5, .int (zi (wall)))]) hx hb dX3_addPiece_30 hl (by decide) rfl (fun ls hl => ?_)
  refine lv_aload_n hx hb dX3_addPiece_32 rfl (lv_at hl 2 rfl) ?_
  refine lv_iload_n hx hb dX3_addPiece_33 rfl (lv_at hl 3 rfl) ?_
  refine lv_iload_n hx hb dX3_addPiece_34 rfl (lv_at hl 4 rfl) ?_
  refine lv_iconst (v := zi (1)) hx hb dX3_addPiece_35 rfl ?_
  refine zz_iadd hx hb dX3_addPiece_36 ?_
  refine zz_topi (z := ((k + 1 : Nat) : Int)) (congrArg zi (by omega)) ?_
  refine rdV (As := [.int (zi ((j : Int))), .int (zi (((k + 1 : Nat) : Int)))]) (rest := []) (n := 2) hx hb hml hown hg (c_X3_radiusAt l dC dI m0 a1 a2 a3 a4 a5 a6 a7 a8 a9 a10 a11 (tw) ((((x).1 : Nat) : Int)) ((((x).2 : Nat) : Int)) mp mb ml mz cA j rr rs (k + 1) hj hrs (by omega)) (gwV wl_X3_67 wm_X3_radiusAt we_X3_radiusAt wi_X3 wc_X3_radiusAt) rfl rfl (by decide +kernel) ⟨Nat.le_of_ble_eq_true rfl, Nat.le_of_ble_eq_true rfl⟩ (hK.sub [0] rfl) (hP.sub [0, 3] rfl) 0 rfl rfl rfl rfl hl.1 rfl (Nat.le_of_ble_eq_true rfl) dX3_addPiece_37 ⟨Nat.zero_le _, Nat.zero_le _⟩ ?_
  have hv_4 := hR (k + 1)
  refine lv_iload hx hb dX3_addPiece_40 (lv_at hl 7 rfl) ?_
  refine rdS (As := [.int (zi (rs (k + 1))), .int (zi (wall))]) (rest := []) (n := 2) hx hb hml hown hg (c_X3_less l (rs (k + 1)) (wall) (by omega) (by omega)) (gwS wl_X3_94 wt_X3_less wi_X3 wc_X3_less) rfl rfl (by decide +kernel) ⟨Nat.le_of_ble_eq_true rfl, Nat.le_of_ble_eq_true rfl⟩ rfl hl.1 rfl (Nat.le_of_ble_eq_true rfl) dX3_addPiece_42 ⟨Nat.zero_le _, Nat.zero_le _⟩ ?_
  refine zz_i2l hx hb (by omega) dX3_addPiece_45 ?_
  refine lv_lstore (lv' := [(10, .long (zl (max 0 (rs (k + 1) - wall)))), (8, .long (zl (max 0 (rs (k) - wall)))), (6, .long (zl ((hs (k + 1)) - (hs (k))))), (0, .ref m0), (1, .int (zi ((j : Int)))), (2, .int (zi ((k : Int)))), (3, .int (zi (low))), (4, .int (zi (high))), (5, .int (zi (wall)))]) hx hb dX3_addPiece_46 hl (by decide) rfl (fun ls hl => ?_)
  refine lv_lload hx hb dX3_addPiece_48 (lv_at hl 1 rfl) ?_
  refine lv_lload hx hb dX3_addPiece_50 (lv_at hl 2 rfl) ?_
  refine zz_lmul hx hb dX3_addPiece_52 ?_
  refine lv_lload hx hb dX3_addPiece_53 (lv_at hl 0 rfl) ?_
  refine lv_lload hx hb dX3_addPiece_55 (lv_at hl 1 rfl) ?_
  refine zz_lsub hx hb dX3_addPiece_57 ?_
  refine lv_iload_n hx hb dX3_addPiece_58 rfl (lv_at hl 6 rfl) ?_
  refine lv_aload_n hx hb dX3_addPiece_59 rfl (lv_at hl 3 rfl) ?_
  refine lv_iload_n hx hb dX3_addPiece_60 rfl (lv_at hl 4 rfl) ?_
  refine lv_iload_n hx hb dX3_addPiece_61 rfl (lv_at hl 5 rfl) ?_
  refine rdV (As := [.int (zi ((j : Int))), .int (zi ((k : Int)))]) (rest := [.int (zi (low)), .long (zl ((max 0 (rs (k + 1) - wall)) - (max 0 (rs (k) - wall)))), .long (zl ((max 0 (rs (k) - wall)) * ((hs (k + 1)) - (hs (k)))))]) (n := 2) hx hb hml hown hg (c_X3_height l dC dI m0 a1 a2 a3 a4 a5 a6 a7 a8 a9 a10 a11 (tw) ((((x).1 : Nat) : Int)) ((((x).2 : Nat) : Int)) mp mb ml mz cA j hh hs (k) hj hhs (by omega)) (gwV wl_X3_63 wm_X3_height we_X3_height wi_X3 wc_X3_height) rfl rfl (by decide +kernel) ⟨Nat.le_of_ble_eq_true rfl, Nat.le_of_ble_eq_true rfl⟩ (hK.sub [0] rfl) (hP.sub [0, 2] rfl) 0 rfl rfl rfl rfl hl.1 rfl (Nat.le_of_ble_eq_true rfl) dX3_addPiece_62 ⟨Nat.zero_le _, Nat.zero_le _⟩ ?_
  have hv_5 := hH (k)
  refine zz_isub hx hb dX3_addPiece_65 ?_
  refine zz_i2l hx hb (by omega) dX3_addPiece_66 ?_
  refine zz_lmul hx hb dX3_addPiece_67 ?_
  refine zz_ladd hx hb dX3_addPiece_68 ?_
  refine zz_topl (z := p_sc hs rs (k + 1) wall low) (congrArg zl m_sc2) ?_
  refine lv_lstore (lv' := [(12, .long (zl (p_sc hs rs (k + 1) wall low))), (10, .long (zl (max 0 (rs (k + 1) - wall)))), (8, .long (zl (max 0 (rs (k) - wall)))), (6, .long (zl ((hs (k + 1)) - (hs (k))))), (0, .ref m0), (1, .int (zi ((j : Int)))), (2, .int (zi ((k : Int)))), (3, .int (zi (low))), (4, .int (zi (high))), (5, .int (zi (wall)))]) hx hb dX3_addPiece_69 hl (by decide) rfl (fun ls hl => ?_)
  refine lv_lload hx hb dX3_addPiece_71 (lv_at hl 2 rfl) ?_
  refine lv_lload hx hb dX3_addPiece_73 (lv_at hl 3 rfl) ?_
  refine zz_lmul hx hb dX3_addPiece_75 ?_
  refine lv_lload hx hb dX3_addPiece_76 (lv_at hl 1 rfl) ?_
  refine lv_lload hx hb dX3_addPiece_78 (lv_at hl 2 rfl) ?_
  refine zz_lsub hx hb dX3_addPiece_80 ?_
  refine lv_iload hx hb dX3_addPiece_81 (lv_at hl 8 rfl) ?_
  refine lv_aload_n hx hb dX3_addPiece_83 rfl (lv_at hl 4 rfl) ?_
  refine lv_iload_n hx hb dX3_addPiece_84 rfl (lv_at hl 5 rfl) ?_
  refine lv_iload_n hx hb dX3_addPiece_85 rfl (lv_at hl 6 rfl) ?_
  refine rdV (As := [.int (zi ((j : Int))), .int (zi ((k : Int)))]) (rest := [.int (zi (high)), .long (zl ((max 0 (rs (k + 1) - wall)) - (max 0 (rs (k) - wall)))), .long (zl ((max 0 (rs (k) - wall)) * ((hs (k + 1)) - (hs (k)))))]) (n := 2) hx hb hml hown hg (c_X3_height l dC dI m0 a1 a2 a3 a4 a5 a6 a7 a8 a9 a10 a11 (tw) ((((x).1 : Nat) : Int)) ((((x).2 : Nat) : Int)) mp mb ml mz cA j hh hs (k) hj hhs (by omega)) (gwV wl_X3_63 wm_X3_height we_X3_height wi_X3 wc_X3_height) rfl rfl (by decide +kernel) ⟨Nat.le_of_ble_eq_true rfl, Nat.le_of_ble_eq_true rfl⟩ (hK.sub [0] rfl) (hP.sub [0, 2] rfl) 0 rfl rfl rfl rfl hl.1 rfl (Nat.le_of_ble_eq_true rfl) dX3_addPiece_86 ⟨Nat.zero_le _, Nat.zero_le _⟩ ?_
  have hv_6 := hH (k)
  refine zz_isub hx hb dX3_addPiece_89 ?_
  refine zz_i2l hx hb (by omega) dX3_addPiece_90 ?_
  refine zz_lmul hx hb dX3_addPiece_91 ?_
  refine zz_ladd hx hb dX3_addPiece_92 ?_
  refine zz_topl (z := p_sc hs rs (k + 1) wall high) (congrArg zl m_sc2) ?_
  refine lv_lstore (lv' := [(14, .long (zl (p_sc hs rs (k + 1) wall high))), (12, .long (zl (p_sc hs rs (k + 1) wall low))), (10, .long (zl (max 0 (rs (k + 1) - wall)))), (8, .long (zl (max 0 (rs (k) - wall)))), (6, .long (zl ((hs (k + 1)) - (hs (k))))), (0, .ref m0), (1, .int (zi ((j : Int)))), (2, .int (zi ((k : Int)))), (3, .int (zi (low))), (4, .int (zi (high))), (5, .int (zi (wall)))]) hx hb dX3_addPiece_93 hl (by decide) rfl (fun ls hl => ?_)
  refine lv_aload_n hx hb dX3_addPiece_95 rfl (lv_at hl 5 rfl) ?_
  refine lv_iload hx hb dX3_addPiece_96 (lv_at hl 9 rfl) ?_
  refine lv_iload_n hx hb dX3_addPiece_98 rfl (lv_at hl 8 rfl) ?_
  refine zz_isub hx hb dX3_addPiece_99 ?_
  refine zz_i2l hx hb (by omega) dX3_addPiece_100 ?_
  refine lv_lload hx hb dX3_addPiece_101 (lv_at hl 1 rfl) ?_
  refine lv_lload hx hb dX3_addPiece_103 (lv_at hl 1 rfl) ?_
  refine zz_lmul hx hb dX3_addPiece_105 ?_
  refine lv_lload hx hb dX3_addPiece_106 (lv_at hl 1 rfl) ?_
  refine lv_lload hx hb dX3_addPiece_108 (lv_at hl 0 rfl) ?_
  refine zz_lmul hx hb dX3_addPiece_110 ?_
  refine zz_ladd hx hb dX3_addPiece_111 ?_
  refine lv_lload hx hb dX3_addPiece_112 (lv_at hl 0 rfl) ?_
  refine lv_lload hx hb dX3_addPiece_114 (lv_at hl 0 rfl) ?_
  refine zz_lmul hx hb dX3_addPiece_116 ?_
  refine zz_ladd hx hb dX3_addPiece_117 ?_
  refine zz_lmul hx hb dX3_addPiece_118 ?_
  refine zz_topl (z := ((p_u hs rs wall low high (k + 1) : Nat) : Int)) (congrArg zl (p_u_eq (k := k + 1) hH hR hw.1 hl1 hl2 hl3)) ?_
  refine lv_ldc2 (v := 3) hx hb hown (hg _ wl_X3_97) dX3_addPiece_119 ?_
  refine zz_topl (z := 3) (by decide) ?_
  refine lv_lload hx hb dX3_addPiece_122 (lv_at hl 4 rfl) ?_
  refine zz_lmul hx hb dX3_addPiece_124 ?_
  refine lv_lload hx hb dX3_addPiece_125 (lv_at hl 4 rfl) ?_
  refine zz_lmul hx hb dX3_addPiece_127 ?_
  refine zz_topl (z := ((p_q hs (k + 1) : Nat) : Int)) (congrArg zl (p_q_eq (k := k + 1) (show hs k ≤ hs (k + 1) by omega))) ?_
  refine wrV (As := [.long (zl (((p_u hs rs wall low high (k + 1) : Nat) : Int))), .long (zl (((p_q hs (k + 1) : Nat) : Int)))]) (rest := []) (n := 2) (ws' := [(m0, .inr (3, [.int (zi (tw)), .int (zi ((mp : Int))), .ref a1, .ref a2, .ref a3, .ref a4, .ref a5, .ref a6, .int (zi ((mb : Int))), .ref a7, .ref a8, .int (zi ((ml : Int))), .ref a9, .ref a10, .int (zi ((mz : Int))), .ref a11, .long (zl ((((m_add x (p_u hs rs wall low high (k + 1)) (p_q hs (k + 1))).1 : Nat) : Int))), .long (zl ((((m_add x (p_u hs rs wall low high (k + 1)) (p_q hs (k + 1))).2 : Nat) : Int)))])), (a1, .inl (cA, 6, .inl (zA (sf)))), (a2, .inl (cA, 72, .inl (zA (hh)))), (a3, .inl (cA, 72, .inl (zA (rr))))]) hx hb hml hown hg (c_X3_add l dC dI H.size m0 a1 a2 a3 a4 a5 a6 a7 a8 a9 a10 a11 (tw) (x) mp mb ml mz (p_u hs rs wall low high (k + 1)) (p_q hs (k + 1)) hqb.1 (by omega) hok) (gwV wl_X3_99 wm_X3_add we_X3_add wi_X3 wc_X3_add) rfl rfl (by decide +kernel) ⟨Nat.le_of_ble_eq_true rfl, Nat.le_of_ble_eq_true rfl⟩ (hK.sub [] rfl) hP hD hS hA [0] rfl (by decide) [(true, 0), (false, 1), (false, 2), (false, 3)] rfl (by decide) rfl 0 rfl rfl rfl rfl hl.1 rfl (Nat.le_of_ble_eq_true rfl) dX3_addPiece_128 ⟨Nat.zero_le _, Nat.zero_le _⟩ (fun H locs hP hD hS => ?_)
  have hP9 : va_P (dC, dI) vwCl [(m0, .inr (3, [.int (zi (tw)), .int (zi ((mp : Int))), .ref a1, .ref a2, .ref a3, .ref a4, .ref a5, .ref a6, .int (zi ((mb : Int))), .ref a7, .ref a8, .int (zi ((ml : Int))), .ref a9, .ref a10, .int (zi ((mz : Int))), .ref a11, .long (zl ((((m_add x (p_u hs rs wall low high (k + 1)) (p_q hs (k + 1))).1 : Nat) : Int))), .long (zl ((((m_add x (p_u hs rs wall low high (k + 1)) (p_q hs (k + 1))).2 : Nat) : Int)))])), (a1, .inl (cA, 6, .inl (zA (sf)))), (a2, .inl (cA, 72, .inl (zA (hh)))), (a3, .inl (cA, 72, .inl (zA (rr))))] H := hP
  rw [hQQ]
  exact wr_v hx hb hr hlocks hP9 hS dX3_addPiece_131

abbrev rm_X3_sum : Room := { frames := 4, cells := 0, slots := 0, locals := 112 }
set_option maxHeartbeats 4000000 in
set_option maxRecDepth 100000 in
theorem c_X3_sum (l : Launch) (dC : Nat → ClassId) (dI : Nat → Nat → Nat) (sz : Nat) (m0 a1 a2 a3 a4 a5 a6 a7 a8 a9 a10 a11 : Nat) (tw ab be : Int) (mp mb ml mz : Nat) (cA : ClassId) (j n : Nat) (sf hh rr hs rs : Nat → Int) (frm to wall : Int) (hj : j < 6) (hsf : sf j = (n : Int)) (hhs : ∀ k, k < 12 → hh (12 * j + k) = hs k) (hrs : ∀ k, k < 12 → rr (12 * j + k) = rs k) (hn : n ≤ 12) (hH : ∀ j, 0 ≤ hs j ∧ hs j ≤ 400) (hR : ∀ j, 0 ≤ rs j ∧ rs j ≤ 200) (h_frm : -2147483648 ≤ frm ∧ frm < 2147483648) (h_to : -2147483648 ≤ to ∧ to < 2147483648) (hw : 0 ≤ wall ∧ wall ≤ 50) (hok : m_oks n hs rs wall frm to) : Met l yX3_sum (Cond.code yX3_sum cX3_sum 8 ((Option.none : Option Jvm.ClassFile.FieldType)) :: gw) rm_X3_sum (PcW [.ref m0, .int (zi ((j : Int))), .int (zi (frm)), .int (zi (to)), .int (zi (wall))] (dC, dI) vwCl [(m0, .inr (3, [.int (zi (tw)), .int (zi ((mp : Int))), .ref a1, .ref a2, .ref a3, .ref a4, .ref a5, .ref a6, .int (zi ((mb : Int))), .ref a7, .ref a8, .int (zi ((ml : Int))), .ref a9, .ref a10, .int (zi ((mz : Int))), .ref a11, .long (zl (ab)), .long (zl (be))])), (a1, .inl (cA, 6, .inl (zA (sf)))), (a2, .inl (cA, 72, .inl (zA (hh)))), (a3, .inl (cA, 72, .inl (zA (rr))))] [(cA, .int)] sz) (WrQ (none) (dC, dI) vwCl [(m0, .inr (3, [.int (zi (tw)), .int (zi ((mp : Int))), .ref a1, .ref a2, .ref a3, .ref a4, .ref a5, .ref a6, .int (zi ((mb : Int))), .ref a7, .ref a8, .int (zi ((ml : Int))), .ref a9, .ref a10, .int (zi ((mz : Int))), .ref a11, .long (zl ((((m_sum hs rs wall frm to (n - 1)).1 : Nat) : Int))), .long (zl ((((m_sum hs rs wall frm to (n - 1)).2 : Nat) : Int)))])), (a1, .inl (cA, 6, .inl (zA (sf)))), (a2, .inl (cA, 72, .inl (zA (hh)))), (a3, .inl (cA, 72, .inl (zA (rr))))] (va_A [(m0, .inr (3, [.int (zi (tw)), .int (zi ((mp : Int))), .ref a1, .ref a2, .ref a3, .ref a4, .ref a5, .ref a6, .int (zi ((mb : Int))), .ref a7, .ref a8, .int (zi ((ml : Int))), .ref a9, .ref a10, .int (zi ((mz : Int))), .ref a11, .long (zl (ab)), .long (zl (be))])), (a1, .inl (cA, 6, .inl (zA (sf)))), (a2, .inl (cA, 72, .inl (zA (hh)))), (a3, .inl (cA, 72, .inl (zA (rr))))] sz)) 0 0 (va_A [(m0, .inr (3, [.int (zi (tw)), .int (zi ((mp : Int))), .ref a1, .ref a2, .ref a3, .ref a4, .ref a5, .ref a6, .int (zi ((mb : Int))), .ref a7, .ref a8, .int (zi ((ml : Int))), .ref a9, .ref a10, .int (zi ((mz : Int))), .ref a11, .long (zl (ab)), .long (zl (be))])), (a1, .inl (cA, 6, .inl (zA (sf)))), (a2, .inl (cA, 72, .inl (zA (hh)))), (a3, .inl (cA, 72, .inl (zA (rr))))] sz) := by
  refine Met.ofW (cc := cX3_sum) (maxL := 8) (ret := ((Option.none : Option Jvm.ClassFile.FieldType))) (by decide) rfl ?_
  intro p e s m args below meth c s₁ B hml hv
  obtain ⟨hargs, hsz, hP, hK, hD0⟩ := hv
  have hx := B.exec
  have hb := B.bytes
  have hr := B.returns
  have hts := atoms_spec (ws := Cond.code yX3_sum cX3_sum 8 ((Option.none : Option Jvm.ClassFile.FieldType)) :: gw) B.pre
  have hg : ∀ w ∈ gw, w.before args s = true := fun w h => hts w (List.mem_cons_of_mem _ h)
  have hown : s.vm.findClass RX3 = some m.cls := findClass_of_methodNamed B.named
  have hlocks := B.notSynchronized
  subst hsz
  have hD := hD0.self (sz := s.heap.size)
  generalize hAe : va_A [(m0, .inr (3, [.int (zi (tw)), .int (zi ((mp : Int))), .ref a1, .ref a2, .ref a3, .ref a4, .ref a5, .ref a6, .int (zi ((mb : Int))), .ref a7, .ref a8, .int (zi ((ml : Int))), .ref a9, .ref a10, .int (zi ((mz : Int))), .ref a11, .long (zl (ab)), .long (zl (be))])), (a1, .inl (cA, 6, .inl (zA (sf)))), (a2, .inl (cA, 72, .inl (zA (hh)))), (a3, .inl (cA, 72, .inl (zA (rr))))] s.heap.size = A at hD ⊢
  have hA : ∀ q : Nat, s.heap.size ≤ q → A q := fun q h => by rw [← hAe]; exact Or.inr h
  show W p l e rm_X3_sum s m args below meth c s.heap [] 0 0 _ _
  have hl := lv_entry ([.ref m0, .int (zi ((j : Int))), .int (zi (frm)), .int (zi (to)), .int (zi (wall))]) (n := 8) (Nat.le_of_ble_eq_true rfl)
  rw [show entryFrame m args 8 = entryFrame m ([.ref m0, .int (zi ((j : Int))), .int (zi (frm)), .int (zi (to)), .int (zi (wall))] : List Value).toArray 8 by rw [hargs], lg_entry_eq]
  generalize (lg_sl ([.ref m0, .int (zi ((j : Int))), .int (zi (frm)), .int (zi (to)), .int (zi (wall))]) ++ List.replicate (8 - (lg_sl ([.ref m0, .int (zi ((j : Int))), .int (zi (frm)), .int (zi (to)), .int (zi (wall))])).length) Slot.unset).toArray = ls at hl ⊢
  have hl : lv_has ls 8 [(0, .ref m0), (1, .int (zi ((j : Int)))), (2, .int (zi (frm))), (3, .int (zi (to))), (4, .int (zi (wall)))] := hl
  obtain ⟨QQ, hQQ⟩ : ∃ Q, Q = MQ below (WrQ (none) (dC, dI) vwCl [(m0, .inr (3, [.int (zi (tw)), .int (zi ((mp : Int))), .ref a1, .ref a2, .ref a3, .ref a4, .ref a5, .ref a6, .int (zi ((mb : Int))), .ref a7, .ref a8, .int (zi ((ml : Int))), .ref a9, .ref a10, .int (zi ((mz : Int))), .ref a11, .long (zl ((((m_sum hs rs wall frm to (n - 1)).1 : Nat) : Int))), .long (zl ((((m_sum hs rs wall frm to (n - 1)).2 : Nat) : Int)))])), (a1, .inl (cA, 6, .inl (zA (sf)))), (a2, .inl (cA, 72, .inl (zA (hh)))), (a3, .inl (cA, 72, .inl (zA (rr))))] A) args s 0 0 A := ⟨_, rfl⟩
  rw [← hQQ]
  obtain ⟨H, hHe⟩ : ∃ H : Heap, H = s.heap := ⟨_, rfl⟩
  obtain ⟨locs, hlc⟩ : ∃ x : List Loc, x = [] := ⟨_, rfl⟩
  have hS : va_S A s.heap H locs := by rw [hHe, hlc]; exact va_S.rf
  have hP : va_P (dC, dI) vwCl [(m0, .inr (3, [.int (zi (tw)), .int (zi ((mp : Int))), .ref a1, .ref a2, .ref a3, .ref a4, .ref a5, .ref a6, .int (zi ((mb : Int))), .ref a7, .ref a8, .int (zi ((ml : Int))), .ref a9, .ref a10, .int (zi ((mz : Int))), .ref a11, .long (zl (ab)), .long (zl (be))])), (a1, .inl (cA, 6, .inl (zA (sf)))), (a2, .inl (cA, 72, .inl (zA (hh)))), (a3, .inl (cA, 72, .inl (zA (rr))))] H := by rw [hHe]; exact hP
  have hD : va_D A [(m0, .inr (3, [.int (zi (tw)), .int (zi ((mp : Int))), .ref a1, .ref a2, .ref a3, .ref a4, .ref a5, .ref a6, .int (zi ((mb : Int))), .ref a7, .ref a8, .int (zi ((ml : Int))), .ref a9, .ref a10, .int (zi ((mz : Int))), .ref a11, .long (zl (ab)), .long (zl (be))])), (a1, .inl (cA, 6, .inl (zA (sf)))), (a2, .inl (cA, 72, .inl (zA (hh)))), (a3, .inl (cA, 72, .inl (zA (rr))))] := hD
  rw [← hHe, ← hlc]
  refine lv_aload_n hx hb dX3_sum_0 rfl (lv_at hl 0 rfl) ?_
  refine lv_lconst (v := zl (0)) hx hb dX3_sum_1 (by decide) ?_
  refine va_put (D := (dC, dI)) (ci := 3) (v := .long (zl (0))) (ty := .long) (C := RX3) (T := TX3) (N := 18) hx hb hg inX3 tyX3 tyX3_ok nmX3 hown hK hP hD hS 0 rfl rfl 16 (by decide) (hg _ wl_X3_84) (fun _ h9 => h9) rfl (by decide +kernel) rfl rfl (Nat.le_of_ble_eq_true rfl) dX3_sum_2 (fun H locs hP hD hS => ?_)
  have hP : va_P (dC, dI) vwCl [(m0, .inr (3, [.int (zi (tw)), .int (zi ((mp : Int))), .ref a1, .ref a2, .ref a3, .ref a4, .ref a5, .ref a6, .int (zi ((mb : Int))), .ref a7, .ref a8, .int (zi ((ml : Int))), .ref a9, .ref a10, .int (zi ((mz : Int))), .ref a11, .long (zl (0)), .long (zl (be))])), (a1, .inl (cA, 6, .inl (zA (sf)))), (a2, .inl (cA, 72, .inl (zA (hh)))), (a3, .inl (cA, 72, .inl (zA (rr))))] H := hP
  have hD : va_D A [(m0, .inr (3, [.int (zi (tw)), .int (zi ((mp : Int))), .ref a1, .ref a2, .ref a3, .ref a4, .ref a5, .ref a6, .int (zi ((mb : Int))), .ref a7, .ref a8, .int (zi ((ml : Int))), .ref a9, .ref a10, .int (zi ((mz : Int))), .ref a11, .long (zl (0)), .long (zl (be))])), (a1, .inl (cA, 6, .inl (zA (sf)))), (a2, .inl (cA, 72, .inl (zA (hh)))), (a3, .inl (cA, 72, .inl (zA (rr))))] := hD
  refine lv_aload_n hx hb dX3_sum_5 rfl (lv_at hl 0 rfl) ?_
  refine lv_lconst (v := zl (1)) hx hb dX3_sum_6 (by decide) ?_
  refine va_put (D := (dC, dI)) (ci := 3) (v := .long (zl (1))) (ty := .long) (C := RX3) (T := TX3) (N := 18) hx hb hg inX3 tyX3 tyX3_ok nmX3 hown hK hP hD hS 0 rfl rfl 17 (by decide) (hg _ wl_X3_44) (fun _ h9 => h9) rfl (by decide +kernel) rfl rfl (Nat.le_of_ble_eq_true rfl) dX3_sum_7 (fun H locs hP hD hS => ?_)
  have hP : va_P (dC, dI) vwCl [(m0, .inr (3, [.int (zi (tw)), .int (zi ((mp : Int))), .ref a1, .ref a2, .ref a3, .ref a4, .ref a5, .ref a6, .int (zi ((mb : Int))), .ref a7, .ref a8, .int (zi ((ml : Int))), .ref a9, .ref a10, .int (zi ((mz : Int))), .ref a11, .long (zl (0)), .long (zl (1))])), (a1, .inl (cA, 6, .inl (zA (sf)))), (a2, .inl (cA, 72, .inl (zA (hh)))), (a3, .inl (cA, 72, .inl (zA (rr))))] H := hP
  have hD : va_D A [(m0, .inr (3, [.int (zi (tw)), .int (zi ((mp : Int))), .ref a1, .ref a2, .ref a3, .ref a4, .ref a5, .ref a6, .int (zi ((mb : Int))), .ref a7, .ref a8, .int (zi ((ml : Int))), .ref a9, .ref a10, .int (zi ((mz : Int))), .ref a11, .long (zl (0)), .long (zl (1))])), (a1, .inl (cA, 6, .inl (zA (sf)))), (a2, .inl (cA, 72, .inl (zA (hh)))), (a3, .inl (cA, 72, .inl (zA (rr))))] := hD
  refine lv_iconst (v := zi (0)) hx hb dX3_sum_10 rfl ?_
  refine lv_istore (lv' := [(5, .int (zi (0))), (0, .ref m0), (1, .int (zi ((j : Int)))), (2, .int (zi (frm))), (3, .int (zi (to))), (4, .int (zi (wall)))]) hx hb dX3_sum_11 hl (by decide) rfl (fun ls hl => ?_)
  have key_13 : ∀ (n_ : Nat) (k : Nat), k < max n 1 → 13 - k < n_ → ∀ (H : Heap) (locs : List Loc), va_P (dC, dI) vwCl [(m0, .inr (3, [.int (zi (tw)), .int (zi ((mp : Int))), .ref a1, .ref a2, .ref a3, .ref a4, .ref a5, .ref a6, .int (zi ((mb : Int))), .ref a7, .ref a8, .int (zi ((ml : Int))), .ref a9, .ref a10, .int (zi ((mz : Int))), .ref a11, .long (zl ((((m_sum hs rs wall frm to (k)).1 : Nat) : Int))), .long (zl ((((m_sum hs rs wall frm to (k)).2 : Nat) : Int)))])), (a1, .inl (cA, 6, .inl (zA (sf)))), (a2, .inl (cA, 72, .inl (zA (hh)))), (a3, .inl (cA, 72, .inl (zA (rr))))] H → va_D A [(m0, .inr (3, [.int (zi (tw)), .int (zi ((mp : Int))), .ref a1, .ref a2, .ref a3, .ref a4, .ref a5, .ref a6, .int (zi ((mb : Int))), .ref a7, .ref a8, .int (zi ((ml : Int))), .ref a9, .ref a10, .int (zi ((mz : Int))), .ref a11, .long (zl ((((m_sum hs rs wall frm to (k)).1 : Nat) : Int))), .long (zl ((((m_sum hs rs wall frm to (k)).2 : Nat) : Int)))])), (a1, .inl (cA, 6, .inl (zA (sf)))), (a2, .inl (cA, 72, .inl (zA (hh)))), (a3, .inl (cA, 72, .inl (zA (rr))))] → va_S A s.heap H locs → ∀ (ls : Array Slot), lv_has ls 8 [(5, .int (zi ((k : Int)))), (0, .ref m0), (1, .int (zi ((j : Int)))), (2, .int (zi (frm))), (3, .int (zi (to))), (4, .int (zi (wall)))] → W p l e rm_X3_sum s m args below meth c H locs 0 0 QQ (F0 m 13 ls []) := by
    intro n_
    induction n_ with
    | zero => intro k hk1 hm_; exact absurd hm_ (Nat.not_lt_zero _)
    | succ n_ ih =>
      intro k hk1 hm_ H locs hP hD hS ls hl
      refine lv_iload hx hb dX3_sum_13 (lv_at hl 0 rfl) ?_
      refine lv_iconst (v := zi (1)) hx hb dX3_sum_15 rfl ?_
      refine zz_iadd hx hb dX3_sum_16 ?_
      refine lv_aload_n hx hb dX3_sum_17 rfl (lv_at hl 1 rfl) ?_
      refine va_get (D := (dC, dI)) (ci := 3) (v := .ref a1) (C := RX3) (T := TX3) (N := 18) hx hb hg inX3 hown hK hP 0 rfl rfl 2 (by decide) (hg _ wl_X3_7) (fun _ h9 => h9) rfl dX3_sum_18 ?_
      refine lv_iload_n hx hb dX3_sum_21 rfl (lv_at hl 2 rfl) ?_
      refine zz_iald hx hb hK hP 1 0 rfl rfl (j) (by omega) (by omega) (by decide) dX3_sum_22 ?_
      refine zz_topi (z := (n : Int)) (congrArg zi hsf) ?_
      refine zz_icmp_ge (tgt := 104) hx hb (by omega) (by omega) dX3_sum_23 (by decide) (fun c_23 => ?_) (fun c_23 => ?_)
      · have hP9 : va_P (dC, dI) vwCl [(m0, .inr (3, [.int (zi (tw)), .int (zi ((mp : Int))), .ref a1, .ref a2, .ref a3, .ref a4, .ref a5, .ref a6, .int (zi ((mb : Int))), .ref a7, .ref a8, .int (zi ((ml : Int))), .ref a9, .ref a10, .int (zi ((mz : Int))), .ref a11, .long (zl ((((m_sum hs rs wall frm to (n - 1)).1 : Nat) : Int))), .long (zl ((((m_sum hs rs wall frm to (n - 1)).2 : Nat) : Int)))])), (a1, .inl (cA, 6, .inl (zA (sf)))), (a2, .inl (cA, 72, .inl (zA (hh)))), (a3, .inl (cA, 72, .inl (zA (rr))))] H := by rw [show n - 1 = k by omega]; exact hP
        rw [hQQ]
        exact wr_v hx hb hr hlocks hP9 hS dX3_sum_104
      · refine lv_aload_n hx hb dX3_sum_26 rfl (lv_at hl 1 rfl) ?_
        refine lv_iload_n hx hb dX3_sum_27 rfl (lv_at hl 2 rfl) ?_
        refine lv_iload hx hb dX3_sum_28 (lv_at hl 0 rfl) ?_
        refine rdV (As := [.int (zi ((j : Int))), .int (zi ((k : Int)))]) (rest := []) (n := 2) hx hb hml hown hg (c_X3_height l dC dI m0 a1 a2 a3 a4 a5 a6 a7 a8 a9 a10 a11 (tw) ((((m_sum hs rs wall frm to (k)).1 : Nat) : Int)) ((((m_sum hs rs wall frm to (k)).2 : Nat) : Int)) mp mb ml mz cA j hh hs (k) hj hhs (by omega)) (gwV wl_X3_63 wm_X3_height we_X3_height wi_X3 wc_X3_height) rfl rfl (by decide +kernel) ⟨Nat.le_of_ble_eq_true rfl, Nat.le_of_ble_eq_true rfl⟩ (hK.sub [0] rfl) (hP.sub [0, 2] rfl) 0 rfl rfl rfl rfl hl.1 rfl (Nat.le_of_ble_eq_true rfl) dX3_sum_30 ⟨Nat.zero_le _, Nat.zero_le _⟩ ?_
        have hv_1 := hH (k)
        refine lv_iload_n hx hb dX3_sum_33 rfl (lv_at hl 3 rfl) ?_
        refine zz_icmp_le (tgt := 47) hx hb (by omega) (by omega) dX3_sum_34 (by decide) (fun c_34 => ?_) (fun c_34 => ?_)
        · refine lv_iload_n hx hb dX3_sum_47 rfl (lv_at hl 3 rfl) ?_
          refine zz_topi (z := p_lo hs frm (k + 1)) (congrArg zi (show _ = max frm (hs k) by omega)) ?_
          refine lv_istore (lv' := [(6, .int (zi (p_lo hs frm (k + 1)))), (5, .int (zi ((k : Int)))), (0, .ref m0), (1, .int (zi ((j : Int)))), (2, .int (zi (frm))), (3, .int (zi (to))), (4, .int (zi (wall)))]) hx hb dX3_sum_48 hl (by decide) rfl (fun ls hl => ?_)
          refine lv_aload_n hx hb dX3_sum_50 rfl (lv_at hl 2 rfl) ?_
          refine lv_iload_n hx hb dX3_sum_51 rfl (lv_at hl 3 rfl) ?_
          refine lv_iload hx hb dX3_sum_52 (lv_at hl 1 rfl) ?_
          refine lv_iconst (v := zi (1)) hx hb dX3_sum_54 rfl ?_
          refine zz_iadd hx hb dX3_sum_55 ?_
          refine zz_topi (z := ((k + 1 : Nat) : Int)) (congrArg zi (by omega)) ?_
          refine rdV (As := [.int (zi ((j : Int))), .int (zi (((k + 1 : Nat) : Int)))]) (rest := []) (n := 2) hx hb hml hown hg (c_X3_height l dC dI m0 a1 a2 a3 a4 a5 a6 a7 a8 a9 a10 a11 (tw) ((((m_sum hs rs wall frm to (k)).1 : Nat) : Int)) ((((m_sum hs rs wall frm to (k)).2 : Nat) : Int)) mp mb ml mz cA j hh hs (k + 1) hj hhs (by omega)) (gwV wl_X3_63 wm_X3_height we_X3_height wi_X3 wc_X3_height) rfl rfl (by decide +kernel) ⟨Nat.le_of_ble_eq_true rfl, Nat.le_of_ble_eq_true rfl⟩ (hK.sub [0] rfl) (hP.sub [0, 2] rfl) 0 rfl rfl rfl rfl hl.1 rfl (Nat.le_of_ble_eq_true rfl) dX3_sum_56 ⟨Nat.zero_le _, Nat.zero_le _⟩ ?_
          have hv_2 := hH (k + 1)
          refine lv_iload_n hx hb dX3_sum_59 rfl (lv_at hl 5 rfl) ?_
          refine zz_icmp_ge (tgt := 75) hx hb (by omega) (by omega) dX3_sum_60 (by decide) (fun c_60 => ?_) (fun c_60 => ?_)
          · refine lv_iload_n hx hb dX3_sum_75 rfl (lv_at hl 5 rfl) ?_
            refine zz_topi (z := p_hi hs to (k + 1)) (congrArg zi (show _ = min to (hs (k + 1)) by omega)) ?_
            refine lv_istore (lv' := [(7, .int (zi (p_hi hs to (k + 1)))), (6, .int (zi (p_lo hs frm (k + 1)))), (5, .int (zi ((k : Int)))), (0, .ref m0), (1, .int (zi ((j : Int)))), (2, .int (zi (frm))), (3, .int (zi (to))), (4, .int (zi (wall)))]) hx hb dX3_sum_76 hl (by decide) rfl (fun ls hl => ?_)
            refine lv_iload hx hb dX3_sum_78 (lv_at hl 1 rfl) ?_
            refine lv_iload hx hb dX3_sum_80 (lv_at hl 0 rfl) ?_
            refine zz_icmp_ge (tgt := 98) hx hb (by unfold p_lo; rw [Nat.add_sub_cancel]; omega) (by unfold p_hi; omega) dX3_sum_82 (by decide) (fun c_82 => ?_) (fun c_82 => ?_)
            · refine lv_iinc (v := zi (((k : Int)) + (1))) (lv' := [(5, .int (zi (((k : Int)) + (1)))), (7, .int (zi (p_hi hs to (k + 1)))), (6, .int (zi (p_lo hs frm (k + 1)))), (0, .ref m0), (1, .int (zi ((j : Int)))), (2, .int (zi (frm))), (3, .int (zi (to))), (4, .int (zi (wall)))]) hx hb dX3_sum_98 hl (k := 2) rfl (zi_add _ _) (by decide) rfl (fun ls hl => ?_)
              refine lv_goto (tgt := 13) hx hb dX3_sum_101 (by decide) ?_
              have hst : m_sum hs rs wall frm to (k + 1) = m_sum hs rs wall frm to (k) := by rw [m_sum, if_neg (by omega)]
              rw [← hst] at hP hD
              exact ih (k + 1) (by omega) (by omega) H locs (hP.sub [0, 1, 2, 3] rfl) (hD.sub [0, 1, 2, 3] (by decide) rfl) hS ls (lv_sub hl [0, 3, 4, 5, 6, 7] rfl)
            · have hlh : p_lo hs frm (k + 1) < p_hi hs to (k + 1) := by omega
              have hlo1 : hs k ≤ p_lo hs frm (k + 1) := show _ ≤ max frm (hs k) by omega
              have hhi1 : p_hi hs to (k + 1) ≤ hs (k + 1) := show min to (hs (k + 1)) ≤ _ by omega
              have hokk := hok k (by omega) hlh
              refine lv_aload_n hx hb dX3_sum_85 rfl (lv_at hl 3 rfl) ?_
              refine lv_iload_n hx hb dX3_sum_86 rfl (lv_at hl 4 rfl) ?_
              refine lv_iload hx hb dX3_sum_87 (lv_at hl 2 rfl) ?_
              refine lv_iload hx hb dX3_sum_89 (lv_at hl 1 rfl) ?_
              refine lv_iload hx hb dX3_sum_91 (lv_at hl 0 rfl) ?_
              refine lv_iload hx hb dX3_sum_93 (lv_at hl 7 rfl) ?_
              refine wrV (As := [.int (zi ((j : Int))), .int (zi ((k : Int))), .int (zi (p_lo hs frm (k + 1))), .int (zi (p_hi hs to (k + 1))), .int (zi (wall))]) (rest := []) (n := 5) (ws' := [(m0, .inr (3, [.int (zi (tw)), .int (zi ((mp : Int))), .ref a1, .ref a2, .ref a3, .ref a4, .ref a5, .ref a6, .int (zi ((mb : Int))), .ref a7, .ref a8, .int (zi ((ml : Int))), .ref a9, .ref a10, .int (zi ((mz : Int))), .ref a11, .long (zl ((((m_add (m_sum hs rs wall frm to (k)) (p_u hs rs wall (p_lo hs frm (k + 1)) (p_hi hs to (k + 1)) (k + 1)) (p_q hs (k + 1))).1 : Nat) : Int))), .long (zl ((((m_add (m_sum hs rs wall frm to (k)) (p_u hs rs wall (p_lo hs frm (k + 1)) (p_hi hs to (k + 1)) (k + 1)) (p_q hs (k + 1))).2 : Nat) : Int)))])), (a1, .inl (cA, 6, .inl (zA (sf)))), (a2, .inl (cA, 72, .inl (zA (hh)))), (a3, .inl (cA, 72, .inl (zA (rr))))]) hx hb hml hown hg (c_X3_addPiece l dC dI H.size m0 a1 a2 a3 a4 a5 a6 a7 a8 a9 a10 a11 (tw) (m_sum hs rs wall frm to (k)) mp mb ml mz cA j n sf hh rr hs rs k (p_lo hs frm (k + 1)) (p_hi hs to (k + 1)) wall hj hsf hhs hrs hn hH hR (by omega) hw hlo1 hlh hhi1 hokk) (gwV wl_X3_103 wm_X3_addPiece we_X3_addPiece wi_X3 wc_X3_addPiece) rfl rfl (by decide +kernel) ⟨Nat.le_of_ble_eq_true rfl, Nat.le_of_ble_eq_true rfl⟩ (hK.sub [0] rfl) hP hD hS hA [0, 1, 2, 3] rfl (by decide) [(true, 0), (true, 1), (true, 2), (true, 3)] rfl (by decide) rfl 0 rfl rfl rfl rfl hl.1 rfl (Nat.le_of_ble_eq_true rfl) dX3_sum_95 ⟨Nat.zero_le _, Nat.zero_le _⟩ (fun H locs hP hD hS => ?_)
              refine lv_iinc (v := zi (((k : Int)) + (1))) (lv' := [(5, .int (zi (((k : Int)) + (1)))), (7, .int (zi (p_hi hs to (k + 1)))), (6, .int (zi (p_lo hs frm (k + 1)))), (0, .ref m0), (1, .int (zi ((j : Int)))), (2, .int (zi (frm))), (3, .int (zi (to))), (4, .int (zi (wall)))]) hx hb dX3_sum_98 hl (k := 2) rfl (zi_add _ _) (by decide) rfl (fun ls hl => ?_)
              refine lv_goto (tgt := 13) hx hb dX3_sum_101 (by decide) ?_
              have hst : m_sum hs rs wall frm to (k + 1) = m_add (m_sum hs rs wall frm to (k)) (p_u hs rs wall (p_lo hs frm (k + 1)) (p_hi hs to (k + 1)) (k + 1)) (p_q hs (k + 1)) := by rw [m_sum, if_pos hlh]
              rw [← hst] at hP hD
              exact ih (k + 1) (by omega) (by omega) H locs (hP.sub [0, 1, 2, 3] rfl) (hD.sub [0, 1, 2, 3] (by decide) rfl) hS ls (lv_sub hl [0, 3, 4, 5, 6, 7] rfl)
          · refine lv_aload_n hx hb dX3_sum_63 rfl (lv_at hl 2 rfl) ?_
            refine lv_iload_n hx hb dX3_sum_64 rfl (lv_at hl 3 rfl) ?_
            refine lv_iload hx hb dX3_sum_65 (lv_at hl 1 rfl) ?_
            refine lv_iconst (v := zi (1)) hx hb dX3_sum_67 rfl ?_
            refine zz_iadd hx hb dX3_sum_68 ?_
            refine zz_topi (z := ((k + 1 : Nat) : Int)) (congrArg zi (by omega)) ?_
            refine rdV (As := [.int (zi ((j : Int))), .int (zi (((k + 1 : Nat) : Int)))]) (rest := []) (n := 2) hx hb hml hown hg (c_X3_height l dC dI m0 a1 a2 a3 a4 a5 a6 a7 a8 a9 a10 a11 (tw) ((((m_sum hs rs wall frm to (k)).1 : Nat) : Int)) ((((m_sum hs rs wall frm to (k)).2 : Nat) : Int)) mp mb ml mz cA j hh hs (k + 1) hj hhs (by omega)) (gwV wl_X3_63 wm_X3_height we_X3_height wi_X3 wc_X3_height) rfl rfl (by decide +kernel) ⟨Nat.le_of_ble_eq_true rfl, Nat.le_of_ble_eq_true rfl⟩ (hK.sub [0] rfl) (hP.sub [0, 2] rfl) 0 rfl rfl rfl rfl hl.1 rfl (Nat.le_of_ble_eq_true rfl) dX3_sum_69 ⟨Nat.zero_le _, Nat.zero_le _⟩ ?_
            have hv_3 := hH (k + 1)
            refine lv_goto (tgt := 76) hx hb dX3_sum_72 (by decide) ?_
            refine zz_topi (z := p_hi hs to (k + 1)) (congrArg zi (show _ = min to (hs (k + 1)) by omega)) ?_
            refine lv_istore (lv' := [(7, .int (zi (p_hi hs to (k + 1)))), (6, .int (zi (p_lo hs frm (k + 1)))), (5, .int (zi ((k : Int)))), (0, .ref m0), (1, .int (zi ((j : Int)))), (2, .int (zi (frm))), (3, .int (zi (to))), (4, .int (zi (wall)))]) hx hb dX3_sum_76 hl (by decide) rfl (fun ls hl => ?_)
            refine lv_iload hx hb dX3_sum_78 (lv_at hl 1 rfl) ?_
            refine lv_iload hx hb dX3_sum_80 (lv_at hl 0 rfl) ?_
            refine zz_icmp_ge (tgt := 98) hx hb (by unfold p_lo; rw [Nat.add_sub_cancel]; omega) (by unfold p_hi; omega) dX3_sum_82 (by decide) (fun c_82 => ?_) (fun c_82 => ?_)
            · refine lv_iinc (v := zi (((k : Int)) + (1))) (lv' := [(5, .int (zi (((k : Int)) + (1)))), (7, .int (zi (p_hi hs to (k + 1)))), (6, .int (zi (p_lo hs frm (k + 1)))), (0, .ref m0), (1, .int (zi ((j : Int)))), (2, .int (zi (frm))), (3, .int (zi (to))), (4, .int (zi (wall)))]) hx hb dX3_sum_98 hl (k := 2) rfl (zi_add _ _) (by decide) rfl (fun ls hl => ?_)
              refine lv_goto (tgt := 13) hx hb dX3_sum_101 (by decide) ?_
              have hst : m_sum hs rs wall frm to (k + 1) = m_sum hs rs wall frm to (k) := by rw [m_sum, if_neg (by omega)]
              rw [← hst] at hP hD
              exact ih (k + 1) (by omega) (by omega) H locs (hP.sub [0, 1, 2, 3] rfl) (hD.sub [0, 1, 2, 3] (by decide) rfl) hS ls (lv_sub hl [0, 3, 4, 5, 6, 7] rfl)
            · have hlh : p_lo hs frm (k + 1) < p_hi hs to (k + 1) := by omega
              have hlo1 : hs k ≤ p_lo hs frm (k + 1) := show _ ≤ max frm (hs k) by omega
              have hhi1 : p_hi hs to (k + 1) ≤ hs (k + 1) := show min to (hs (k + 1)) ≤ _ by omega
              have hokk := hok k (by omega) hlh
              refine lv_aload_n hx hb dX3_sum_85 rfl (lv_at hl 3 rfl) ?_
              refine lv_iload_n hx hb dX3_sum_86 rfl (lv_at hl 4 rfl) ?_
              refine lv_iload hx hb dX3_sum_87 (lv_at hl 2 rfl) ?_
              refine lv_iload hx hb dX3_sum_89 (lv_at hl 1 rfl) ?_
              refine lv_iload hx hb dX3_sum_91 (lv_at hl 0 rfl) ?_
              refine lv_iload hx hb dX3_sum_93 (lv_at hl 7 rfl) ?_
              refine wrV (As := [.int (zi ((j : Int))), .int (zi ((k : Int))), .int (zi (p_lo hs frm (k + 1))), .int (zi (p_hi hs to (k + 1))), .int (zi (wall))]) (rest := []) (n := 5) (ws' := [(m0, .inr (3, [.int (zi (tw)), .int (zi ((mp : Int))), .ref a1, .ref a2, .ref a3, .ref a4, .ref a5, .ref a6, .int (zi ((mb : Int))), .ref a7, .ref a8, .int (zi ((ml : Int))), .ref a9, .ref a10, .int (zi ((mz : Int))), .ref a11, .long (zl ((((m_add (m_sum hs rs wall frm to (k)) (p_u hs rs wall (p_lo hs frm (k + 1)) (p_hi hs to (k + 1)) (k + 1)) (p_q hs (k + 1))).1 : Nat) : Int))), .long (zl ((((m_add (m_sum hs rs wall frm to (k)) (p_u hs rs wall (p_lo hs frm (k + 1)) (p_hi hs to (k + 1)) (k + 1)) (p_q hs (k + 1))).2 : Nat) : Int)))])), (a1, .inl (cA, 6, .inl (zA (sf)))), (a2, .inl (cA, 72, .inl (zA (hh)))), (a3, .inl (cA, 72, .inl (zA (rr))))]) hx hb hml hown hg (c_X3_addPiece l dC dI H.size m0 a1 a2 a3 a4 a5 a6 a7 a8 a9 a10 a11 (tw) (m_sum hs rs wall frm to (k)) mp mb ml mz cA j n sf hh rr hs rs k (p_lo hs frm (k + 1)) (p_hi hs to (k + 1)) wall hj hsf hhs hrs hn hH hR (by omega) hw hlo1 hlh hhi1 hokk) (gwV wl_X3_103 wm_X3_addPiece we_X3_addPiece wi_X3 wc_X3_addPiece) rfl rfl (by decide +kernel) ⟨Nat.le_of_ble_eq_true rfl, Nat.le_of_ble_eq_true rfl⟩ (hK.sub [0] rfl) hP hD hS hA [0, 1, 2, 3] rfl (by decide) [(true, 0), (true, 1), (true, 2), (true, 3)] rfl (by decide) rfl 0 rfl rfl rfl rfl hl.1 rfl (Nat.le_of_ble_eq_true rfl) dX3_sum_95 ⟨Nat.zero_le _, Nat.zero_le _⟩ (fun H locs hP hD hS => ?_)
              refine lv_iinc (v := zi (((k : Int)) + (1))) (lv' := [(5, .int (zi (((k : Int)) + (1)))), (7, .int (zi (p_hi hs to (k + 1)))), (6, .int (zi (p_lo hs frm (k + 1)))), (0, .ref m0), (1, .int (zi ((j : Int)))), (2, .int (zi (frm))), (3, .int (zi (to))), (4, .int (zi (wall)))]) hx hb dX3_sum_98 hl (k := 2) rfl (zi_add _ _) (by decide) rfl (fun ls hl => ?_)
              refine lv_goto (tgt := 13) hx hb dX3_sum_101 (by decide) ?_
              have hst : m_sum hs rs wall frm to (k + 1) = m_add (m_sum hs rs wall frm to (k)) (p_u hs rs wall (p_lo hs frm (k + 1)) (p_hi hs to (k + 1)) (k + 1)) (p_q hs (k + 1)) := by rw [m_sum, if_pos hlh]
              rw [← hst] at hP hD
              exact ih (k + 1) (by omega) (by omega) H locs (hP.sub [0, 1, 2, 3] rfl) (hD.sub [0, 1, 2, 3] (by decide) rfl) hS ls (lv_sub hl [0, 3, 4, 5, 6, 7] rfl)
        · refine lv_aload_n hx hb dX3_sum_37 rfl (lv_at hl 1 rfl) ?_
          refine lv_iload_n hx hb dX3_sum_38 rfl (lv_at hl 2 rfl) ?_
          refine lv_iload hx hb dX3_sum_39 (lv_at hl 0 rfl) ?_
          refine rdV (As := [.int (zi ((j : Int))), .int (zi ((k : Int)))]) (rest := []) (n := 2) hx hb hml hown hg (c_X3_height l dC dI m0 a1 a2 a3 a4 a5 a6 a7 a8 a9 a10 a11 (tw) ((((m_sum hs rs wall frm to (k)).1 : Nat) : Int)) ((((m_sum hs rs wall frm to (k)).2 : Nat) : Int)) mp mb ml mz cA j hh hs (k) hj hhs (by omega)) (gwV wl_X3_63 wm_X3_height we_X3_height wi_X3 wc_X3_height) rfl rfl (by decide +kernel) ⟨Nat.le_of_ble_eq_true rfl, Nat.le_of_ble_eq_true rfl⟩ (hK.sub [0] rfl) (hP.sub [0, 2] rfl) 0 rfl rfl rfl rfl hl.1 rfl (Nat.le_of_ble_eq_true rfl) dX3_sum_41 ⟨Nat.zero_le _, Nat.zero_le _⟩ ?_
          have hv_4 := hH (k)
          refine lv_goto (tgt := 48) hx hb dX3_sum_44 (by decide) ?_
          refine zz_topi (z := p_lo hs frm (k + 1)) (congrArg zi (show _ = max frm (hs k) by omega)) ?_
          refine lv_istore (lv' := [(6, .int (zi (p_lo hs frm (k + 1)))), (5, .int (zi ((k : Int)))), (0, .ref m0), (1, .int (zi ((j : Int)))), (2, .int (zi (frm))), (3, .int (zi (to))), (4, .int (zi (wall)))]) hx hb dX3_sum_48 hl (by decide) rfl (fun ls hl => ?_)
          refine lv_aload_n hx hb dX3_sum_50 rfl (lv_at hl 2 rfl) ?_
          refine lv_iload_n hx hb dX3_sum_51 rfl (lv_at hl 3 rfl) ?_
          refine lv_iload hx hb dX3_sum_52 (lv_at hl 1 rfl) ?_
          refine lv_iconst (v := zi (1)) hx hb dX3_sum_54 rfl ?_
          refine zz_iadd hx hb dX3_sum_55 ?_
          refine zz_topi (z := ((k + 1 : Nat) : Int)) (congrArg zi (by omega)) ?_
          refine rdV (As := [.int (zi ((j : Int))), .int (zi (((k + 1 : Nat) : Int)))]) (rest := []) (n := 2) hx hb hml hown hg (c_X3_height l dC dI m0 a1 a2 a3 a4 a5 a6 a7 a8 a9 a10 a11 (tw) ((((m_sum hs rs wall frm to (k)).1 : Nat) : Int)) ((((m_sum hs rs wall frm to (k)).2 : Nat) : Int)) mp mb ml mz cA j hh hs (k + 1) hj hhs (by omega)) (gwV wl_X3_63 wm_X3_height we_X3_height wi_X3 wc_X3_height) rfl rfl (by decide +kernel) ⟨Nat.le_of_ble_eq_true rfl, Nat.le_of_ble_eq_true rfl⟩ (hK.sub [0] rfl) (hP.sub [0, 2] rfl) 0 rfl rfl rfl rfl hl.1 rfl (Nat.le_of_ble_eq_true rfl) dX3_sum_56 ⟨Nat.zero_le _, Nat.zero_le _⟩ ?_
          have hv_5 := hH (k + 1)
          refine lv_iload_n hx hb dX3_sum_59 rfl (lv_at hl 5 rfl) ?_
          refine zz_icmp_ge (tgt := 75) hx hb (by omega) (by omega) dX3_sum_60 (by decide) (fun c_60 => ?_) (fun c_60 => ?_)
          · refine lv_iload_n hx hb dX3_sum_75 rfl (lv_at hl 5 rfl) ?_
            refine zz_topi (z := p_hi hs to (k + 1)) (congrArg zi (show _ = min to (hs (k + 1)) by omega)) ?_
            refine lv_istore (lv' := [(7, .int (zi (p_hi hs to (k + 1)))), (6, .int (zi (p_lo hs frm (k + 1)))), (5, .int (zi ((k : Int)))), (0, .ref m0), (1, .int (zi ((j : Int)))), (2, .int (zi (frm))), (3, .int (zi (to))), (4, .int (zi (wall)))]) hx hb dX3_sum_76 hl (by decide) rfl (fun ls hl => ?_)
            refine lv_iload hx hb dX3_sum_78 (lv_at hl 1 rfl) ?_
            refine lv_iload hx hb dX3_sum_80 (lv_at hl 0 rfl) ?_
            refine zz_icmp_ge (tgt := 98) hx hb (by unfold p_lo; rw [Nat.add_sub_cancel]; omega) (by unfold p_hi; omega) dX3_sum_82 (by decide) (fun c_82 => ?_) (fun c_82 => ?_)
            · refine lv_iinc (v := zi (((k : Int)) + (1))) (lv' := [(5, .int (zi (((k : Int)) + (1)))), (7, .int (zi (p_hi hs to (k + 1)))), (6, .int (zi (p_lo hs frm (k + 1)))), (0, .ref m0), (1, .int (zi ((j : Int)))), (2, .int (zi (frm))), (3, .int (zi (to))), (4, .int (zi (wall)))]) hx hb dX3_sum_98 hl (k := 2) rfl (zi_add _ _) (by decide) rfl (fun ls hl => ?_)
              refine lv_goto (tgt := 13) hx hb dX3_sum_101 (by decide) ?_
              have hst : m_sum hs rs wall frm to (k + 1) = m_sum hs rs wall frm to (k) := by rw [m_sum, if_neg (by omega)]
              rw [← hst] at hP hD
              exact ih (k + 1) (by omega) (by omega) H locs (hP.sub [0, 1, 2, 3] rfl) (hD.sub [0, 1, 2, 3] (by decide) rfl) hS ls (lv_sub hl [0, 3, 4, 5, 6, 7] rfl)
            · have hlh : p_lo hs frm (k + 1) < p_hi hs to (k + 1) := by omega
              have hlo1 : hs k ≤ p_lo hs frm (k + 1) := show _ ≤ max frm (hs k) by omega
              have hhi1 : p_hi hs to (k + 1) ≤ hs (k + 1) := show min to (hs (k + 1)) ≤ _ by omega
              have hokk := hok k (by omega) hlh
              refine lv_aload_n hx hb dX3_sum_85 rfl (lv_at hl 3 rfl) ?_
              refine lv_iload_n hx hb dX3_sum_86 rfl (lv_at hl 4 rfl) ?_
              refine lv_iload hx hb dX3_sum_87 (lv_at hl 2 rfl) ?_
              refine lv_iload hx hb dX3_sum_89 (lv_at hl 1 rfl) ?_
              refine lv_iload hx hb dX3_sum_91 (lv_at hl 0 rfl) ?_
              refine lv_iload hx hb dX3_sum_93 (lv_at hl 7 rfl) ?_
              refine wrV (As := [.int (zi ((j : Int))), .int (zi ((k : Int))), .int (zi (p_lo hs frm (k + 1))), .int (zi (p_hi hs to (k + 1))), .int (zi (wall))]) (rest := []) (n := 5) (ws' := [(m0, .inr (3, [.int (zi (tw)), .int (zi ((mp : Int))), .ref a1, .ref a2, .ref a3, .ref a4, .ref a5, .ref a6, .int (zi ((mb : Int))), .ref a7, .ref a8, .int (zi ((ml : Int))), .ref a9, .ref a10, .int (zi ((mz : Int))), .ref a11, .long (zl ((((m_add (m_sum hs rs wall frm to (k)) (p_u hs rs wall (p_lo hs frm (k + 1)) (p_hi hs to (k + 1)) (k + 1)) (p_q hs (k + 1))).1 : Nat) : Int))), .long (zl ((((m_add (m_sum hs rs wall frm to (k)) (p_u hs rs wall (p_lo hs frm (k + 1)) (p_hi hs to (k + 1)) (k + 1)) (p_q hs (k + 1))).2 : Nat) : Int)))])), (a1, .inl (cA, 6, .inl (zA (sf)))), (a2, .inl (cA, 72, .inl (zA (hh)))), (a3, .inl (cA, 72, .inl (zA (rr))))]) hx hb hml hown hg (c_X3_addPiece l dC dI H.size m0 a1 a2 a3 a4 a5 a6 a7 a8 a9 a10 a11 (tw) (m_sum hs rs wall frm to (k)) mp mb ml mz cA j n sf hh rr hs rs k (p_lo hs frm (k + 1)) (p_hi hs to (k + 1)) wall hj hsf hhs hrs hn hH hR (by omega) hw hlo1 hlh hhi1 hokk) (gwV wl_X3_103 wm_X3_addPiece we_X3_addPiece wi_X3 wc_X3_addPiece) rfl rfl (by decide +kernel) ⟨Nat.le_of_ble_eq_true rfl, Nat.le_of_ble_eq_true rfl⟩ (hK.sub [0] rfl) hP hD hS hA [0, 1, 2, 3] rfl (by decide) [(true, 0), (true, 1), (true, 2), (true, 3)] rfl (by decide) rfl 0 rfl rfl rfl rfl hl.1 rfl (Nat.le_of_ble_eq_true rfl) dX3_sum_95 ⟨Nat.zero_le _, Nat.zero_le _⟩ (fun H locs hP hD hS => ?_)
              refine lv_iinc (v := zi (((k : Int)) + (1))) (lv' := [(5, .int (zi (((k : Int)) + (1)))), (7, .int (zi (p_hi hs to (k + 1)))), (6, .int (zi (p_lo hs frm (k + 1)))), (0, .ref m0), (1, .int (zi ((j : Int)))), (2, .int (zi (frm))), (3, .int (zi (to))), (4, .int (zi (wall)))]) hx hb dX3_sum_98 hl (k := 2) rfl (zi_add _ _) (by decide) rfl (fun ls hl => ?_)
              refine lv_goto (tgt := 13) hx hb dX3_sum_101 (by decide) ?_
              have hst : m_sum hs rs wall frm to (k + 1) = m_add (m_sum hs rs wall frm to (k)) (p_u hs rs wall (p_lo hs frm (k + 1)) (p_hi hs to (k + 1)) (k + 1)) (p_q hs (k + 1)) := by rw [m_sum, if_pos hlh]
              rw [← hst] at hP hD
              exact ih (k + 1) (by omega) (by omega) H locs (hP.sub [0, 1, 2, 3] rfl) (hD.sub [0, 1, 2, 3] (by decide) rfl) hS ls (lv_sub hl [0, 3, 4, 5, 6, 7] rfl)
          · refine lv_aload_n hx hb dX3_sum_63 rfl (lv_at hl 2 rfl) ?_
            refine lv_iload_n hx hb dX3_sum_64 rfl (lv_at hl 3 rfl) ?_
            refine lv_iload hx hb dX3_sum_65 (lv_at hl 1 rfl) ?_
            refine lv_iconst (v := zi (1)) hx hb dX3_sum_67 rfl ?_
            refine zz_iadd hx hb dX3_sum_68 ?_
            refine zz_topi (z := ((k + 1 : Nat) : Int)) (congrArg zi (by omega)) ?_
            refine rdV (As := [.int (zi ((j : Int))), .int (zi (((k + 1 : Nat) : Int)))]) (rest := []) (n := 2) hx hb hml hown hg (c_X3_height l dC dI m0 a1 a2 a3 a4 a5 a6 a7 a8 a9 a10 a11 (tw) ((((m_sum hs rs wall frm to (k)).1 : Nat) : Int)) ((((m_sum hs rs wall frm to (k)).2 : Nat) : Int)) mp mb ml mz cA j hh hs (k + 1) hj hhs (by omega)) (gwV wl_X3_63 wm_X3_height we_X3_height wi_X3 wc_X3_height) rfl rfl (by decide +kernel) ⟨Nat.le_of_ble_eq_true rfl, Nat.le_of_ble_eq_true rfl⟩ (hK.sub [0] rfl) (hP.sub [0, 2] rfl) 0 rfl rfl rfl rfl hl.1 rfl (Nat.le_of_ble_eq_true rfl) dX3_sum_69 ⟨Nat.zero_le _, Nat.zero_le _⟩ ?_
            have hv_6 := hH (k + 1)
            refine lv_goto (tgt := 76) hx hb dX3_sum_72 (by decide) ?_
            refine zz_topi (z := p_hi hs to (k + 1)) (congrArg zi (show _ = min to (hs (k + 1)) by omega)) ?_
            refine lv_istore (lv' := [(7, .int (zi (p_hi hs to (k + 1)))), (6, .int (zi (p_lo hs frm (k + 1)))), (5, .int (zi ((k : Int)))), (0, .ref m0), (1, .int (zi ((j : Int)))), (2, .int (zi (frm))), (3, .int (zi (to))), (4, .int (zi (wall)))]) hx hb dX3_sum_76 hl (by decide) rfl (fun ls hl => ?_)
            refine lv_iload hx hb dX3_sum_78 (lv_at hl 1 rfl) ?_
            refine lv_iload hx hb dX3_sum_80 (lv_at hl 0 rfl) ?_
            refine zz_icmp_ge (tgt := 98) hx hb (by unfold p_lo; rw [Nat.add_sub_cancel]; omega) (by unfold p_hi; omega) dX3_sum_82 (by decide) (fun c_82 => ?_) (fun c_82 => ?_)
            · refine lv_iinc (v := zi (((k : Int)) + (1))) (lv' := [(5, .int (zi (((k : Int)) + (1)))), (7, .int (zi (p_hi hs to (k + 1)))), (6, .int (zi (p_lo hs frm (k + 1)))), (0, .ref m0), (1, .int (zi ((j : Int)))), (2, .int (zi (frm))), (3, .int (zi (to))), (4, .int (zi (wall)))]) hx hb dX3_sum_98 hl (k := 2) rfl (zi_add _ _) (by decide) rfl (fun ls hl => ?_)
              refine lv_goto (tgt := 13) hx hb dX3_sum_101 (by decide) ?_
              have hst : m_sum hs rs wall frm to (k + 1) = m_sum hs rs wall frm to (k) := by rw [m_sum, if_neg (by omega)]
              rw [← hst] at hP hD
              exact ih (k + 1) (by omega) (by omega) H locs (hP.sub [0, 1, 2, 3] rfl) (hD.sub [0, 1, 2, 3] (by decide) rfl) hS ls (lv_sub hl [0, 3, 4, 5, 6, 7] rfl)
            · have hlh : p_lo hs frm (k + 1) < p_hi hs to (k + 1) := by omega
              have hlo1 : hs k ≤ p_lo hs frm (k + 1) := show _ ≤ max frm (hs k) by omega
              have hhi1 : p_hi hs to (k + 1) ≤ hs (k + 1) := show min to (hs (k + 1)) ≤ _ by omega
              have hokk := hok k (by omega) hlh
              refine lv_aload_n hx hb dX3_sum_85 rfl (lv_at hl 3 rfl) ?_
              refine lv_iload_n hx hb dX3_sum_86 rfl (lv_at hl 4 rfl) ?_
              refine lv_iload hx hb dX3_sum_87 (lv_at hl 2 rfl) ?_
              refine lv_iload hx hb dX3_sum_89 (lv_at hl 1 rfl) ?_
              refine lv_iload hx hb dX3_sum_91 (lv_at hl 0 rfl) ?_
              refine lv_iload hx hb dX3_sum_93 (lv_at hl 7 rfl) ?_
              refine wrV (As := [.int (zi ((j : Int))), .int (zi ((k : Int))), .int (zi (p_lo hs frm (k + 1))), .int (zi (p_hi hs to (k + 1))), .int (zi (wall))]) (rest := []) (n := 5) (ws' := [(m0, .inr (3, [.int (zi (tw)), .int (zi ((mp : Int))), .ref a1, .ref a2, .ref a3, .ref a4, .ref a5, .ref a6, .int (zi ((mb : Int))), .ref a7, .ref a8, .int (zi ((ml : Int))), .ref a9, .ref a10, .int (zi ((mz : Int))), .ref a11, .long (zl ((((m_add (m_sum hs rs wall frm to (k)) (p_u hs rs wall (p_lo hs frm (k + 1)) (p_hi hs to (k + 1)) (k + 1)) (p_q hs (k + 1))).1 : Nat) : Int))), .long (zl ((((m_add (m_sum hs rs wall frm to (k)) (p_u hs rs wall (p_lo hs frm (k + 1)) (p_hi hs to (k + 1)) (k + 1)) (p_q hs (k + 1))).2 : Nat) : Int)))])), (a1, .inl (cA, 6, .inl (zA (sf)))), (a2, .inl (cA, 72, .inl (zA (hh)))), (a3, .inl (cA, 72, .inl (zA (rr))))]) hx hb hml hown hg (c_X3_addPiece l dC dI H.size m0 a1 a2 a3 a4 a5 a6 a7 a8 a9 a10 a11 (tw) (m_sum hs rs wall frm to (k)) mp mb ml mz cA j n sf hh rr hs rs k (p_lo hs frm (k + 1)) (p_hi hs to (k + 1)) wall hj hsf hhs hrs hn hH hR (by omega) hw hlo1 hlh hhi1 hokk) (gwV wl_X3_103 wm_X3_addPiece we_X3_addPiece wi_X3 wc_X3_addPiece) rfl rfl (by decide +kernel) ⟨Nat.le_of_ble_eq_true rfl, Nat.le_of_ble_eq_true rfl⟩ (hK.sub [0] rfl) hP hD hS hA [0, 1, 2, 3] rfl (by decide) [(true, 0), (true, 1), (true, 2), (true, 3)] rfl (by decide) rfl 0 rfl rfl rfl rfl hl.1 rfl (Nat.le_of_ble_eq_true rfl) dX3_sum_95 ⟨Nat.zero_le _, Nat.zero_le _⟩ (fun H locs hP hD hS => ?_)
              refine lv_iinc (v := zi (((k : Int)) + (1))) (lv' := [(5, .int (zi (((k : Int)) + (1)))), (7, .int (zi (p_hi hs to (k + 1)))), (6, .int (zi (p_lo hs frm (k + 1)))), (0, .ref m0), (1, .int (zi ((j : Int)))), (2, .int (zi (frm))), (3, .int (zi (to))), (4, .int (zi (wall)))]) hx hb dX3_sum_98 hl (k := 2) rfl (zi_add _ _) (by decide) rfl (fun ls hl => ?_)
              refine lv_goto (tgt := 13) hx hb dX3_sum_101 (by decide) ?_
              have hst : m_sum hs rs wall frm to (k + 1) = m_add (m_sum hs rs wall frm to (k)) (p_u hs rs wall (p_lo hs frm (k + 1)) (p_hi hs to (k + 1)) (k + 1)) (p_q hs (k + 1)) := by rw [m_sum, if_pos hlh]
              rw [← hst] at hP hD
              exact ih (k + 1) (by omega) (by omega) H locs (hP.sub [0, 1, 2, 3] rfl) (hD.sub [0, 1, 2, 3] (by decide) rfl) hS ls (lv_sub hl [0, 3, 4, 5, 6, 7] rfl)
  exact key_13 _ 0 (by omega) (Nat.lt_succ_self _) H locs (hP.sub [0, 1, 2, 3] rfl) (hD.sub [0, 1, 2, 3] (by decide) rfl) hS ls (lv_sub hl [0, 1, 2, 3, 4, 5] rfl)

abbrev rm_X3_volume : Room := { frames := 5, cells := 0, slots := 0, locals := 139 }
set_option maxHeartbeats 4000000 in
set_option maxRecDepth 100000 in
theorem e_volume (l : Launch) (dC : Nat → ClassId) (dI : Nat → Nat → Nat) (sz : Nat) (m0 a1 a2 a3 a4 a5 a6 a7 a8 a9 a10 a11 : Nat) (tw ab be : Int) (mp mb ml mz : Nat) (q to part : Int) (hmp : mp ≤ 6) (h_q : -2147483648 ≤ q ∧ q < 2147483648) (h_to : -2147483648 ≤ to ∧ to < 2147483648) (h_part : -2147483648 ≤ part ∧ part < 2147483648) (hbad : ¬ (0 ≤ q ∧ q < (mp : Int) ∧ (part = 0 ∨ part = 1))) : Met l yX3_volume (Cond.code yX3_volume cX3_volume 4 ((Option.some Jvm.ClassFile.FieldType.long)) :: gw) rm_X3_volume (PcW [.ref m0, .int (zi (q)), .int (zi (to)), .int (zi (part))] (dC, dI) vwCl [(m0, .inr (3, [.int (zi (tw)), .int (zi ((mp : Int))), .ref a1, .ref a2, .ref a3, .ref a4, .ref a5, .ref a6, .int (zi ((mb : Int))), .ref a7, .ref a8, .int (zi ((ml : Int))), .ref a9, .ref a10, .int (zi ((mz : Int))), .ref a11, .long (zl (ab)), .long (zl (be))]))] [] sz) (WrQ (some (.long (zl 0))) (dC, dI) vwCl [(m0, .inr (3, [.int (zi (1)), .int (zi ((mp : Int))), .ref a1, .ref a2, .ref a3, .ref a4, .ref a5, .ref a6, .int (zi ((mb : Int))), .ref a7, .ref a8, .int (zi ((ml : Int))), .ref a9, .ref a10, .int (zi ((mz : Int))), .ref a11, .long (zl (ab)), .long (zl (be))]))] (va_A [(m0, .inr (3, [.int (zi (tw)), .int (zi ((mp : Int))), .ref a1, .ref a2, .ref a3, .ref a4, .ref a5, .ref a6, .int (zi ((mb : Int))), .ref a7, .ref a8, .int (zi ((ml : Int))), .ref a9, .ref a10, .int (zi ((mz : Int))), .ref a11, .long (zl (ab)), .long (zl (be))]))] sz)) 0 0 (va_A [(m0, .inr (3, [.int (zi (tw)), .int (zi ((mp : Int))), .ref a1, .ref a2, .ref a3, .ref a4, .ref a5, .ref a6, .int (zi ((mb : Int))), .ref a7, .ref a8, .int (zi ((ml : Int))), .ref a9, .ref a10, .int (zi ((mz : Int))), .ref a11, .long (zl (ab)), .long (zl (be))]))] sz) := by
  refine Met.ofW (cc := cX3_volume) (maxL := 4) (ret := ((Option.some Jvm.ClassFile.FieldType.long))) (by decide) rfl ?_
  intro p e s m args below meth c s₁ B hml hv
  obtain ⟨hargs, hsz, hP, hK, hD0⟩ := hv
  have hx := B.exec
  have hb := B.bytes
  have hr := B.returns
  have hts := atoms_spec (ws := Cond.code yX3_volume cX3_volume 4 ((Option.some Jvm.ClassFile.FieldType.long)) :: gw) B.pre
  have hg : ∀ w ∈ gw, w.before args s = true := fun w h => hts w (List.mem_cons_of_mem _ h)
  have hown : s.vm.findClass RX3 = some m.cls := findClass_of_methodNamed B.named
  have hlocks := B.notSynchronized
  subst hsz
  have hD := hD0.self (sz := s.heap.size)
  generalize hAe : va_A [(m0, .inr (3, [.int (zi (tw)), .int (zi ((mp : Int))), .ref a1, .ref a2, .ref a3, .ref a4, .ref a5, .ref a6, .int (zi ((mb : Int))), .ref a7, .ref a8, .int (zi ((ml : Int))), .ref a9, .ref a10, .int (zi ((mz : Int))), .ref a11, .long (zl (ab)), .long (zl (be))]))] s.heap.size = A at hD ⊢
  have hA : ∀ q : Nat, s.heap.size ≤ q → A q := fun q h => by rw [← hAe]; exact Or.inr h
  show W p l e rm_X3_volume s m args below meth c s.heap [] 0 0 _ _
  have hl := lv_entry ([.ref m0, .int (zi (q)), .int (zi (to)), .int (zi (part))]) (n := 4) (Nat.le_of_ble_eq_true rfl)
  rw [show entryFrame m args 4 = entryFrame m ([.ref m0, .int (zi (q)), .int (zi (to)), .int (zi (part))] : List Value).toArray 4 by rw [hargs], lg_entry_eq]
  generalize (lg_sl ([.ref m0, .int (zi (q)), .int (zi (to)), .int (zi (part))]) ++ List.replicate (4 - (lg_sl ([.ref m0, .int (zi (q)), .int (zi (to)), .int (zi (part))])).length) Slot.unset).toArray = ls at hl ⊢
  have hl : lv_has ls 4 [(0, .ref m0), (1, .int (zi (q))), (2, .int (zi (to))), (3, .int (zi (part)))] := hl
  obtain ⟨QQ, hQQ⟩ : ∃ Q, Q = MQ below (WrQ (some (.long (zl 0))) (dC, dI) vwCl [(m0, .inr (3, [.int (zi (1)), .int (zi ((mp : Int))), .ref a1, .ref a2, .ref a3, .ref a4, .ref a5, .ref a6, .int (zi ((mb : Int))), .ref a7, .ref a8, .int (zi ((ml : Int))), .ref a9, .ref a10, .int (zi ((mz : Int))), .ref a11, .long (zl (ab)), .long (zl (be))]))] A) args s 0 0 A := ⟨_, rfl⟩
  rw [← hQQ]
  obtain ⟨H, hHe⟩ : ∃ H : Heap, H = s.heap := ⟨_, rfl⟩
  obtain ⟨locs, hlc⟩ : ∃ x : List Loc, x = [] := ⟨_, rfl⟩
  have hS : va_S A s.heap H locs := by rw [hHe, hlc]; exact va_S.rf
  have hP : va_P (dC, dI) vwCl [(m0, .inr (3, [.int (zi (tw)), .int (zi ((mp : Int))), .ref a1, .ref a2, .ref a3, .ref a4, .ref a5, .ref a6, .int (zi ((mb : Int))), .ref a7, .ref a8, .int (zi ((ml : Int))), .ref a9, .ref a10, .int (zi ((mz : Int))), .ref a11, .long (zl (ab)), .long (zl (be))]))] H := by rw [hHe]; exact hP
  have hD : va_D A [(m0, .inr (3, [.int (zi (tw)), .int (zi ((mp : Int))), .ref a1, .ref a2, .ref a3, .ref a4, .ref a5, .ref a6, .int (zi ((mb : Int))), .ref a7, .ref a8, .int (zi ((ml : Int))), .ref a9, .ref a10, .int (zi ((mz : Int))), .ref a11, .long (zl (ab)), .long (zl (be))]))] := hD
  rw [← hHe, ← hlc]
  refine lv_aload_n hx hb dX3_volume_0 rfl (lv_at hl 0 rfl) ?_
  refine lv_aload_n hx hb dX3_volume_1 rfl (lv_at hl 0 rfl) ?_
  refine lv_iload_n hx hb dX3_volume_2 rfl (lv_at hl 1 rfl) ?_
  refine rdV (As := [.int (zi (q))]) (rest := [.ref m0]) (n := 1) hx hb hml hown hg (c_X3_isProfile l dC dI m0 a1 a2 a3 a4 a5 a6 a7 a8 a9 a10 a11 (tw) (ab) (be) mp mb ml mz (q) hmp (by omega)) (gwV wl_X3_70 wm_X3_isProfile we_X3_isProfile wi_X3 wc_X3_isProfile) rfl rfl (by decide +kernel) ⟨Nat.le_of_ble_eq_true rfl, Nat.le_of_ble_eq_true rfl⟩ (hK.sub [] rfl) (hP.sub [0] rfl) 0 rfl rfl rfl rfl hl.1 rfl (Nat.le_of_ble_eq_true rfl) dX3_volume_3 ⟨Nat.zero_le _, Nat.zero_le _⟩ ?_
  refine zz_zb_eq (tgt := 18) hx hb dX3_volume_6 (by decide) (fun c_6 => ?_) (fun c_6 => ?_)
  · refine lv_iconst (v := zi (1)) hx hb dX3_volume_18 rfl ?_
    refine lv_goto (tgt := 23) hx hb dX3_volume_19 (by decide) ?_
    refine lv_iconst (v := zi (0)) hx hb dX3_volume_23 rfl ?_
    refine lv_iconst (v := zi (0)) hx hb dX3_volume_24 rfl ?_
    refine wrV (As := [.int (zi (1)), .int (zi (0)), .int (zi (0))]) (rest := []) (n := 3) (ws' := [(m0, .inr (3, [.int (zi (1)), .int (zi ((mp : Int))), .ref a1, .ref a2, .ref a3, .ref a4, .ref a5, .ref a6, .int (zi ((mb : Int))), .ref a7, .ref a8, .int (zi ((ml : Int))), .ref a9, .ref a10, .int (zi ((mz : Int))), .ref a11, .long (zl (ab)), .long (zl (be))]))]) hx hb hml hown hg (c_throwing l dC dI H.size m0 a1 a2 a3 a4 a5 a6 a7 a8 a9 a10 a11 (tw) (ab) (be) mp mb ml mz 1 0 0 (by decide) (by decide) (by decide)) (gwV wl_X3_59 wm_X3_throwing we_X3_throwing wi_X3 wc_X3_throwing) rfl rfl (by decide +kernel) ⟨Nat.le_of_ble_eq_true rfl, Nat.le_of_ble_eq_true rfl⟩ (hK.sub [] rfl) hP hD hS hA [0] rfl (by decide) [(true, 0)] rfl (by decide) rfl 0 rfl rfl rfl rfl hl.1 rfl (Nat.le_of_ble_eq_true rfl) dX3_volume_25 ⟨Nat.zero_le _, Nat.zero_le _⟩ (fun H locs hP hD hS => ?_)
    refine zz_topi (z := 1) (congrArg zi (by decide)) ?_
    refine zz_if_eq (tgt := 33) hx hb (by omega) dX3_volume_28 (by decide) (fun c_28 => ?_) (fun c_28 => ?_)
    · exact absurd c_28 (by decide)
    · refine lv_lconst (v := zl (0)) hx hb dX3_volume_31 (by decide) ?_
      have hP9 : va_P (dC, dI) vwCl [(m0, .inr (3, [.int (zi (1)), .int (zi ((mp : Int))), .ref a1, .ref a2, .ref a3, .ref a4, .ref a5, .ref a6, .int (zi ((mb : Int))), .ref a7, .ref a8, .int (zi ((ml : Int))), .ref a9, .ref a10, .int (zi ((mz : Int))), .ref a11, .long (zl (ab)), .long (zl (be))]))] H := hP
      rw [hQQ]
      exact wr_l hx hb hr hlocks rfl hP9 hS dX3_volume_32
  · refine lv_iload_n hx hb dX3_volume_9 rfl (lv_at hl 3 rfl) ?_
    refine lv_iconst (v := zi (0)) hx hb dX3_volume_10 rfl ?_
    refine lv_iconst (v := zi (1)) hx hb dX3_volume_11 rfl ?_
    refine rdS (As := [.int (zi (part)), .int (zi (0)), .int (zi (1))]) (rest := [.ref m0]) (n := 3) hx hb hml hown hg (c_X3_in l (part) (0) (1) (by omega) (by omega) (by omega)) (gwS wl_X3_55 wt_X3_in wi_X3 wc_X3_in) rfl rfl (by decide +kernel) ⟨Nat.le_of_ble_eq_true rfl, Nat.le_of_ble_eq_true rfl⟩ rfl hl.1 rfl (Nat.le_of_ble_eq_true rfl) dX3_volume_12 ⟨Nat.zero_le _, Nat.zero_le _⟩ ?_
    refine zz_zb_ne (tgt := 22) hx hb dX3_volume_15 (by decide) (fun c_15 => ?_) (fun c_15 => ?_)
    · exact False.elim (by omega)
    · refine lv_iconst (v := zi (1)) hx hb dX3_volume_18 rfl ?_
      refine lv_goto (tgt := 23) hx hb dX3_volume_19 (by decide) ?_
      refine lv_iconst (v := zi (0)) hx hb dX3_volume_23 rfl ?_
      refine lv_iconst (v := zi (0)) hx hb dX3_volume_24 rfl ?_
      refine wrV (As := [.int (zi (1)), .int (zi (0)), .int (zi (0))]) (rest := []) (n := 3) (ws' := [(m0, .inr (3, [.int (zi (1)), .int (zi ((mp : Int))), .ref a1, .ref a2, .ref a3, .ref a4, .ref a5, .ref a6, .int (zi ((mb : Int))), .ref a7, .ref a8, .int (zi ((ml : Int))), .ref a9, .ref a10, .int (zi ((mz : Int))), .ref a11, .long (zl (ab)), .long (zl (be))]))]) hx hb hml hown hg (c_throwing l dC dI H.size m0 a1 a2 a3 a4 a5 a6 a7 a8 a9 a10 a11 (tw) (ab) (be) mp mb ml mz 1 0 0 (by decide) (by decide) (by decide)) (gwV wl_X3_59 wm_X3_throwing we_X3_throwing wi_X3 wc_X3_throwing) rfl rfl (by decide +kernel) ⟨Nat.le_of_ble_eq_true rfl, Nat.le_of_ble_eq_true rfl⟩ (hK.sub [] rfl) hP hD hS hA [0] rfl (by decide) [(true, 0)] rfl (by decide) rfl 0 rfl rfl rfl rfl hl.1 rfl (Nat.le_of_ble_eq_true rfl) dX3_volume_25 ⟨Nat.zero_le _, Nat.zero_le _⟩ (fun H locs hP hD hS => ?_)
      refine zz_topi (z := 1) (congrArg zi (by decide)) ?_
      refine zz_if_eq (tgt := 33) hx hb (by omega) dX3_volume_28 (by decide) (fun c_28 => ?_) (fun c_28 => ?_)
      · exact absurd c_28 (by decide)
      · refine lv_lconst (v := zl (0)) hx hb dX3_volume_31 (by decide) ?_
        have hP9 : va_P (dC, dI) vwCl [(m0, .inr (3, [.int (zi (1)), .int (zi ((mp : Int))), .ref a1, .ref a2, .ref a3, .ref a4, .ref a5, .ref a6, .int (zi ((mb : Int))), .ref a7, .ref a8, .int (zi ((ml : Int))), .ref a9, .ref a10, .int (zi ((mz : Int))), .ref a11, .long (zl (ab)), .long (zl (be))]))] H := hP
        rw [hQQ]
        exact wr_l hx hb hr hlocks rfl hP9 hS dX3_volume_32

set_option maxHeartbeats 4000000 in
set_option maxRecDepth 100000 in
theorem k_volume (l : Launch) (dC : Nat → ClassId) (dI : Nat → Nat → Nat) (sz : Nat) (m0 a1 a2 a3 a4 a5 a6 a7 a8 a9 a10 a11 : Nat) (tw ab be : Int) (mp mb ml mz : Nat) (cA : ClassId) (j n : Nat) (sf hh rr hs rs : Nat → Int) (to part : Int) (hj : j < 6) (hsf : sf j = (n : Int)) (hhs : ∀ k, k < 12 → hh (12 * j + k) = hs k) (hrs : ∀ k, k < 12 → rr (12 * j + k) = rs k) (hn : n ≤ 12) (hH : ∀ j, 0 ≤ hs j ∧ hs j ≤ 400) (hR : ∀ j, 0 ≤ rs j ∧ rs j ≤ 200) (hmp : mp ≤ 6) (hjp : j < mp) (h_to : -2147483648 ≤ to ∧ to < 2147483648) (hp9 : part = 0 ∨ part = 1) (hok : m_oks n hs rs 0 0 to) : Met l yX3_volume (Cond.code yX3_volume cX3_volume 4 ((Option.some Jvm.ClassFile.FieldType.long)) :: gw) rm_X3_volume (PcW [.ref m0, .int (zi ((j : Int))), .int (zi (to)), .int (zi (part))] (dC, dI) vwCl [(m0, .inr (3, [.int (zi (tw)), .int (zi ((mp : Int))), .ref a1, .ref a2, .ref a3, .ref a4, .ref a5, .ref a6, .int (zi ((mb : Int))), .ref a7, .ref a8, .int (zi ((ml : Int))), .ref a9, .ref a10, .int (zi ((mz : Int))), .ref a11, .long (zl (ab)), .long (zl (be))])), (a1, .inl (cA, 6, .inl (zA (sf)))), (a2, .inl (cA, 72, .inl (zA (hh)))), (a3, .inl (cA, 72, .inl (zA (rr))))] [(cA, .int)] sz) (WrQ (some (.long (zl (if part = 0 then (((m_sum hs rs 0 0 to (n - 1)).1 : Nat) : Int) else (((m_sum hs rs 0 0 to (n - 1)).2 : Nat) : Int))))) (dC, dI) vwCl [(m0, .inr (3, [.int (zi (0)), .int (zi ((mp : Int))), .ref a1, .ref a2, .ref a3, .ref a4, .ref a5, .ref a6, .int (zi ((mb : Int))), .ref a7, .ref a8, .int (zi ((ml : Int))), .ref a9, .ref a10, .int (zi ((mz : Int))), .ref a11, .long (zl ((((m_sum hs rs 0 0 to (n - 1)).1 : Nat) : Int))), .long (zl ((((m_sum hs rs 0 0 to (n - 1)).2 : Nat) : Int)))])), (a1, .inl (cA, 6, .inl (zA (sf)))), (a2, .inl (cA, 72, .inl (zA (hh)))), (a3, .inl (cA, 72, .inl (zA (rr))))] (va_A [(m0, .inr (3, [.int (zi (tw)), .int (zi ((mp : Int))), .ref a1, .ref a2, .ref a3, .ref a4, .ref a5, .ref a6, .int (zi ((mb : Int))), .ref a7, .ref a8, .int (zi ((ml : Int))), .ref a9, .ref a10, .int (zi ((mz : Int))), .ref a11, .long (zl (ab)), .long (zl (be))])), (a1, .inl (cA, 6, .inl (zA (sf)))), (a2, .inl (cA, 72, .inl (zA (hh)))), (a3, .inl (cA, 72, .inl (zA (rr))))] sz)) 0 0 (va_A [(m0, .inr (3, [.int (zi (tw)), .int (zi ((mp : Int))), .ref a1, .ref a2, .ref a3, .ref a4, .ref a5, .ref a6, .int (zi ((mb : Int))), .ref a7, .ref a8, .int (zi ((ml : Int))), .ref a9, .ref a10, .int (zi ((mz : Int))), .ref a11, .long (zl (ab)), .long (zl (be))])), (a1, .inl (cA, 6, .inl (zA (sf)))), (a2, .inl (cA, 72, .inl (zA (hh)))), (a3, .inl (cA, 72, .inl (zA (rr))))] sz) := by
  refine Met.ofW (cc := cX3_volume) (maxL := 4) (ret := ((Option.some Jvm.ClassFile.FieldType.long))) (by decide) rfl ?_
  intro p e s m args below meth c s₁ B hml hv
  obtain ⟨hargs, hsz, hP, hK, hD0⟩ := hv
  have hx := B.exec
  have hb := B.bytes
  have hr := B.returns
  have hts := atoms_spec (ws := Cond.code yX3_volume cX3_volume 4 ((Option.some Jvm.ClassFile.FieldType.long)) :: gw) B.pre
  have hg : ∀ w ∈ gw, w.before args s = true := fun w h => hts w (List.mem_cons_of_mem _ h)
  have hown : s.vm.findClass RX3 = some m.cls := findClass_of_methodNamed B.named
  have hlocks := B.notSynchronized
  subst hsz
  have hD := hD0.self (sz := s.heap.size)
  generalize hAe : va_A [(m0, .inr (3, [.int (zi (tw)), .int (zi ((mp : Int))), .ref a1, .ref a2, .ref a3, .ref a4, .ref a5, .ref a6, .int (zi ((mb : Int))), .ref a7, .ref a8, .int (zi ((ml : Int))), .ref a9, .ref a10, .int (zi ((mz : Int))), .ref a11, .long (zl (ab)), .long (zl (be))])), (a1, .inl (cA, 6, .inl (zA (sf)))), (a2, .inl (cA, 72, .inl (zA (hh)))), (a3, .inl (cA, 72, .inl (zA (rr))))] s.heap.size = A at hD ⊢
  have hA : ∀ q : Nat, s.heap.size ≤ q → A q := fun q h => by rw [← hAe]; exact Or.inr h
  show W p l e rm_X3_volume s m args below meth c s.heap [] 0 0 _ _
  have hl := lv_entry ([.ref m0, .int (zi ((j : Int))), .int (zi (to)), .int (zi (part))]) (n := 4) (Nat.le_of_ble_eq_true rfl)
  rw [show entryFrame m args 4 = entryFrame m ([.ref m0, .int (zi ((j : Int))), .int (zi (to)), .int (zi (part))] : List Value).toArray 4 by rw [hargs], lg_entry_eq]
  generalize (lg_sl ([.ref m0, .int (zi ((j : Int))), .int (zi (to)), .int (zi (part))]) ++ List.replicate (4 - (lg_sl ([.ref m0, .int (zi ((j : Int))), .int (zi (to)), .int (zi (part))])).length) Slot.unset).toArray = ls at hl ⊢
  have hl : lv_has ls 4 [(0, .ref m0), (1, .int (zi ((j : Int)))), (2, .int (zi (to))), (3, .int (zi (part)))] := hl
  obtain ⟨QQ, hQQ⟩ : ∃ Q, Q = MQ below (WrQ (some (.long (zl (if part = 0 then (((m_sum hs rs 0 0 to (n - 1)).1 : Nat) : Int) else (((m_sum hs rs 0 0 to (n - 1)).2 : Nat) : Int))))) (dC, dI) vwCl [(m0, .inr (3, [.int (zi (0)), .int (zi ((mp : Int))), .ref a1, .ref a2, .ref a3, .ref a4, .ref a5, .ref a6, .int (zi ((mb : Int))), .ref a7, .ref a8, .int (zi ((ml : Int))), .ref a9, .ref a10, .int (zi ((mz : Int))), .ref a11, .long (zl ((((m_sum hs rs 0 0 to (n - 1)).1 : Nat) : Int))), .long (zl ((((m_sum hs rs 0 0 to (n - 1)).2 : Nat) : Int)))])), (a1, .inl (cA, 6, .inl (zA (sf)))), (a2, .inl (cA, 72, .inl (zA (hh)))), (a3, .inl (cA, 72, .inl (zA (rr))))] A) args s 0 0 A := ⟨_, rfl⟩
  rw [← hQQ]
  obtain ⟨H, hHe⟩ : ∃ H : Heap, H = s.heap := ⟨_, rfl⟩
  obtain ⟨locs, hlc⟩ : ∃ x : List Loc, x = [] := ⟨_, rfl⟩
  have hS : va_S A s.heap H locs := by rw [hHe, hlc]; exact va_S.rf
  have hP : va_P (dC, dI) vwCl [(m0, .inr (3, [.int (zi (tw)), .int (zi ((mp : Int))), .ref a1, .ref a2, .ref a3, .ref a4, .ref a5, .ref a6, .int (zi ((mb : Int))), .ref a7, .ref a8, .int (zi ((ml : Int))), .ref a9, .ref a10, .int (zi ((mz : Int))), .ref a11, .long (zl (ab)), .long (zl (be))])), (a1, .inl (cA, 6, .inl (zA (sf)))), (a2, .inl (cA, 72, .inl (zA (hh)))), (a3, .inl (cA, 72, .inl (zA (rr))))] H := by rw [hHe]; exact hP
  have hD : va_D A [(m0, .inr (3, [.int (zi (tw)), .int (zi ((mp : Int))), .ref a1, .ref a2, .ref a3, .ref a4, .ref a5, .ref a6, .int (zi ((mb : Int))), .ref a7, .ref a8, .int (zi ((ml : Int))), .ref a9, .ref a10, .int (zi ((mz : Int))), .ref a11, .long (zl (ab)), .long (zl (be))])), (a1, .inl (cA, 6, .inl (zA (sf)))), (a2, .inl (cA, 72, .inl (zA (hh)))), (a3, .inl (cA, 72, .inl (zA (rr))))] := hD
  rw [← hHe, ← hlc]
  refine lv_aload_n hx hb dX3_volume_0 rfl (lv_at hl 0 rfl) ?_
  refine lv_aload_n hx hb dX3_volume_1 rfl (lv_at hl 0 rfl) ?_
  refine lv_iload_n hx hb dX3_volume_2 rfl (lv_at hl 1 rfl) ?_
  refine rdV (As := [.int (zi ((j : Int)))]) (rest := [.ref m0]) (n := 1) hx hb hml hown hg (c_X3_isProfile l dC dI m0 a1 a2 a3 a4 a5 a6 a7 a8 a9 a10 a11 (tw) (ab) (be) mp mb ml mz ((j : Int)) hmp (by omega)) (gwV wl_X3_70 wm_X3_isProfile we_X3_isProfile wi_X3 wc_X3_isProfile) rfl rfl (by decide +kernel) ⟨Nat.le_of_ble_eq_true rfl, Nat.le_of_ble_eq_true rfl⟩ (hK.sub [] rfl) (hP.sub [0] rfl) 0 rfl rfl rfl rfl hl.1 rfl (Nat.le_of_ble_eq_true rfl) dX3_volume_3 ⟨Nat.zero_le _, Nat.zero_le _⟩ ?_
  refine zz_topi (z := 1) (congrArg zi (zb_t (decide_eq_true (by omega)))) ?_
  refine zz_if_eq (tgt := 18) hx hb (by omega) dX3_volume_6 (by decide) (fun c_6 => ?_) (fun c_6 => ?_)
  · exact absurd c_6 (by decide)
  · refine lv_iload_n hx hb dX3_volume_9 rfl (lv_at hl 3 rfl) ?_
    refine lv_iconst (v := zi (0)) hx hb dX3_volume_10 rfl ?_
    refine lv_iconst (v := zi (1)) hx hb dX3_volume_11 rfl ?_
    refine rdS (As := [.int (zi (part)), .int (zi (0)), .int (zi (1))]) (rest := [.ref m0]) (n := 3) hx hb hml hown hg (c_X3_in l (part) (0) (1) (by omega) (by omega) (by omega)) (gwS wl_X3_55 wt_X3_in wi_X3 wc_X3_in) rfl rfl (by decide +kernel) ⟨Nat.le_of_ble_eq_true rfl, Nat.le_of_ble_eq_true rfl⟩ rfl hl.1 rfl (Nat.le_of_ble_eq_true rfl) dX3_volume_12 ⟨Nat.zero_le _, Nat.zero_le _⟩ ?_
    refine zz_topi (z := 1) (congrArg zi (zb_t (decide_eq_true (by omega)))) ?_
    refine zz_if_ne (tgt := 22) hx hb (by omega) dX3_volume_15 (by decide) (fun c_15 => ?_) (fun c_15 => ?_)
    · refine lv_iconst (v := zi (0)) hx hb dX3_volume_22 rfl ?_
      refine lv_iconst (v := zi (0)) hx hb dX3_volume_23 rfl ?_
      refine lv_iconst (v := zi (0)) hx hb dX3_volume_24 rfl ?_
      refine wrV (As := [.int (zi (0)), .int (zi (0)), .int (zi (0))]) (rest := []) (n := 3) (ws' := [(m0, .inr (3, [.int (zi (0)), .int (zi ((mp : Int))), .ref a1, .ref a2, .ref a3, .ref a4, .ref a5, .ref a6, .int (zi ((mb : Int))), .ref a7, .ref a8, .int (zi ((ml : Int))), .ref a9, .ref a10, .int (zi ((mz : Int))), .ref a11, .long (zl (ab)), .long (zl (be))])), (a1, .inl (cA, 6, .inl (zA (sf)))), (a2, .inl (cA, 72, .inl (zA (hh)))), (a3, .inl (cA, 72, .inl (zA (rr))))]) hx hb hml hown hg (c_throwing l dC dI H.size m0 a1 a2 a3 a4 a5 a6 a7 a8 a9 a10 a11 (tw) (ab) (be) mp mb ml mz 0 0 0 (by decide) (by decide) (by decide)) (gwV wl_X3_59 wm_X3_throwing we_X3_throwing wi_X3 wc_X3_throwing) rfl rfl (by decide +kernel) ⟨Nat.le_of_ble_eq_true rfl, Nat.le_of_ble_eq_true rfl⟩ (hK.sub [] rfl) hP hD hS hA [0] rfl (by decide) [(true, 0), (false, 1), (false, 2), (false, 3)] rfl (by decide) rfl 0 rfl rfl rfl rfl hl.1 rfl (Nat.le_of_ble_eq_true rfl) dX3_volume_25 ⟨Nat.zero_le _, Nat.zero_le _⟩ (fun H locs hP hD hS => ?_)
      refine zz_topi (z := 0) (congrArg zi (by decide)) ?_
      refine zz_if_eq (tgt := 33) hx hb (by omega) dX3_volume_28 (by decide) (fun c_28 => ?_) (fun c_28 => ?_)
      · refine lv_aload_n hx hb dX3_volume_33 rfl (lv_at hl 0 rfl) ?_
        refine lv_iload_n hx hb dX3_volume_34 rfl (lv_at hl 1 rfl) ?_
        refine lv_iconst (v := zi (0)) hx hb dX3_volume_35 rfl ?_
        refine lv_iload_n hx hb dX3_volume_36 rfl (lv_at hl 2 rfl) ?_
        refine lv_iconst (v := zi (0)) hx hb dX3_volume_37 rfl ?_
        refine wrV (As := [.int (zi ((j : Int))), .int (zi (0)), .int (zi (to)), .int (zi (0))]) (rest := []) (n := 4) (ws' := [(m0, .inr (3, [.int (zi (0)), .int (zi ((mp : Int))), .ref a1, .ref a2, .ref a3, .ref a4, .ref a5, .ref a6, .int (zi ((mb : Int))), .ref a7, .ref a8, .int (zi ((ml : Int))), .ref a9, .ref a10, .int (zi ((mz : Int))), .ref a11, .long (zl ((((m_sum hs rs (0) (0) (to) (n - 1)).1 : Nat) : Int))), .long (zl ((((m_sum hs rs (0) (0) (to) (n - 1)).2 : Nat) : Int)))])), (a1, .inl (cA, 6, .inl (zA (sf)))), (a2, .inl (cA, 72, .inl (zA (hh)))), (a3, .inl (cA, 72, .inl (zA (rr))))]) hx hb hml hown hg (c_X3_sum l dC dI H.size m0 a1 a2 a3 a4 a5 a6 a7 a8 a9 a10 a11 (0) (ab) (be) mp mb ml mz cA j n sf hh rr hs rs (0) (to) (0) hj hsf hhs hrs hn hH hR (by omega) (by omega) (by decide) hok) (gwV wl_X3_107 wm_X3_sum we_X3_sum wi_X3 wc_X3_sum) rfl rfl (by decide +kernel) ⟨Nat.le_of_ble_eq_true rfl, Nat.le_of_ble_eq_true rfl⟩ (hK.sub [0] rfl) hP hD hS hA [0, 1, 2, 3] rfl (by decide) [(true, 0), (true, 1), (true, 2), (true, 3)] rfl (by decide) rfl 0 rfl rfl rfl rfl hl.1 rfl (Nat.le_of_ble_eq_true rfl) dX3_volume_38 ⟨Nat.zero_le _, Nat.zero_le _⟩ (fun H locs hP hD hS => ?_)
        refine lv_iload_n hx hb dX3_volume_41 rfl (lv_at hl 3 rfl) ?_
        refine zz_if_ne (tgt := 52) hx hb (by omega) dX3_volume_42 (by decide) (fun c_42 => ?_) (fun c_42 => ?_)
        · refine lv_aload_n hx hb dX3_volume_52 rfl (lv_at hl 0 rfl) ?_
          refine va_get (D := (dC, dI)) (ci := 3) (v := .long (zl ((((m_sum hs rs (0) (0) (to) (n - 1)).2 : Nat) : Int)))) (C := RX3) (T := TX3) (N := 18) hx hb hg inX3 hown hK hP 0 rfl rfl 17 (by decide) (hg _ wl_X3_44) (fun _ h9 => h9) rfl dX3_volume_53 ?_
          have hP9 : va_P (dC, dI) vwCl [(m0, .inr (3, [.int (zi (0)), .int (zi ((mp : Int))), .ref a1, .ref a2, .ref a3, .ref a4, .ref a5, .ref a6, .int (zi ((mb : Int))), .ref a7, .ref a8, .int (zi ((ml : Int))), .ref a9, .ref a10, .int (zi ((mz : Int))), .ref a11, .long (zl ((((m_sum hs rs 0 0 to (n - 1)).1 : Nat) : Int))), .long (zl ((((m_sum hs rs 0 0 to (n - 1)).2 : Nat) : Int)))])), (a1, .inl (cA, 6, .inl (zA (sf)))), (a2, .inl (cA, 72, .inl (zA (hh)))), (a3, .inl (cA, 72, .inl (zA (rr))))] H := hP
          rw [hQQ]
          exact wr_l hx hb hr hlocks (if_neg (by omega)).symm hP9 hS dX3_volume_56
        · refine lv_aload_n hx hb dX3_volume_45 rfl (lv_at hl 0 rfl) ?_
          refine va_get (D := (dC, dI)) (ci := 3) (v := .long (zl ((((m_sum hs rs (0) (0) (to) (n - 1)).1 : Nat) : Int)))) (C := RX3) (T := TX3) (N := 18) hx hb hg inX3 hown hK hP 0 rfl rfl 16 (by decide) (hg _ wl_X3_84) (fun _ h9 => h9) rfl dX3_volume_46 ?_
          refine lv_goto (tgt := 56) hx hb dX3_volume_49 (by decide) ?_
          have hP9 : va_P (dC, dI) vwCl [(m0, .inr (3, [.int (zi (0)), .int (zi ((mp : Int))), .ref a1, .ref a2, .ref a3, .ref a4, .ref a5, .ref a6, .int (zi ((mb : Int))), .ref a7, .ref a8, .int (zi ((ml : Int))), .ref a9, .ref a10, .int (zi ((mz : Int))), .ref a11, .long (zl ((((m_sum hs rs 0 0 to (n - 1)).1 : Nat) : Int))), .long (zl ((((m_sum hs rs 0 0 to (n - 1)).2 : Nat) : Int)))])), (a1, .inl (cA, 6, .inl (zA (sf)))), (a2, .inl (cA, 72, .inl (zA (hh)))), (a3, .inl (cA, 72, .inl (zA (rr))))] H := hP
          rw [hQQ]
          exact wr_l hx hb hr hlocks (if_pos (by omega)).symm hP9 hS dX3_volume_56
      · exact absurd c_28 (by decide)
    · exact absurd c_15 (by decide)

abbrev rm_X3_sumHeld : Room := { frames := 5, cells := 0, slots := 0, locals := 139 }
set_option maxHeartbeats 4000000 in
set_option maxRecDepth 100000 in
theorem c_X3_sumHeld (l : Launch) (dC : Nat → ClassId) (dI : Nat → Nat → Nat) (sz : Nat) (m0 a1 a2 a3 a4 a5 a6 a7 a8 a9 a10 a11 : Nat) (tw ab be : Int) (mp mb ml mz : Nat) (cA : ClassId) (j n : Nat) (sf hh rr hs rs : Nat → Int) (wf : Nat → Int) (to : Int) (hj : j < 6) (hsf : sf j = (n : Int)) (hhs : ∀ k, k < 12 → hh (12 * j + k) = hs k) (hrs : ∀ k, k < 12 → rr (12 * j + k) = rs k) (hn : n ≤ 12) (hH : ∀ j, 0 ≤ hs j ∧ hs j ≤ 400) (hR : ∀ j, 0 ≤ rs j ∧ rs j ≤ 200) (th : Int) (hwf : wf j = th) (hth : 0 ≤ th ∧ th ≤ 50) (h_to : -2147483648 ≤ to ∧ to < 2147483648) (hok : m_oks n hs rs th (hs 0 + th) to) : Met l yX3_sumHeld (Cond.code yX3_sumHeld cX3_sumHeld 3 ((Option.none : Option Jvm.ClassFile.FieldType)) :: gw) rm_X3_sumHeld (PcW [.ref m0, .int (zi ((j : Int))), .int (zi (to))] (dC, dI) vwCl [(m0, .inr (3, [.int (zi (tw)), .int (zi ((mp : Int))), .ref a1, .ref a2, .ref a3, .ref a4, .ref a5, .ref a6, .int (zi ((mb : Int))), .ref a7, .ref a8, .int (zi ((ml : Int))), .ref a9, .ref a10, .int (zi ((mz : Int))), .ref a11, .long (zl (ab)), .long (zl (be))])), (a1, .inl (cA, 6, .inl (zA (sf)))), (a2, .inl (cA, 72, .inl (zA (hh)))), (a3, .inl (cA, 72, .inl (zA (rr)))), (a5, .inl (cA, 6, .inl (zA (wf))))] [(cA, .int)] sz) (WrQ (none) (dC, dI) vwCl [(m0, .inr (3, [.int (zi (tw)), .int (zi ((mp : Int))), .ref a1, .ref a2, .ref a3, .ref a4, .ref a5, .ref a6, .int (zi ((mb : Int))), .ref a7, .ref a8, .int (zi ((ml : Int))), .ref a9, .ref a10, .int (zi ((mz : Int))), .ref a11, .long (zl ((((m_sum hs rs th (hs 0 + th) to (n - 1)).1 : Nat) : Int))), .long (zl ((((m_sum hs rs th (hs 0 + th) to (n - 1)).2 : Nat) : Int)))])), (a1, .inl (cA, 6, .inl (zA (sf)))), (a2, .inl (cA, 72, .inl (zA (hh)))), (a3, .inl (cA, 72, .inl (zA (rr)))), (a5, .inl (cA, 6, .inl (zA (wf))))] (va_A [(m0, .inr (3, [.int (zi (tw)), .int (zi ((mp : Int))), .ref a1, .ref a2, .ref a3, .ref a4, .ref a5, .ref a6, .int (zi ((mb : Int))), .ref a7, .ref a8, .int (zi ((ml : Int))), .ref a9, .ref a10, .int (zi ((mz : Int))), .ref a11, .long (zl (ab)), .long (zl (be))])), (a1, .inl (cA, 6, .inl (zA (sf)))), (a2, .inl (cA, 72, .inl (zA (hh)))), (a3, .inl (cA, 72, .inl (zA (rr)))), (a5, .inl (cA, 6, .inl (zA (wf))))] sz)) 0 0 (va_A [(m0, .inr (3, [.int (zi (tw)), .int (zi ((mp : Int))), .ref a1, .ref a2, .ref a3, .ref a4, .ref a5, .ref a6, .int (zi ((mb : Int))), .ref a7, .ref a8, .int (zi ((ml : Int))), .ref a9, .ref a10, .int (zi ((mz : Int))), .ref a11, .long (zl (ab)), .long (zl (be))])), (a1, .inl (cA, 6, .inl (zA (sf)))), (a2, .inl (cA, 72, .inl (zA (hh)))), (a3, .inl (cA, 72, .inl (zA (rr)))), (a5, .inl (cA, 6, .inl (zA (wf))))] sz) := by
  refine Met.ofW (cc := cX3_sumHeld) (maxL := 3) (ret := ((Option.none : Option Jvm.ClassFile.FieldType))) (by decide) rfl ?_
  intro p e s m args below meth c s₁ B hml hv
  obtain ⟨hargs, hsz, hP, hK, hD0⟩ := hv
  have hx := B.exec
  have hb := B.bytes
  have hr := B.returns
  have hts := atoms_spec (ws := Cond.code yX3_sumHeld cX3_sumHeld 3 ((Option.none : Option Jvm.ClassFile.FieldType)) :: gw) B.pre
  have hg : ∀ w ∈ gw, w.before args s = true := fun w h => hts w (List.mem_cons_of_mem _ h)
  have hown : s.vm.findClass RX3 = some m.cls := findClass_of_methodNamed B.named
  have hlocks := B.notSynchronized
  subst hsz
  have hD := hD0.self (sz := s.heap.size)
  generalize hAe : va_A [(m0, .inr (3, [.int (zi (tw)), .int (zi ((mp : Int))), .ref a1, .ref a2, .ref a3, .ref a4, .ref a5, .ref a6, .int (zi ((mb : Int))), .ref a7, .ref a8, .int (zi ((ml : Int))), .ref a9, .ref a10, .int (zi ((mz : Int))), .ref a11, .long (zl (ab)), .long (zl (be))])), (a1, .inl (cA, 6, .inl (zA (sf)))), (a2, .inl (cA, 72, .inl (zA (hh)))), (a3, .inl (cA, 72, .inl (zA (rr)))), (a5, .inl (cA, 6, .inl (zA (wf))))] s.heap.size = A at hD ⊢
  have hA : ∀ q : Nat, s.heap.size ≤ q → A q := fun q h => by rw [← hAe]; exact Or.inr h
  show W p l e rm_X3_sumHeld s m args below meth c s.heap [] 0 0 _ _
  have hl := lv_entry ([.ref m0, .int (zi ((j : Int))), .int (zi (to))]) (n := 3) (Nat.le_of_ble_eq_true rfl)
  rw [show entryFrame m args 3 = entryFrame m ([.ref m0, .int (zi ((j : Int))), .int (zi (to))] : List Value).toArray 3 by rw [hargs], lg_entry_eq]
  generalize (lg_sl ([.ref m0, .int (zi ((j : Int))), .int (zi (to))]) ++ List.replicate (3 - (lg_sl ([.ref m0, .int (zi ((j : Int))), .int (zi (to))])).length) Slot.unset).toArray = ls at hl ⊢
  have hl : lv_has ls 3 [(0, .ref m0), (1, .int (zi ((j : Int)))), (2, .int (zi (to)))] := hl
  obtain ⟨QQ, hQQ⟩ : ∃ Q, Q = MQ below (WrQ (none) (dC, dI) vwCl [(m0, .inr (3, [.int (zi (tw)), .int (zi ((mp : Int))), .ref a1, .ref a2, .ref a3, .ref a4, .ref a5, .ref a6, .int (zi ((mb : Int))), .ref a7, .ref a8, .int (zi ((ml : Int))), .ref a9, .ref a10, .int (zi ((mz : Int))), .ref a11, .long (zl ((((m_sum hs rs th (hs 0 + th) to (n - 1)).1 : Nat) : Int))), .long (zl ((((m_sum hs rs th (hs 0 + th) to (n - 1)).2 : Nat) : Int)))])), (a1, .inl (cA, 6, .inl (zA (sf)))), (a2, .inl (cA, 72, .inl (zA (hh)))), (a3, .inl (cA, 72, .inl (zA (rr)))), (a5, .inl (cA, 6, .inl (zA (wf))))] A) args s 0 0 A := ⟨_, rfl⟩
  rw [← hQQ]
  obtain ⟨H, hHe⟩ : ∃ H : Heap, H = s.heap := ⟨_, rfl⟩
  obtain ⟨locs, hlc⟩ : ∃ x : List Loc, x = [] := ⟨_, rfl⟩
  have hS : va_S A s.heap H locs := by rw [hHe, hlc]; exact va_S.rf
  have hP : va_P (dC, dI) vwCl [(m0, .inr (3, [.int (zi (tw)), .int (zi ((mp : Int))), .ref a1, .ref a2, .ref a3, .ref a4, .ref a5, .ref a6, .int (zi ((mb : Int))), .ref a7, .ref a8, .int (zi ((ml : Int))), .ref a9, .ref a10, .int (zi ((mz : Int))), .ref a11, .long (zl (ab)), .long (zl (be))])), (a1, .inl (cA, 6, .inl (zA (sf)))), (a2, .inl (cA, 72, .inl (zA (hh)))), (a3, .inl (cA, 72, .inl (zA (rr)))), (a5, .inl (cA, 6, .inl (zA (wf))))] H := by rw [hHe]; exact hP
  have hD : va_D A [(m0, .inr (3, [.int (zi (tw)), .int (zi ((mp : Int))), .ref a1, .ref a2, .ref a3, .ref a4, .ref a5, .ref a6, .int (zi ((mb : Int))), .ref a7, .ref a8, .int (zi ((ml : Int))), .ref a9, .ref a10, .int (zi ((mz : Int))), .ref a11, .long (zl (ab)), .long (zl (be))])), (a1, .inl (cA, 6, .inl (zA (sf)))), (a2, .inl (cA, 72, .inl (zA (hh)))), (a3, .inl (cA, 72, .inl (zA (rr)))), (a5, .inl (cA, 6, .inl (zA (wf))))] := hD
  rw [← hHe, ← hlc]
  refine lv_aload_n hx hb dX3_sumHeld_0 rfl (lv_at hl 0 rfl) ?_
  refine lv_lconst (v := zl (0)) hx hb dX3_sumHeld_1 (by decide) ?_
  refine va_put (D := (dC, dI)) (ci := 3) (v := .long (zl (0))) (ty := .long) (C := RX3) (T := TX3) (N := 18) hx hb hg inX3 tyX3 tyX3_ok nmX3 hown hK hP hD hS 0 rfl rfl 16 (by decide) (hg _ wl_X3_84) (fun _ h9 => h9) rfl (by decide +kernel) rfl rfl (Nat.le_of_ble_eq_true rfl) dX3_sumHeld_2 (fun H locs hP hD hS => ?_)
  have hP : va_P (dC, dI) vwCl [(m0, .inr (3, [.int (zi (tw)), .int (zi ((mp : Int))), .ref a1, .ref a2, .ref a3, .ref a4, .ref a5, .ref a6, .int (zi ((mb : Int))), .ref a7, .ref a8, .int (zi ((ml : Int))), .ref a9, .ref a10, .int (zi ((mz : Int))), .ref a11, .long (zl (0)), .long (zl (be))])), (a1, .inl (cA, 6, .inl (zA (sf)))), (a2, .inl (cA, 72, .inl (zA (hh)))), (a3, .inl (cA, 72, .inl (zA (rr)))), (a5, .inl (cA, 6, .inl (zA (wf))))] H := hP
  have hD : va_D A [(m0, .inr (3, [.int (zi (tw)), .int (zi ((mp : Int))), .ref a1, .ref a2, .ref a3, .ref a4, .ref a5, .ref a6, .int (zi ((mb : Int))), .ref a7, .ref a8, .int (zi ((ml : Int))), .ref a9, .ref a10, .int (zi ((mz : Int))), .ref a11, .long (zl (0)), .long (zl (be))])), (a1, .inl (cA, 6, .inl (zA (sf)))), (a2, .inl (cA, 72, .inl (zA (hh)))), (a3, .inl (cA, 72, .inl (zA (rr)))), (a5, .inl (cA, 6, .inl (zA (wf))))] := hD
  refine lv_aload_n hx hb dX3_sumHeld_5 rfl (lv_at hl 0 rfl) ?_
  refine lv_lconst (v := zl (1)) hx hb dX3_sumHeld_6 (by decide) ?_
  refine va_put (D := (dC, dI)) (ci := 3) (v := .long (zl (1))) (ty := .long) (C := RX3) (T := TX3) (N := 18) hx hb hg inX3 tyX3 tyX3_ok nmX3 hown hK hP hD hS 0 rfl rfl 17 (by decide) (hg _ wl_X3_44) (fun _ h9 => h9) rfl (by decide +kernel) rfl rfl (Nat.le_of_ble_eq_true rfl) dX3_sumHeld_7 (fun H locs hP hD hS => ?_)
  have hP : va_P (dC, dI) vwCl [(m0, .inr (3, [.int (zi (tw)), .int (zi ((mp : Int))), .ref a1, .ref a2, .ref a3, .ref a4, .ref a5, .ref a6, .int (zi ((mb : Int))), .ref a7, .ref a8, .int (zi ((ml : Int))), .ref a9, .ref a10, .int (zi ((mz : Int))), .ref a11, .long (zl (0)), .long (zl (1))])), (a1, .inl (cA, 6, .inl (zA (sf)))), (a2, .inl (cA, 72, .inl (zA (hh)))), (a3, .inl (cA, 72, .inl (zA (rr)))), (a5, .inl (cA, 6, .inl (zA (wf))))] H := hP
  have hD : va_D A [(m0, .inr (3, [.int (zi (tw)), .int (zi ((mp : Int))), .ref a1, .ref a2, .ref a3, .ref a4, .ref a5, .ref a6, .int (zi ((mb : Int))), .ref a7, .ref a8, .int (zi ((ml : Int))), .ref a9, .ref a10, .int (zi ((mz : Int))), .ref a11, .long (zl (0)), .long (zl (1))])), (a1, .inl (cA, 6, .inl (zA (sf)))), (a2, .inl (cA, 72, .inl (zA (hh)))), (a3, .inl (cA, 72, .inl (zA (rr)))), (a5, .inl (cA, 6, .inl (zA (wf))))] := hD
  refine lv_aload_n hx hb dX3_sumHeld_10 rfl (lv_at hl 0 rfl) ?_
  refine va_get (D := (dC, dI)) (ci := 3) (v := .ref a1) (C := RX3) (T := TX3) (N := 18) hx hb hg inX3 hown hK hP 0 rfl rfl 2 (by decide) (hg _ wl_X3_7) (fun _ h9 => h9) rfl dX3_sumHeld_11 ?_
  refine lv_iload_n hx hb dX3_sumHeld_14 rfl (lv_at hl 1 rfl) ?_
  refine zz_iald hx hb hK hP 1 0 rfl rfl (j) (by omega) (by omega) (by decide) dX3_sumHeld_15 ?_
  refine zz_topi (z := (n : Int)) (congrArg zi hsf) ?_
  refine zz_if_le (tgt := 44) hx hb (by omega) dX3_sumHeld_16 (by decide) (fun c_16 => ?_) (fun c_16 => ?_)
  · have hP9 : va_P (dC, dI) vwCl [(m0, .inr (3, [.int (zi (tw)), .int (zi ((mp : Int))), .ref a1, .ref a2, .ref a3, .ref a4, .ref a5, .ref a6, .int (zi ((mb : Int))), .ref a7, .ref a8, .int (zi ((ml : Int))), .ref a9, .ref a10, .int (zi ((mz : Int))), .ref a11, .long (zl ((((m_sum hs rs th (hs 0 + th) to (n - 1)).1 : Nat) : Int))), .long (zl ((((m_sum hs rs th (hs 0 + th) to (n - 1)).2 : Nat) : Int)))])), (a1, .inl (cA, 6, .inl (zA (sf)))), (a2, .inl (cA, 72, .inl (zA (hh)))), (a3, .inl (cA, 72, .inl (zA (rr)))), (a5, .inl (cA, 6, .inl (zA (wf))))] H := by rw [show n - 1 = 0 by omega, m_sum]; exact hP
    rw [hQQ]
    exact wr_v hx hb hr hlocks hP9 hS dX3_sumHeld_44
  · refine lv_aload_n hx hb dX3_sumHeld_19 rfl (lv_at hl 0 rfl) ?_
    refine lv_iload_n hx hb dX3_sumHeld_20 rfl (lv_at hl 1 rfl) ?_
    refine lv_aload_n hx hb dX3_sumHeld_21 rfl (lv_at hl 0 rfl) ?_
    refine lv_iload_n hx hb dX3_sumHeld_22 rfl (lv_at hl 1 rfl) ?_
    refine lv_iconst (v := zi (0)) hx hb dX3_sumHeld_23 rfl ?_
    refine zz_topi (z := ((0 : Nat) : Int)) (congrArg zi (by omega)) ?_
    refine rdV (As := [.int (zi ((j : Int))), .int (zi (((0 : Nat) : Int)))]) (rest := [.int (zi ((j : Int))), .ref m0]) (n := 2) hx hb hml hown hg (c_X3_height l dC dI m0 a1 a2 a3 a4 a5 a6 a7 a8 a9 a10 a11 (tw) (0) (1) mp mb ml mz cA j hh hs (0) hj hhs (by omega)) (gwV wl_X3_63 wm_X3_height we_X3_height wi_X3 wc_X3_height) rfl rfl (by decide +kernel) ⟨Nat.le_of_ble_eq_true rfl, Nat.le_of_ble_eq_true rfl⟩ (hK.sub [0] rfl) (hP.sub [0, 2] rfl) 0 rfl rfl rfl rfl hl.1 rfl (Nat.le_of_ble_eq_true rfl) dX3_sumHeld_24 ⟨Nat.zero_le _, Nat.zero_le _⟩ ?_
    have hv_1 := hH (0)
    refine lv_aload_n hx hb dX3_sumHeld_27 rfl (lv_at hl 0 rfl) ?_
    refine va_get (D := (dC, dI)) (ci := 3) (v := .ref a5) (C := RX3) (T := TX3) (N := 18) hx hb hg inX3 hown hK hP 0 rfl rfl 6 (by decide) (hg _ wl_X3_23) (fun _ h9 => h9) rfl dX3_sumHeld_28 ?_
    refine lv_iload_n hx hb dX3_sumHeld_31 rfl (lv_at hl 1 rfl) ?_
    refine zz_iald hx hb hK hP 4 0 rfl rfl (j) (by omega) (by omega) (by decide) dX3_sumHeld_32 ?_
    refine zz_topi (z := th) (congrArg zi hwf) ?_
    refine zz_iadd hx hb dX3_sumHeld_33 ?_
    refine lv_iload_n hx hb dX3_sumHeld_34 rfl (lv_at hl 2 rfl) ?_
    refine lv_aload_n hx hb dX3_sumHeld_35 rfl (lv_at hl 0 rfl) ?_
    refine va_get (D := (dC, dI)) (ci := 3) (v := .ref a5) (C := RX3) (T := TX3) (N := 18) hx hb hg inX3 hown hK hP 0 rfl rfl 6 (by decide) (hg _ wl_X3_23) (fun _ h9 => h9) rfl dX3_sumHeld_36 ?_
    refine lv_iload_n hx hb dX3_sumHeld_39 rfl (lv_at hl 1 rfl) ?_
    refine zz_iald hx hb hK hP 4 0 rfl rfl (j) (by omega) (by omega) (by decide) dX3_sumHeld_40 ?_
    refine zz_topi (z := th) (congrArg zi hwf) ?_
    refine wrV (As := [.int (zi ((j : Int))), .int (zi ((hs (0)) + (th))), .int (zi (to)), .int (zi (th))]) (rest := []) (n := 4) (ws' := [(m0, .inr (3, [.int (zi (tw)), .int (zi ((mp : Int))), .ref a1, .ref a2, .ref a3, .ref a4, .ref a5, .ref a6, .int (zi ((mb : Int))), .ref a7, .ref a8, .int (zi ((ml : Int))), .ref a9, .ref a10, .int (zi ((mz : Int))), .ref a11, .long (zl ((((m_sum hs rs (th) ((hs (0)) + (th)) (to) (n - 1)).1 : Nat) : Int))), .long (zl ((((m_sum hs rs (th) ((hs (0)) + (th)) (to) (n - 1)).2 : Nat) : Int)))])), (a1, .inl (cA, 6, .inl (zA (sf)))), (a2, .inl (cA, 72, .inl (zA (hh)))), (a3, .inl (cA, 72, .inl (zA (rr)))), (a5, .inl (cA, 6, .inl (zA (wf))))]) hx hb hml hown hg (c_X3_sum l dC dI H.size m0 a1 a2 a3 a4 a5 a6 a7 a8 a9 a10 a11 (tw) (0) (1) mp mb ml mz cA j n sf hh rr hs rs ((hs (0)) + (th)) (to) (th) hj hsf hhs hrs hn hH hR (by omega) h_to hth hok) (gwV wl_X3_107 wm_X3_sum we_X3_sum wi_X3 wc_X3_sum) rfl rfl (by decide +kernel) ⟨Nat.le_of_ble_eq_true rfl, Nat.le_of_ble_eq_true rfl⟩ (hK.sub [0] rfl) hP hD hS hA [0, 1, 2, 3] rfl (by decide) [(true, 0), (true, 1), (true, 2), (true, 3), (false, 4)] rfl (by decide) rfl 0 rfl rfl rfl rfl hl.1 rfl (Nat.le_of_ble_eq_true rfl) dX3_sumHeld_41 ⟨Nat.zero_le _, Nat.zero_le _⟩ (fun H locs hP hD hS => ?_)
    have hP9 : va_P (dC, dI) vwCl [(m0, .inr (3, [.int (zi (tw)), .int (zi ((mp : Int))), .ref a1, .ref a2, .ref a3, .ref a4, .ref a5, .ref a6, .int (zi ((mb : Int))), .ref a7, .ref a8, .int (zi ((ml : Int))), .ref a9, .ref a10, .int (zi ((mz : Int))), .ref a11, .long (zl ((((m_sum hs rs th (hs 0 + th) to (n - 1)).1 : Nat) : Int))), .long (zl ((((m_sum hs rs th (hs 0 + th) to (n - 1)).2 : Nat) : Int)))])), (a1, .inl (cA, 6, .inl (zA (sf)))), (a2, .inl (cA, 72, .inl (zA (hh)))), (a3, .inl (cA, 72, .inl (zA (rr)))), (a5, .inl (cA, 6, .inl (zA (wf))))] H := hP
    rw [hQQ]
    exact wr_v hx hb hr hlocks hP9 hS dX3_sumHeld_44

abbrev rm_X3_holds : Room := { frames := 6, cells := 0, slots := 0, locals := 161 }
set_option maxHeartbeats 4000000 in
set_option maxRecDepth 100000 in
theorem e_holds (l : Launch) (dC : Nat → ClassId) (dI : Nat → Nat → Nat) (sz : Nat) (m0 a1 a2 a3 a4 a5 a6 a7 a8 a9 a10 a11 : Nat) (tw ab be : Int) (mp mb ml mz : Nat) (q to part : Int) (hmp : mp ≤ 6) (h_q : -2147483648 ≤ q ∧ q < 2147483648) (h_to : -2147483648 ≤ to ∧ to < 2147483648) (h_part : -2147483648 ≤ part ∧ part < 2147483648) (hbad : ¬ (0 ≤ q ∧ q < (mp : Int) ∧ (part = 0 ∨ part = 1))) : Met l yX3_holds (Cond.code yX3_holds cX3_holds 4 ((Option.some Jvm.ClassFile.FieldType.long)) :: gw) rm_X3_holds (PcW [.ref m0, .int (zi (q)), .int (zi (to)), .int (zi (part))] (dC, dI) vwCl [(m0, .inr (3, [.int (zi (tw)), .int (zi ((mp : Int))), .ref a1, .ref a2, .ref a3, .ref a4, .ref a5, .ref a6, .int (zi ((mb : Int))), .ref a7, .ref a8, .int (zi ((ml : Int))), .ref a9, .ref a10, .int (zi ((mz : Int))), .ref a11, .long (zl (ab)), .long (zl (be))]))] [] sz) (WrQ (some (.long (zl 0))) (dC, dI) vwCl [(m0, .inr (3, [.int (zi (1)), .int (zi ((mp : Int))), .ref a1, .ref a2, .ref a3, .ref a4, .ref a5, .ref a6, .int (zi ((mb : Int))), .ref a7, .ref a8, .int (zi ((ml : Int))), .ref a9, .ref a10, .int (zi ((mz : Int))), .ref a11, .long (zl (ab)), .long (zl (be))]))] (va_A [(m0, .inr (3, [.int (zi (tw)), .int (zi ((mp : Int))), .ref a1, .ref a2, .ref a3, .ref a4, .ref a5, .ref a6, .int (zi ((mb : Int))), .ref a7, .ref a8, .int (zi ((ml : Int))), .ref a9, .ref a10, .int (zi ((mz : Int))), .ref a11, .long (zl (ab)), .long (zl (be))]))] sz)) 0 0 (va_A [(m0, .inr (3, [.int (zi (tw)), .int (zi ((mp : Int))), .ref a1, .ref a2, .ref a3, .ref a4, .ref a5, .ref a6, .int (zi ((mb : Int))), .ref a7, .ref a8, .int (zi ((ml : Int))), .ref a9, .ref a10, .int (zi ((mz : Int))), .ref a11, .long (zl (ab)), .long (zl (be))]))] sz) := by
  refine Met.ofW (cc := cX3_holds) (maxL := 4) (ret := ((Option.some Jvm.ClassFile.FieldType.long))) (by decide) rfl ?_
  intro p e s m args below meth c s₁ B hml hv
  obtain ⟨hargs, hsz, hP, hK, hD0⟩ := hv
  have hx := B.exec
  have hb := B.bytes
  have hr := B.returns
  have hts := atoms_spec (ws := Cond.code yX3_holds cX3_holds 4 ((Option.some Jvm.ClassFile.FieldType.long)) :: gw) B.pre
  have hg : ∀ w ∈ gw, w.before args s = true := fun w h => hts w (List.mem_cons_of_mem _ h)
  have hown : s.vm.findClass RX3 = some m.cls := findClass_of_methodNamed B.named
  have hlocks := B.notSynchronized
  subst hsz
  have hD := hD0.self (sz := s.heap.size)
  generalize hAe : va_A [(m0, .inr (3, [.int (zi (tw)), .int (zi ((mp : Int))), .ref a1, .ref a2, .ref a3, .ref a4, .ref a5, .ref a6, .int (zi ((mb : Int))), .ref a7, .ref a8, .int (zi ((ml : Int))), .ref a9, .ref a10, .int (zi ((mz : Int))), .ref a11, .long (zl (ab)), .long (zl (be))]))] s.heap.size = A at hD ⊢
  have hA : ∀ q : Nat, s.heap.size ≤ q → A q := fun q h => by rw [← hAe]; exact Or.inr h
  show W p l e rm_X3_holds s m args below meth c s.heap [] 0 0 _ _
  have hl := lv_entry ([.ref m0, .int (zi (q)), .int (zi (to)), .int (zi (part))]) (n := 4) (Nat.le_of_ble_eq_true rfl)
  rw [show entryFrame m args 4 = entryFrame m ([.ref m0, .int (zi (q)), .int (zi (to)), .int (zi (part))] : List Value).toArray 4 by rw [hargs], lg_entry_eq]
  generalize (lg_sl ([.ref m0, .int (zi (q)), .int (zi (to)), .int (zi (part))]) ++ List.replicate (4 - (lg_sl ([.ref m0, .int (zi (q)), .int (zi (to)), .int (zi (part))])).length) Slot.unset).toArray = ls at hl ⊢
  have hl : lv_has ls 4 [(0, .ref m0), (1, .int (zi (q))), (2, .int (zi (to))), (3, .int (zi (part)))] := hl
  obtain ⟨QQ, hQQ⟩ : ∃ Q, Q = MQ below (WrQ (some (.long (zl 0))) (dC, dI) vwCl [(m0, .inr (3, [.int (zi (1)), .int (zi ((mp : Int))), .ref a1, .ref a2, .ref a3, .ref a4, .ref a5, .ref a6, .int (zi ((mb : Int))), .ref a7, .ref a8, .int (zi ((ml : Int))), .ref a9, .ref a10, .int (zi ((mz : Int))), .ref a11, .long (zl (ab)), .long (zl (be))]))] A) args s 0 0 A := ⟨_, rfl⟩
  rw [← hQQ]
  obtain ⟨H, hHe⟩ : ∃ H : Heap, H = s.heap := ⟨_, rfl⟩
  obtain ⟨locs, hlc⟩ : ∃ x : List Loc, x = [] := ⟨_, rfl⟩
  have hS : va_S A s.heap H locs := by rw [hHe, hlc]; exact va_S.rf
  have hP : va_P (dC, dI) vwCl [(m0, .inr (3, [.int (zi (tw)), .int (zi ((mp : Int))), .ref a1, .ref a2, .ref a3, .ref a4, .ref a5, .ref a6, .int (zi ((mb : Int))), .ref a7, .ref a8, .int (zi ((ml : Int))), .ref a9, .ref a10, .int (zi ((mz : Int))), .ref a11, .long (zl (ab)), .long (zl (be))]))] H := by rw [hHe]; exact hP
  have hD : va_D A [(m0, .inr (3, [.int (zi (tw)), .int (zi ((mp : Int))), .ref a1, .ref a2, .ref a3, .ref a4, .ref a5, .ref a6, .int (zi ((mb : Int))), .ref a7, .ref a8, .int (zi ((ml : Int))), .ref a9, .ref a10, .int (zi ((mz : Int))), .ref a11, .long (zl (ab)), .long (zl (be))]))] := hD
  rw [← hHe, ← hlc]
  refine lv_aload_n hx hb dX3_holds_0 rfl (lv_at hl 0 rfl) ?_
  refine lv_aload_n hx hb dX3_holds_1 rfl (lv_at hl 0 rfl) ?_
  refine lv_iload_n hx hb dX3_holds_2 rfl (lv_at hl 1 rfl) ?_
  refine rdV (As := [.int (zi (q))]) (rest := [.ref m0]) (n := 1) hx hb hml hown hg (c_X3_isProfile l dC dI m0 a1 a2 a3 a4 a5 a6 a7 a8 a9 a10 a11 (tw) (ab) (be) mp mb ml mz (q) hmp (by omega)) (gwV wl_X3_70 wm_X3_isProfile we_X3_isProfile wi_X3 wc_X3_isProfile) rfl rfl (by decide +kernel) ⟨Nat.le_of_ble_eq_true rfl, Nat.le_of_ble_eq_true rfl⟩ (hK.sub [] rfl) (hP.sub [0] rfl) 0 rfl rfl rfl rfl hl.1 rfl (Nat.le_of_ble_eq_true rfl) dX3_holds_3 ⟨Nat.zero_le _, Nat.zero_le _⟩ ?_
  refine zz_zb_eq (tgt := 18) hx hb dX3_holds_6 (by decide) (fun c_6 => ?_) (fun c_6 => ?_)
  · refine lv_iconst (v := zi (1)) hx hb dX3_holds_18 rfl ?_
    refine lv_goto (tgt := 23) hx hb dX3_holds_19 (by decide) ?_
    refine lv_iconst (v := zi (0)) hx hb dX3_holds_23 rfl ?_
    refine lv_iconst (v := zi (0)) hx hb dX3_holds_24 rfl ?_
    refine wrV (As := [.int (zi (1)), .int (zi (0)), .int (zi (0))]) (rest := []) (n := 3) (ws' := [(m0, .inr (3, [.int (zi (1)), .int (zi ((mp : Int))), .ref a1, .ref a2, .ref a3, .ref a4, .ref a5, .ref a6, .int (zi ((mb : Int))), .ref a7, .ref a8, .int (zi ((ml : Int))), .ref a9, .ref a10, .int (zi ((mz : Int))), .ref a11, .long (zl (ab)), .long (zl (be))]))]) hx hb hml hown hg (c_throwing l dC dI H.size m0 a1 a2 a3 a4 a5 a6 a7 a8 a9 a10 a11 (tw) (ab) (be) mp mb ml mz 1 0 0 (by decide) (by decide) (by decide)) (gwV wl_X3_59 wm_X3_throwing we_X3_throwing wi_X3 wc_X3_throwing) rfl rfl (by decide +kernel) ⟨Nat.le_of_ble_eq_true rfl, Nat.le_of_ble_eq_true rfl⟩ (hK.sub [] rfl) hP hD hS hA [0] rfl (by decide) [(true, 0)] rfl (by decide) rfl 0 rfl rfl rfl rfl hl.1 rfl (Nat.le_of_ble_eq_true rfl) dX3_holds_25 ⟨Nat.zero_le _, Nat.zero_le _⟩ (fun H locs hP hD hS => ?_)
    refine zz_topi (z := 1) (congrArg zi (by decide)) ?_
    refine zz_if_eq (tgt := 33) hx hb (by omega) dX3_holds_28 (by decide) (fun c_28 => ?_) (fun c_28 => ?_)
    · exact absurd c_28 (by decide)
    · refine lv_lconst (v := zl (0)) hx hb dX3_holds_31 (by decide) ?_
      have hP9 : va_P (dC, dI) vwCl [(m0, .inr (3, [.int (zi (1)), .int (zi ((mp : Int))), .ref a1, .ref a2, .ref a3, .ref a4, .ref a5, .ref a6, .int (zi ((mb : Int))), .ref a7, .ref a8, .int (zi ((ml : Int))), .ref a9, .ref a10, .int (zi ((mz : Int))), .ref a11, .long (zl (ab)), .long (zl (be))]))] H := hP
      rw [hQQ]
      exact wr_l hx hb hr hlocks rfl hP9 hS dX3_holds_32
  · refine lv_iload_n hx hb dX3_holds_9 rfl (lv_at hl 3 rfl) ?_
    refine lv_iconst (v := zi (0)) hx hb dX3_holds_10 rfl ?_
    refine lv_iconst (v := zi (1)) hx hb dX3_holds_11 rfl ?_
    refine rdS (As := [.int (zi (part)), .int (zi (0)), .int (zi (1))]) (rest := [.ref m0]) (n := 3) hx hb hml hown hg (c_X3_in l (part) (0) (1) (by omega) (by omega) (by omega)) (gwS wl_X3_55 wt_X3_in wi_X3 wc_X3_in) rfl rfl (by decide +kernel) ⟨Nat.le_of_ble_eq_true rfl, Nat.le_of_ble_eq_true rfl⟩ rfl hl.1 rfl (Nat.le_of_ble_eq_true rfl) dX3_holds_12 ⟨Nat.zero_le _, Nat.zero_le _⟩ ?_
    refine zz_zb_ne (tgt := 22) hx hb dX3_holds_15 (by decide) (fun c_15 => ?_) (fun c_15 => ?_)
    · exact False.elim (by omega)
    · refine lv_iconst (v := zi (1)) hx hb dX3_holds_18 rfl ?_
      refine lv_goto (tgt := 23) hx hb dX3_holds_19 (by decide) ?_
      refine lv_iconst (v := zi (0)) hx hb dX3_holds_23 rfl ?_
      refine lv_iconst (v := zi (0)) hx hb dX3_holds_24 rfl ?_
      refine wrV (As := [.int (zi (1)), .int (zi (0)), .int (zi (0))]) (rest := []) (n := 3) (ws' := [(m0, .inr (3, [.int (zi (1)), .int (zi ((mp : Int))), .ref a1, .ref a2, .ref a3, .ref a4, .ref a5, .ref a6, .int (zi ((mb : Int))), .ref a7, .ref a8, .int (zi ((ml : Int))), .ref a9, .ref a10, .int (zi ((mz : Int))), .ref a11, .long (zl (ab)), .long (zl (be))]))]) hx hb hml hown hg (c_throwing l dC dI H.size m0 a1 a2 a3 a4 a5 a6 a7 a8 a9 a10 a11 (tw) (ab) (be) mp mb ml mz 1 0 0 (by decide) (by decide) (by decide)) (gwV wl_X3_59 wm_X3_throwing we_X3_throwing wi_X3 wc_X3_throwing) rfl rfl (by decide +kernel) ⟨Nat.le_of_ble_eq_true rfl, Nat.le_of_ble_eq_true rfl⟩ (hK.sub [] rfl) hP hD hS hA [0] rfl (by decide) [(true, 0)] rfl (by decide) rfl 0 rfl rfl rfl rfl hl.1 rfl (Nat.le_of_ble_eq_true rfl) dX3_holds_25 ⟨Nat.zero_le _, Nat.zero_le _⟩ (fun H locs hP hD hS => ?_)
      refine zz_topi (z := 1) (congrArg zi (by decide)) ?_
      refine zz_if_eq (tgt := 33) hx hb (by omega) dX3_holds_28 (by decide) (fun c_28 => ?_) (fun c_28 => ?_)
      · exact absurd c_28 (by decide)
      · refine lv_lconst (v := zl (0)) hx hb dX3_holds_31 (by decide) ?_
        have hP9 : va_P (dC, dI) vwCl [(m0, .inr (3, [.int (zi (1)), .int (zi ((mp : Int))), .ref a1, .ref a2, .ref a3, .ref a4, .ref a5, .ref a6, .int (zi ((mb : Int))), .ref a7, .ref a8, .int (zi ((ml : Int))), .ref a9, .ref a10, .int (zi ((mz : Int))), .ref a11, .long (zl (ab)), .long (zl (be))]))] H := hP
        rw [hQQ]
        exact wr_l hx hb hr hlocks rfl hP9 hS dX3_holds_32

set_option maxHeartbeats 4000000 in
set_option maxRecDepth 100000 in
theorem k_holds (l : Launch) (dC : Nat → ClassId) (dI : Nat → Nat → Nat) (sz : Nat) (m0 a1 a2 a3 a4 a5 a6 a7 a8 a9 a10 a11 : Nat) (tw ab be : Int) (mp mb ml mz : Nat) (cA : ClassId) (j n : Nat) (sf hh rr hs rs : Nat → Int) (wf : Nat → Int) (to : Int) (part : Int) (hj : j < 6) (hsf : sf j = (n : Int)) (hhs : ∀ k, k < 12 → hh (12 * j + k) = hs k) (hrs : ∀ k, k < 12 → rr (12 * j + k) = rs k) (hn : n ≤ 12) (hH : ∀ j, 0 ≤ hs j ∧ hs j ≤ 400) (hR : ∀ j, 0 ≤ rs j ∧ rs j ≤ 200) (hmp : mp ≤ 6) (hjp : j < mp) (th : Int) (hwf : wf j = th) (hth : 0 ≤ th ∧ th ≤ 50) (h_to : -2147483648 ≤ to ∧ to < 2147483648) (hp9 : part = 0 ∨ part = 1) (hok : m_oks n hs rs th (hs 0 + th) to) : Met l yX3_holds (Cond.code yX3_holds cX3_holds 4 ((Option.some Jvm.ClassFile.FieldType.long)) :: gw) rm_X3_holds (PcW [.ref m0, .int (zi ((j : Int))), .int (zi (to)), .int (zi (part))] (dC, dI) vwCl [(m0, .inr (3, [.int (zi (tw)), .int (zi ((mp : Int))), .ref a1, .ref a2, .ref a3, .ref a4, .ref a5, .ref a6, .int (zi ((mb : Int))), .ref a7, .ref a8, .int (zi ((ml : Int))), .ref a9, .ref a10, .int (zi ((mz : Int))), .ref a11, .long (zl (ab)), .long (zl (be))])), (a1, .inl (cA, 6, .inl (zA (sf)))), (a2, .inl (cA, 72, .inl (zA (hh)))), (a3, .inl (cA, 72, .inl (zA (rr)))), (a5, .inl (cA, 6, .inl (zA (wf))))] [(cA, .int)] sz) (WrQ (some (.long (zl (if part = 0 then (((m_sum hs rs th (hs 0 + th) to (n - 1)).1 : Nat) : Int) else (((m_sum hs rs th (hs 0 + th) to (n - 1)).2 : Nat) : Int))))) (dC, dI) vwCl [(m0, .inr (3, [.int (zi (0)), .int (zi ((mp : Int))), .ref a1, .ref a2, .ref a3, .ref a4, .ref a5, .ref a6, .int (zi ((mb : Int))), .ref a7, .ref a8, .int (zi ((ml : Int))), .ref a9, .ref a10, .int (zi ((mz : Int))), .ref a11, .long (zl ((((m_sum hs rs th (hs 0 + th) to (n - 1)).1 : Nat) : Int))), .long (zl ((((m_sum hs rs th (hs 0 + th) to (n - 1)).2 : Nat) : Int)))])), (a1, .inl (cA, 6, .inl (zA (sf)))), (a2, .inl (cA, 72, .inl (zA (hh)))), (a3, .inl (cA, 72, .inl (zA (rr)))), (a5, .inl (cA, 6, .inl (zA (wf))))] (va_A [(m0, .inr (3, [.int (zi (tw)), .int (zi ((mp : Int))), .ref a1, .ref a2, .ref a3, .ref a4, .ref a5, .ref a6, .int (zi ((mb : Int))), .ref a7, .ref a8, .int (zi ((ml : Int))), .ref a9, .ref a10, .int (zi ((mz : Int))), .ref a11, .long (zl (ab)), .long (zl (be))])), (a1, .inl (cA, 6, .inl (zA (sf)))), (a2, .inl (cA, 72, .inl (zA (hh)))), (a3, .inl (cA, 72, .inl (zA (rr)))), (a5, .inl (cA, 6, .inl (zA (wf))))] sz)) 0 0 (va_A [(m0, .inr (3, [.int (zi (tw)), .int (zi ((mp : Int))), .ref a1, .ref a2, .ref a3, .ref a4, .ref a5, .ref a6, .int (zi ((mb : Int))), .ref a7, .ref a8, .int (zi ((ml : Int))), .ref a9, .ref a10, .int (zi ((mz : Int))), .ref a11, .long (zl (ab)), .long (zl (be))])), (a1, .inl (cA, 6, .inl (zA (sf)))), (a2, .inl (cA, 72, .inl (zA (hh)))), (a3, .inl (cA, 72, .inl (zA (rr)))), (a5, .inl (cA, 6, .inl (zA (wf))))] sz) := by
  refine Met.ofW (cc := cX3_holds) (maxL := 4) (ret := ((Option.some Jvm.ClassFile.FieldType.long))) (by decide) rfl ?_
  intro p e s m args below meth c s₁ B hml hv
  obtain ⟨hargs, hsz, hP, hK, hD0⟩ := hv
  have hx := B.exec
  have hb := B.bytes
  have hr := B.returns
  have hts := atoms_spec (ws := Cond.code yX3_holds cX3_holds 4 ((Option.some Jvm.ClassFile.FieldType.long)) :: gw) B.pre
  have hg : ∀ w ∈ gw, w.before args s = true := fun w h => hts w (List.mem_cons_of_mem _ h)
  have hown : s.vm.findClass RX3 = some m.cls := findClass_of_methodNamed B.named
  have hlocks := B.notSynchronized
  subst hsz
  have hD := hD0.self (sz := s.heap.size)
  generalize hAe : va_A [(m0, .inr (3, [.int (zi (tw)), .int (zi ((mp : Int))), .ref a1, .ref a2, .ref a3, .ref a4, .ref a5, .ref a6, .int (zi ((mb : Int))), .ref a7, .ref a8, .int (zi ((ml : Int))), .ref a9, .ref a10, .int (zi ((mz : Int))), .ref a11, .long (zl (ab)), .long (zl (be))])), (a1, .inl (cA, 6, .inl (zA (sf)))), (a2, .inl (cA, 72, .inl (zA (hh)))), (a3, .inl (cA, 72, .inl (zA (rr)))), (a5, .inl (cA, 6, .inl (zA (wf))))] s.heap.size = A at hD ⊢
  have hA : ∀ q : Nat, s.heap.size ≤ q → A q := fun q h => by rw [← hAe]; exact Or.inr h
  show W p l e rm_X3_holds s m args below meth c s.heap [] 0 0 _ _
  have hl := lv_entry ([.ref m0, .int (zi ((j : Int))), .int (zi (to)), .int (zi (part))]) (n := 4) (Nat.le_of_ble_eq_true rfl)
  rw [show entryFrame m args 4 = entryFrame m ([.ref m0, .int (zi ((j : Int))), .int (zi (to)), .int (zi (part))] : List Value).toArray 4 by rw [hargs], lg_entry_eq]
  generalize (lg_sl ([.ref m0, .int (zi ((j : Int))), .int (zi (to)), .int (zi (part))]) ++ List.replicate (4 - (lg_sl ([.ref m0, .int (zi ((j : Int))), .int (zi (to)), .int (zi (part))])).length) Slot.unset).toArray = ls at hl ⊢
  have hl : lv_has ls 4 [(0, .ref m0), (1, .int (zi ((j : Int)))), (2, .int (zi (to))), (3, .int (zi (part)))] := hl
  obtain ⟨QQ, hQQ⟩ : ∃ Q, Q = MQ below (WrQ (some (.long (zl (if part = 0 then (((m_sum hs rs th (hs 0 + th) to (n - 1)).1 : Nat) : Int) else (((m_sum hs rs th (hs 0 + th) to (n - 1)).2 : Nat) : Int))))) (dC, dI) vwCl [(m0, .inr (3, [.int (zi (0)), .int (zi ((mp : Int))), .ref a1, .ref a2, .ref a3, .ref a4, .ref a5, .ref a6, .int (zi ((mb : Int))), .ref a7, .ref a8, .int (zi ((ml : Int))), .ref a9, .ref a10, .int (zi ((mz : Int))), .ref a11, .long (zl ((((m_sum hs rs th (hs 0 + th) to (n - 1)).1 : Nat) : Int))), .long (zl ((((m_sum hs rs th (hs 0 + th) to (n - 1)).2 : Nat) : Int)))])), (a1, .inl (cA, 6, .inl (zA (sf)))), (a2, .inl (cA, 72, .inl (zA (hh)))), (a3, .inl (cA, 72, .inl (zA (rr)))), (a5, .inl (cA, 6, .inl (zA (wf))))] A) args s 0 0 A := ⟨_, rfl⟩
  rw [← hQQ]
  obtain ⟨H, hHe⟩ : ∃ H : Heap, H = s.heap := ⟨_, rfl⟩
  obtain ⟨locs, hlc⟩ : ∃ x : List Loc, x = [] := ⟨_, rfl⟩
  have hS : va_S A s.heap H locs := by rw [hHe, hlc]; exact va_S.rf
  have hP : va_P (dC, dI) vwCl [(m0, .inr (3, [.int (zi (tw)), .int (zi ((mp : Int))), .ref a1, .ref a2, .ref a3, .ref a4, .ref a5, .ref a6, .int (zi ((mb : Int))), .ref a7, .ref a8, .int (zi ((ml : Int))), .ref a9, .ref a10, .int (zi ((mz : Int))), .ref a11, .long (zl (ab)), .long (zl (be))])), (a1, .inl (cA, 6, .inl (zA (sf)))), (a2, .inl (cA, 72, .inl (zA (hh)))), (a3, .inl (cA, 72, .inl (zA (rr)))), (a5, .inl (cA, 6, .inl (zA (wf))))] H := by rw [hHe]; exact hP
  have hD : va_D A [(m0, .inr (3, [.int (zi (tw)), .int (zi ((mp : Int))), .ref a1, .ref a2, .ref a3, .ref a4, .ref a5, .ref a6, .int (zi ((mb : Int))), .ref a7, .ref a8, .int (zi ((ml : Int))), .ref a9, .ref a10, .int (zi ((mz : Int))), .ref a11, .long (zl (ab)), .long (zl (be))])), (a1, .inl (cA, 6, .inl (zA (sf)))), (a2, .inl (cA, 72, .inl (zA (hh)))), (a3, .inl (cA, 72, .inl (zA (rr)))), (a5, .inl (cA, 6, .inl (zA (wf))))] := hD
  rw [← hHe, ← hlc]
  refine lv_aload_n hx hb dX3_holds_0 rfl (lv_at hl 0 rfl) ?_
  refine lv_aload_n hx hb dX3_holds_1 rfl (lv_at hl 0 rfl) ?_
  refine lv_iload_n hx hb dX3_holds_2 rfl (lv_at hl 1 rfl) ?_
  refine rdV (As := [.int (zi ((j : Int)))]) (rest := [.ref m0]) (n := 1) hx hb hml hown hg (c_X3_isProfile l dC dI m0 a1 a2 a3 a4 a5 a6 a7 a8 a9 a10 a11 (tw) (ab) (be) mp mb ml mz ((j : Int)) hmp (by omega)) (gwV wl_X3_70 wm_X3_isProfile we_X3_isProfile wi_X3 wc_X3_isProfile) rfl rfl (by decide +kernel) ⟨Nat.le_of_ble_eq_true rfl, Nat.le_of_ble_eq_true rfl⟩ (hK.sub [] rfl) (hP.sub [0] rfl) 0 rfl rfl rfl rfl hl.1 rfl (Nat.le_of_ble_eq_true rfl) dX3_holds_3 ⟨Nat.zero_le _, Nat.zero_le _⟩ ?_
  refine zz_topi (z := 1) (congrArg zi (zb_t (decide_eq_true (by omega)))) ?_
  refine zz_if_eq (tgt := 18) hx hb (by omega) dX3_holds_6 (by decide) (fun c_6 => ?_) (fun c_6 => ?_)
  · exact absurd c_6 (by decide)
  · refine lv_iload_n hx hb dX3_holds_9 rfl (lv_at hl 3 rfl) ?_
    refine lv_iconst (v := zi (0)) hx hb dX3_holds_10 rfl ?_
    refine lv_iconst (v := zi (1)) hx hb dX3_holds_11 rfl ?_
    refine rdS (As := [.int (zi (part)), .int (zi (0)), .int (zi (1))]) (rest := [.ref m0]) (n := 3) hx hb hml hown hg (c_X3_in l (part) (0) (1) (by omega) (by omega) (by omega)) (gwS wl_X3_55 wt_X3_in wi_X3 wc_X3_in) rfl rfl (by decide +kernel) ⟨Nat.le_of_ble_eq_true rfl, Nat.le_of_ble_eq_true rfl⟩ rfl hl.1 rfl (Nat.le_of_ble_eq_true rfl) dX3_holds_12 ⟨Nat.zero_le _, Nat.zero_le _⟩ ?_
    refine zz_topi (z := 1) (congrArg zi (zb_t (decide_eq_true (by omega)))) ?_
    refine zz_if_ne (tgt := 22) hx hb (by omega) dX3_holds_15 (by decide) (fun c_15 => ?_) (fun c_15 => ?_)
    · refine lv_iconst (v := zi (0)) hx hb dX3_holds_22 rfl ?_
      refine lv_iconst (v := zi (0)) hx hb dX3_holds_23 rfl ?_
      refine lv_iconst (v := zi (0)) hx hb dX3_holds_24 rfl ?_
      refine wrV (As := [.int (zi (0)), .int (zi (0)), .int (zi (0))]) (rest := []) (n := 3) (ws' := [(m0, .inr (3, [.int (zi (0)), .int (zi ((mp : Int))), .ref a1, .ref a2, .ref a3, .ref a4, .ref a5, .ref a6, .int (zi ((mb : Int))), .ref a7, .ref a8, .int (zi ((ml : Int))), .ref a9, .ref a10, .int (zi ((mz : Int))), .ref a11, .long (zl (ab)), .long (zl (be))])), (a1, .inl (cA, 6, .inl (zA (sf)))), (a2, .inl (cA, 72, .inl (zA (hh)))), (a3, .inl (cA, 72, .inl (zA (rr)))), (a5, .inl (cA, 6, .inl (zA (wf))))]) hx hb hml hown hg (c_throwing l dC dI H.size m0 a1 a2 a3 a4 a5 a6 a7 a8 a9 a10 a11 (tw) (ab) (be) mp mb ml mz 0 0 0 (by decide) (by decide) (by decide)) (gwV wl_X3_59 wm_X3_throwing we_X3_throwing wi_X3 wc_X3_throwing) rfl rfl (by decide +kernel) ⟨Nat.le_of_ble_eq_true rfl, Nat.le_of_ble_eq_true rfl⟩ (hK.sub [] rfl) hP hD hS hA [0] rfl (by decide) [(true, 0), (false, 1), (false, 2), (false, 3), (false, 4)] rfl (by decide) rfl 0 rfl rfl rfl rfl hl.1 rfl (Nat.le_of_ble_eq_true rfl) dX3_holds_25 ⟨Nat.zero_le _, Nat.zero_le _⟩ (fun H locs hP hD hS => ?_)
      refine zz_topi (z := 0) (congrArg zi (by decide)) ?_
      refine zz_if_eq (tgt := 33) hx hb (by omega) dX3_holds_28 (by decide) (fun c_28 => ?_) (fun c_28 => ?_)
      · refine lv_aload_n hx hb dX3_holds_33 rfl (lv_at hl 0 rfl) ?_
        refine lv_iload_n hx hb dX3_holds_34 rfl (lv_at hl 1 rfl) ?_
        refine lv_iload_n hx hb dX3_holds_35 rfl (lv_at hl 2 rfl) ?_
        refine wrV (As := [.int (zi ((j : Int))), .int (zi (to))]) (rest := []) (n := 2) (ws' := [(m0, .inr (3, [.int (zi (0)), .int (zi ((mp : Int))), .ref a1, .ref a2, .ref a3, .ref a4, .ref a5, .ref a6, .int (zi ((mb : Int))), .ref a7, .ref a8, .int (zi ((ml : Int))), .ref a9, .ref a10, .int (zi ((mz : Int))), .ref a11, .long (zl ((((m_sum hs rs th (hs 0 + th) (to) (n - 1)).1 : Nat) : Int))), .long (zl ((((m_sum hs rs th (hs 0 + th) (to) (n - 1)).2 : Nat) : Int)))])), (a1, .inl (cA, 6, .inl (zA (sf)))), (a2, .inl (cA, 72, .inl (zA (hh)))), (a3, .inl (cA, 72, .inl (zA (rr)))), (a5, .inl (cA, 6, .inl (zA (wf))))]) hx hb hml hown hg (c_X3_sumHeld l dC dI H.size m0 a1 a2 a3 a4 a5 a6 a7 a8 a9 a10 a11 (0) (ab) (be) mp mb ml mz cA j n sf hh rr hs rs wf (to) hj hsf hhs hrs hn hH hR th hwf hth (by omega) hok) (gwV wl_X3_111 wm_X3_sumHeld we_X3_sumHeld wi_X3 wc_X3_sumHeld) rfl rfl (by decide +kernel) ⟨Nat.le_of_ble_eq_true rfl, Nat.le_of_ble_eq_true rfl⟩ (hK.sub [0] rfl) hP hD hS hA [0, 1, 2, 3, 4] rfl (by decide) [(true, 0), (true, 1), (true, 2), (true, 3), (true, 4)] rfl (by decide) rfl 0 rfl rfl rfl rfl hl.1 rfl (Nat.le_of_ble_eq_true rfl) dX3_holds_36 ⟨Nat.zero_le _, Nat.zero_le _⟩ (fun H locs hP hD hS => ?_)
        refine lv_iload_n hx hb dX3_holds_39 rfl (lv_at hl 3 rfl) ?_
        refine zz_if_ne (tgt := 50) hx hb (by omega) dX3_holds_40 (by decide) (fun c_40 => ?_) (fun c_40 => ?_)
        · refine lv_aload_n hx hb dX3_holds_50 rfl (lv_at hl 0 rfl) ?_
          refine va_get (D := (dC, dI)) (ci := 3) (v := .long (zl ((((m_sum hs rs th (hs 0 + th) (to) (n - 1)).2 : Nat) : Int)))) (C := RX3) (T := TX3) (N := 18) hx hb hg inX3 hown hK hP 0 rfl rfl 17 (by decide) (hg _ wl_X3_44) (fun _ h9 => h9) rfl dX3_holds_51 ?_
          have hP9 : va_P (dC, dI) vwCl [(m0, .inr (3, [.int (zi (0)), .int (zi ((mp : Int))), .ref a1, .ref a2, .ref a3, .ref a4, .ref a5, .ref a6, .int (zi ((mb : Int))), .ref a7, .ref a8, .int (zi ((ml : Int))), .ref a9, .ref a10, .int (zi ((mz : Int))), .ref a11, .long (zl ((((m_sum hs rs th (hs 0 + th) to (n - 1)).1 : Nat) : Int))), .long (zl ((((m_sum hs rs th (hs 0 + th) to (n - 1)).2 : Nat) : Int)))])), (a1, .inl (cA, 6, .inl (zA (sf)))), (a2, .inl (cA, 72, .inl (zA (hh)))), (a3, .inl (cA, 72, .inl (zA (rr)))), (a5, .inl (cA, 6, .inl (zA (wf))))] H := hP
          rw [hQQ]
          exact wr_l hx hb hr hlocks (if_neg (by omega)).symm hP9 hS dX3_holds_54
        · refine lv_aload_n hx hb dX3_holds_43 rfl (lv_at hl 0 rfl) ?_
          refine va_get (D := (dC, dI)) (ci := 3) (v := .long (zl ((((m_sum hs rs th (hs 0 + th) (to) (n - 1)).1 : Nat) : Int)))) (C := RX3) (T := TX3) (N := 18) hx hb hg inX3 hown hK hP 0 rfl rfl 16 (by decide) (hg _ wl_X3_84) (fun _ h9 => h9) rfl dX3_holds_44 ?_
          refine lv_goto (tgt := 54) hx hb dX3_holds_47 (by decide) ?_
          have hP9 : va_P (dC, dI) vwCl [(m0, .inr (3, [.int (zi (0)), .int (zi ((mp : Int))), .ref a1, .ref a2, .ref a3, .ref a4, .ref a5, .ref a6, .int (zi ((mb : Int))), .ref a7, .ref a8, .int (zi ((ml : Int))), .ref a9, .ref a10, .int (zi ((mz : Int))), .ref a11, .long (zl ((((m_sum hs rs th (hs 0 + th) to (n - 1)).1 : Nat) : Int))), .long (zl ((((m_sum hs rs th (hs 0 + th) to (n - 1)).2 : Nat) : Int)))])), (a1, .inl (cA, 6, .inl (zA (sf)))), (a2, .inl (cA, 72, .inl (zA (hh)))), (a3, .inl (cA, 72, .inl (zA (rr)))), (a5, .inl (cA, 6, .inl (zA (wf))))] H := hP
          rw [hQQ]
          exact wr_l hx hb hr hlocks (if_pos (by omega)).symm hP9 hS dX3_holds_54
      · exact absurd c_28 (by decide)
    · exact absurd c_15 (by decide)
