theorem zupd_self {f : Nat → Int} {k : Nat} {v : Int} (h : f k = v) : zupd f k v = f := by
  funext j
  unfold zupd
  split
  · rename_i e; rw [e, h]
  · rfl
theorem zupd_zupd {f : Nat → Int} {k : Nat} {v w : Int} : zupd (zupd f k v) k w = zupd f k w := by
  funext j
  unfold zupd
  split <;> rfl
def m_ct (hs : Nat → Int) (h : Int) : Nat → Nat
  | 0 => 0
  | k + 1 => if h < hs k then m_ct hs h k else k + 1
theorem m_ct_le (hs : Nat → Int) (h : Int) : ∀ n, m_ct hs h n ≤ n := by
  intro n
  induction n with
  | zero => exact Nat.le_refl _
  | succ k ih => unfold m_ct; split <;> omega
theorem m_ct_pos {hs : Nat → Int} {h : Int} (h0 : hs 0 < h) : ∀ n, 0 < n → 0 < m_ct hs h n := by
  intro n
  induction n with
  | zero => omega
  | succ k ih =>
    intro _
    unfold m_ct
    split
    · by_cases e : k = 0
      · subst e; omega
      · exact ih (by omega)
    · omega
theorem m_rad_bd {n : Nat} {hs rs : Nat → Int} {h : Int} (hR : ∀ j, 0 ≤ rs j ∧ rs j ≤ 200) : ∀ f k b, (-1 ≤ b ∧ b ≤ 200) → -1 ≤ m_rad n hs rs h f k b ∧ m_rad n hs rs h f k b ≤ 200 := by
  intro f
  induction f with
  | zero => intro k b hb; exact hb
  | succ f ih => intro k b hb; exact ih (k + 1) _ (m_rst_bd hR hb)
abbrev rm_X3_wall : Room := { frames := 2, cells := 0, slots := 0, locals := 43 }
set_option maxHeartbeats 4000000 in
set_option maxRecDepth 100000 in
theorem e_wall_1 (l : Launch) (dC : Nat → ClassId) (dI : Nat → Nat → Nat) (sz : Nat) (m0 a1 a2 a3 a4 a5 a6 a7 a8 a9 a10 a11 : Nat) (tw ab be : Int) (mp mb ml mz : Nat) (q v : Int) (hmp : mp ≤ 6) (h_q : -2147483648 ≤ q ∧ q < 2147483648) (h_v : -2147483648 ≤ v ∧ v < 2147483648) (hbad : ¬ (0 ≤ q ∧ q < (mp : Int))) : Met l yX3_wall (Cond.code yX3_wall cX3_wall 4 ((Option.some Jvm.ClassFile.FieldType.int)) :: gw) rm_X3_wall (PcW [.ref m0, .int (zi (q)), .int (zi (v))] (dC, dI) vwCl [(m0, .inr (3, [.int (zi (tw)), .int (zi ((mp : Int))), .ref a1, .ref a2, .ref a3, .ref a4, .ref a5, .ref a6, .int (zi ((mb : Int))), .ref a7, .ref a8, .int (zi ((ml : Int))), .ref a9, .ref a10, .int (zi ((mz : Int))), .ref a11, .long (zl (ab)), .long (zl (be))]))] [] sz) (WrQ (some (.int (zi 0))) (dC, dI) vwCl [(m0, .inr (3, [.int (zi (1)), .int (zi ((mp : Int))), .ref a1, .ref a2, .ref a3, .ref a4, .ref a5, .ref a6, .int (zi ((mb : Int))), .ref a7, .ref a8, .int (zi ((ml : Int))), .ref a9, .ref a10, .int (zi ((mz : Int))), .ref a11, .long (zl (ab)), .long (zl (be))]))] (va_A [(m0, .inr (3, [.int (zi (tw)), .int (zi ((mp : Int))), .ref a1, .ref a2, .ref a3, .ref a4, .ref a5, .ref a6, .int (zi ((mb : Int))), .ref a7, .ref a8, .int (zi ((ml : Int))), .ref a9, .ref a10, .int (zi ((mz : Int))), .ref a11, .long (zl (ab)), .long (zl (be))]))] sz)) 0 0 (va_A [(m0, .inr (3, [.int (zi (tw)), .int (zi ((mp : Int))), .ref a1, .ref a2, .ref a3, .ref a4, .ref a5, .ref a6, .int (zi ((mb : Int))), .ref a7, .ref a8, .int (zi ((ml : Int))), .ref a9, .ref a10, .int (zi ((mz : Int))), .ref a11, .long (zl (ab)), .long (zl (be))]))] sz) := by
  refine Met.ofW (cc := cX3_wall) (maxL := 4) (ret := ((Option.some Jvm.ClassFile.FieldType.int))) (by decide) rfl ?_
  intro p e s m args below meth c s₁ B hml hv
  obtain ⟨hargs, hsz, hP, hK, hD0⟩ := hv
  have hx := B.exec
  have hb := B.bytes
  have hr := B.returns
  have hts := atoms_spec (ws := Cond.code yX3_wall cX3_wall 4 ((Option.some Jvm.ClassFile.FieldType.int)) :: gw) B.pre
  have hg : ∀ w ∈ gw, w.before args s = true := fun w h => hts w (List.mem_cons_of_mem _ h)
  have hown : s.vm.findClass RX3 = some m.cls := findClass_of_methodNamed B.named
  have hlocks := B.notSynchronized
  subst hsz
  have hD := hD0.self (sz := s.heap.size)
  generalize hAe : va_A [(m0, .inr (3, [.int (zi (tw)), .int (zi ((mp : Int))), .ref a1, .ref a2, .ref a3, .ref a4, .ref a5, .ref a6, .int (zi ((mb : Int))), .ref a7, .ref a8, .int (zi ((ml : Int))), .ref a9, .ref a10, .int (zi ((mz : Int))), .ref a11, .long (zl (ab)), .long (zl (be))]))] s.heap.size = A at hD ⊢
  have hA : ∀ q : Nat, s.heap.size ≤ q → A q := fun q h => by rw [← hAe]; exact Or.inr h
  show W p l e rm_X3_wall s m args below meth c s.heap [] 0 0 _ _
  have hl := lv_entry ([.ref m0, .int (zi (q)), .int (zi (v))]) (n := 4) (Nat.le_of_ble_eq_true rfl)
  rw [show entryFrame m args 4 = entryFrame m ([.ref m0, .int (zi (q)), .int (zi (v))] : List Value).toArray 4 by rw [hargs], lg_entry_eq]
  generalize (lg_sl ([.ref m0, .int (zi (q)), .int (zi (v))]) ++ List.replicate (4 - (lg_sl ([.ref m0, .int (zi (q)), .int (zi (v))])).length) Slot.unset).toArray = ls at hl ⊢
  have hl : lv_has ls 4 [(0, .ref m0), (1, .int (zi (q))), (2, .int (zi (v)))] := hl
  obtain ⟨QQ, hQQ⟩ : ∃ Q, Q = MQ below (WrQ (some (.int (zi 0))) (dC, dI) vwCl [(m0, .inr (3, [.int (zi (1)), .int (zi ((mp : Int))), .ref a1, .ref a2, .ref a3, .ref a4, .ref a5, .ref a6, .int (zi ((mb : Int))), .ref a7, .ref a8, .int (zi ((ml : Int))), .ref a9, .ref a10, .int (zi ((mz : Int))), .ref a11, .long (zl (ab)), .long (zl (be))]))] A) args s 0 0 A := ⟨_, rfl⟩
  rw [← hQQ]
  obtain ⟨H, hHe⟩ : ∃ H : Heap, H = s.heap := ⟨_, rfl⟩
  obtain ⟨locs, hlc⟩ : ∃ x : List Loc, x = [] := ⟨_, rfl⟩
  have hS : va_S A s.heap H locs := by rw [hHe, hlc]; exact va_S.rf
  have hP : va_P (dC, dI) vwCl [(m0, .inr (3, [.int (zi (tw)), .int (zi ((mp : Int))), .ref a1, .ref a2, .ref a3, .ref a4, .ref a5, .ref a6, .int (zi ((mb : Int))), .ref a7, .ref a8, .int (zi ((ml : Int))), .ref a9, .ref a10, .int (zi ((mz : Int))), .ref a11, .long (zl (ab)), .long (zl (be))]))] H := by rw [hHe]; exact hP
  have hD : va_D A [(m0, .inr (3, [.int (zi (tw)), .int (zi ((mp : Int))), .ref a1, .ref a2, .ref a3, .ref a4, .ref a5, .ref a6, .int (zi ((mb : Int))), .ref a7, .ref a8, .int (zi ((ml : Int))), .ref a9, .ref a10, .int (zi ((mz : Int))), .ref a11, .long (zl (ab)), .long (zl (be))]))] := hD
  rw [← hHe, ← hlc]
  refine lv_aload_n hx hb dX3_wall_0 rfl (lv_at hl 0 rfl) ?_
  refine lv_aload_n hx hb dX3_wall_1 rfl (lv_at hl 0 rfl) ?_
  refine lv_iload_n hx hb dX3_wall_2 rfl (lv_at hl 1 rfl) ?_
  refine rdV (As := [.int (zi (q))]) (rest := [.ref m0]) (n := 1) hx hb hml hown hg (c_X3_isProfile l dC dI m0 a1 a2 a3 a4 a5 a6 a7 a8 a9 a10 a11 (tw) (ab) (be) mp mb ml mz (q) hmp (by omega)) (gwV wl_X3_70 wm_X3_isProfile we_X3_isProfile wi_X3 wc_X3_isProfile) rfl rfl (by decide +kernel) ⟨Nat.le_of_ble_eq_true rfl, Nat.le_of_ble_eq_true rfl⟩ (hK.sub [] rfl) (hP.sub [0] rfl) 0 rfl rfl rfl rfl hl.1 rfl (Nat.le_of_ble_eq_true rfl) dX3_wall_3 ⟨Nat.zero_le _, Nat.zero_le _⟩ ?_
  refine zz_topi (z := 0) (congrArg zi (zb_f (decide_eq_false (by omega)))) ?_
  refine zz_if_ne (tgt := 13) hx hb (by omega) dX3_wall_6 (by decide) (fun c_6 => ?_) (fun c_6 => ?_)
  · exact absurd c_6 (by decide)
  · refine lv_iconst (v := zi (1)) hx hb dX3_wall_9 rfl ?_
    refine lv_goto (tgt := 14) hx hb dX3_wall_10 (by decide) ?_
    refine lv_iload_n hx hb dX3_wall_14 rfl (lv_at hl 2 rfl) ?_
    refine lv_iconst (v := zi (0)) hx hb dX3_wall_15 rfl ?_
    refine lv_bipush (v := zi (50)) hx hb dX3_wall_16 (by decide) ?_
    refine rdS (As := [.int (zi (v)), .int (zi (0)), .int (zi (50))]) (rest := [.int (zi (1)), .ref m0]) (n := 3) hx hb hml hown hg (c_X3_in l (v) (0) (50) (by omega) (by omega) (by omega)) (gwS wl_X3_55 wt_X3_in wi_X3 wc_X3_in) rfl rfl (by decide +kernel) ⟨Nat.le_of_ble_eq_true rfl, Nat.le_of_ble_eq_true rfl⟩ rfl hl.1 rfl (Nat.le_of_ble_eq_true rfl) dX3_wall_18 ⟨Nat.zero_le _, Nat.zero_le _⟩ ?_
    refine zz_zb_ne (tgt := 28) hx hb dX3_wall_21 (by decide) (fun c_21 => ?_) (fun c_21 => ?_)
    · refine lv_iconst (v := zi (0)) hx hb dX3_wall_28 rfl ?_
      refine lv_iconst (v := zi (0)) hx hb dX3_wall_29 rfl ?_
      refine wrV (As := [.int (zi (1)), .int (zi (0)), .int (zi (0))]) (rest := []) (n := 3) (ws' := [(m0, .inr (3, [.int (zi (1)), .int (zi ((mp : Int))), .ref a1, .ref a2, .ref a3, .ref a4, .ref a5, .ref a6, .int (zi ((mb : Int))), .ref a7, .ref a8, .int (zi ((ml : Int))), .ref a9, .ref a10, .int (zi ((mz : Int))), .ref a11, .long (zl (ab)), .long (zl (be))]))]) hx hb hml hown hg (c_throwing l dC dI H.size m0 a1 a2 a3 a4 a5 a6 a7 a8 a9 a10 a11 (tw) (ab) (be) mp mb ml mz 1 0 0 (by decide) (by decide) (by decide)) (gwV wl_X3_59 wm_X3_throwing we_X3_throwing wi_X3 wc_X3_throwing) rfl rfl (by decide +kernel) ⟨Nat.le_of_ble_eq_true rfl, Nat.le_of_ble_eq_true rfl⟩ (hK.sub [] rfl) hP hD hS hA [0] rfl (by decide) [(true, 0)] rfl (by decide) rfl 0 rfl rfl rfl rfl hl.1 rfl (Nat.le_of_ble_eq_true rfl) dX3_wall_30 ⟨Nat.zero_le _, Nat.zero_le _⟩ (fun H locs hP hD hS => ?_)
      refine zz_topi (z := 1) (congrArg zi (by decide)) ?_
      refine zz_if_eq (tgt := 38) hx hb (by omega) dX3_wall_33 (by decide) (fun c_33 => ?_) (fun c_33 => ?_)
      · exact absurd c_33 (by decide)
      · refine lv_iconst (v := zi (0)) hx hb dX3_wall_36 rfl ?_
        have hP9 : va_P (dC, dI) vwCl [(m0, .inr (3, [.int (zi (1)), .int (zi ((mp : Int))), .ref a1, .ref a2, .ref a3, .ref a4, .ref a5, .ref a6, .int (zi ((mb : Int))), .ref a7, .ref a8, .int (zi ((ml : Int))), .ref a9, .ref a10, .int (zi ((mz : Int))), .ref a11, .long (zl (ab)), .long (zl (be))]))] H := hP
        rw [hQQ]
        exact wr_i hx hb hr hlocks rfl hP9 hS dX3_wall_37
    · refine lv_iconst (v := zi (1)) hx hb dX3_wall_24 rfl ?_
      refine lv_goto (tgt := 29) hx hb dX3_wall_25 (by decide) ?_
      refine lv_iconst (v := zi (0)) hx hb dX3_wall_29 rfl ?_
      refine wrV (As := [.int (zi (1)), .int (zi (1)), .int (zi (0))]) (rest := []) (n := 3) (ws' := [(m0, .inr (3, [.int (zi (1)), .int (zi ((mp : Int))), .ref a1, .ref a2, .ref a3, .ref a4, .ref a5, .ref a6, .int (zi ((mb : Int))), .ref a7, .ref a8, .int (zi ((ml : Int))), .ref a9, .ref a10, .int (zi ((mz : Int))), .ref a11, .long (zl (ab)), .long (zl (be))]))]) hx hb hml hown hg (c_throwing l dC dI H.size m0 a1 a2 a3 a4 a5 a6 a7 a8 a9 a10 a11 (tw) (ab) (be) mp mb ml mz 1 1 0 (by decide) (by decide) (by decide)) (gwV wl_X3_59 wm_X3_throwing we_X3_throwing wi_X3 wc_X3_throwing) rfl rfl (by decide +kernel) ⟨Nat.le_of_ble_eq_true rfl, Nat.le_of_ble_eq_true rfl⟩ (hK.sub [] rfl) hP hD hS hA [0] rfl (by decide) [(true, 0)] rfl (by decide) rfl 0 rfl rfl rfl rfl hl.1 rfl (Nat.le_of_ble_eq_true rfl) dX3_wall_30 ⟨Nat.zero_le _, Nat.zero_le _⟩ (fun H locs hP hD hS => ?_)
      refine zz_topi (z := 1) (congrArg zi (by decide)) ?_
      refine zz_if_eq (tgt := 38) hx hb (by omega) dX3_wall_33 (by decide) (fun c_33 => ?_) (fun c_33 => ?_)
      · exact absurd c_33 (by decide)
      · refine lv_iconst (v := zi (0)) hx hb dX3_wall_36 rfl ?_
        have hP9 : va_P (dC, dI) vwCl [(m0, .inr (3, [.int (zi (1)), .int (zi ((mp : Int))), .ref a1, .ref a2, .ref a3, .ref a4, .ref a5, .ref a6, .int (zi ((mb : Int))), .ref a7, .ref a8, .int (zi ((ml : Int))), .ref a9, .ref a10, .int (zi ((mz : Int))), .ref a11, .long (zl (ab)), .long (zl (be))]))] H := hP
        rw [hQQ]
        exact wr_i hx hb hr hlocks rfl hP9 hS dX3_wall_37

set_option maxHeartbeats 4000000 in
set_option maxRecDepth 100000 in
theorem e_wall_2 (l : Launch) (dC : Nat → ClassId) (dI : Nat → Nat → Nat) (sz : Nat) (m0 a1 a2 a3 a4 a5 a6 a7 a8 a9 a10 a11 : Nat) (tw ab be : Int) (mp mb ml mz : Nat) (q v : Int) (hmp : mp ≤ 6) (h_q : -2147483648 ≤ q ∧ q < 2147483648) (h_v : -2147483648 ≤ v ∧ v < 2147483648) (hok : 0 ≤ q ∧ q < (mp : Int)) (hbad : ¬ (0 ≤ v ∧ v ≤ 50)) : Met l yX3_wall (Cond.code yX3_wall cX3_wall 4 ((Option.some Jvm.ClassFile.FieldType.int)) :: gw) rm_X3_wall (PcW [.ref m0, .int (zi (q)), .int (zi (v))] (dC, dI) vwCl [(m0, .inr (3, [.int (zi (tw)), .int (zi ((mp : Int))), .ref a1, .ref a2, .ref a3, .ref a4, .ref a5, .ref a6, .int (zi ((mb : Int))), .ref a7, .ref a8, .int (zi ((ml : Int))), .ref a9, .ref a10, .int (zi ((mz : Int))), .ref a11, .long (zl (ab)), .long (zl (be))]))] [] sz) (WrQ (some (.int (zi 0))) (dC, dI) vwCl [(m0, .inr (3, [.int (zi (2)), .int (zi ((mp : Int))), .ref a1, .ref a2, .ref a3, .ref a4, .ref a5, .ref a6, .int (zi ((mb : Int))), .ref a7, .ref a8, .int (zi ((ml : Int))), .ref a9, .ref a10, .int (zi ((mz : Int))), .ref a11, .long (zl (ab)), .long (zl (be))]))] (va_A [(m0, .inr (3, [.int (zi (tw)), .int (zi ((mp : Int))), .ref a1, .ref a2, .ref a3, .ref a4, .ref a5, .ref a6, .int (zi ((mb : Int))), .ref a7, .ref a8, .int (zi ((ml : Int))), .ref a9, .ref a10, .int (zi ((mz : Int))), .ref a11, .long (zl (ab)), .long (zl (be))]))] sz)) 0 0 (va_A [(m0, .inr (3, [.int (zi (tw)), .int (zi ((mp : Int))), .ref a1, .ref a2, .ref a3, .ref a4, .ref a5, .ref a6, .int (zi ((mb : Int))), .ref a7, .ref a8, .int (zi ((ml : Int))), .ref a9, .ref a10, .int (zi ((mz : Int))), .ref a11, .long (zl (ab)), .long (zl (be))]))] sz) := by
  refine Met.ofW (cc := cX3_wall) (maxL := 4) (ret := ((Option.some Jvm.ClassFile.FieldType.int))) (by decide) rfl ?_
  intro p e s m args below meth c s₁ B hml hv
  obtain ⟨hargs, hsz, hP, hK, hD0⟩ := hv
  have hx := B.exec
  have hb := B.bytes
  have hr := B.returns
  have hts := atoms_spec (ws := Cond.code yX3_wall cX3_wall 4 ((Option.some Jvm.ClassFile.FieldType.int)) :: gw) B.pre
  have hg : ∀ w ∈ gw, w.before args s = true := fun w h => hts w (List.mem_cons_of_mem _ h)
  have hown : s.vm.findClass RX3 = some m.cls := findClass_of_methodNamed B.named
  have hlocks := B.notSynchronized
  subst hsz
  have hD := hD0.self (sz := s.heap.size)
  generalize hAe : va_A [(m0, .inr (3, [.int (zi (tw)), .int (zi ((mp : Int))), .ref a1, .ref a2, .ref a3, .ref a4, .ref a5, .ref a6, .int (zi ((mb : Int))), .ref a7, .ref a8, .int (zi ((ml : Int))), .ref a9, .ref a10, .int (zi ((mz : Int))), .ref a11, .long (zl (ab)), .long (zl (be))]))] s.heap.size = A at hD ⊢
  have hA : ∀ q : Nat, s.heap.size ≤ q → A q := fun q h => by rw [← hAe]; exact Or.inr h
  show W p l e rm_X3_wall s m args below meth c s.heap [] 0 0 _ _
  have hl := lv_entry ([.ref m0, .int (zi (q)), .int (zi (v))]) (n := 4) (Nat.le_of_ble_eq_true rfl)
  rw [show entryFrame m args 4 = entryFrame m ([.ref m0, .int (zi (q)), .int (zi (v))] : List Value).toArray 4 by rw [hargs], lg_entry_eq]
  generalize (lg_sl ([.ref m0, .int (zi (q)), .int (zi (v))]) ++ List.replicate (4 - (lg_sl ([.ref m0, .int (zi (q)), .int (zi (v))])).length) Slot.unset).toArray = ls at hl ⊢
  have hl : lv_has ls 4 [(0, .ref m0), (1, .int (zi (q))), (2, .int (zi (v)))] := hl
  obtain ⟨QQ, hQQ⟩ : ∃ Q, Q = MQ below (WrQ (some (.int (zi 0))) (dC, dI) vwCl [(m0, .inr (3, [.int (zi (2)), .int (zi ((mp : Int))), .ref a1, .ref a2, .ref a3, .ref a4, .ref a5, .ref a6, .int (zi ((mb : Int))), .ref a7, .ref a8, .int (zi ((ml : Int))), .ref a9, .ref a10, .int (zi ((mz : Int))), .ref a11, .long (zl (ab)), .long (zl (be))]))] A) args s 0 0 A := ⟨_, rfl⟩
  rw [← hQQ]
  obtain ⟨H, hHe⟩ : ∃ H : Heap, H = s.heap := ⟨_, rfl⟩
  obtain ⟨locs, hlc⟩ : ∃ x : List Loc, x = [] := ⟨_, rfl⟩
  have hS : va_S A s.heap H locs := by rw [hHe, hlc]; exact va_S.rf
  have hP : va_P (dC, dI) vwCl [(m0, .inr (3, [.int (zi (tw)), .int (zi ((mp : Int))), .ref a1, .ref a2, .ref a3, .ref a4, .ref a5, .ref a6, .int (zi ((mb : Int))), .ref a7, .ref a8, .int (zi ((ml : Int))), .ref a9, .ref a10, .int (zi ((mz : Int))), .ref a11, .long (zl (ab)), .long (zl (be))]))] H := by rw [hHe]; exact hP
  have hD : va_D A [(m0, .inr (3, [.int (zi (tw)), .int (zi ((mp : Int))), .ref a1, .ref a2, .ref a3, .ref a4, .ref a5, .ref a6, .int (zi ((mb : Int))), .ref a7, .ref a8, .int (zi ((ml : Int))), .ref a9, .ref a10, .int (zi ((mz : Int))), .ref a11, .long (zl (ab)), .long (zl (be))]))] := hD
  rw [← hHe, ← hlc]
  refine lv_aload_n hx hb dX3_wall_0 rfl (lv_at hl 0 rfl) ?_
  refine lv_aload_n hx hb dX3_wall_1 rfl (lv_at hl 0 rfl) ?_
  refine lv_iload_n hx hb dX3_wall_2 rfl (lv_at hl 1 rfl) ?_
  refine rdV (As := [.int (zi (q))]) (rest := [.ref m0]) (n := 1) hx hb hml hown hg (c_X3_isProfile l dC dI m0 a1 a2 a3 a4 a5 a6 a7 a8 a9 a10 a11 (tw) (ab) (be) mp mb ml mz (q) hmp (by omega)) (gwV wl_X3_70 wm_X3_isProfile we_X3_isProfile wi_X3 wc_X3_isProfile) rfl rfl (by decide +kernel) ⟨Nat.le_of_ble_eq_true rfl, Nat.le_of_ble_eq_true rfl⟩ (hK.sub [] rfl) (hP.sub [0] rfl) 0 rfl rfl rfl rfl hl.1 rfl (Nat.le_of_ble_eq_true rfl) dX3_wall_3 ⟨Nat.zero_le _, Nat.zero_le _⟩ ?_
  refine zz_topi (z := 1) (congrArg zi (zb_t (decide_eq_true (by omega)))) ?_
  refine zz_if_ne (tgt := 13) hx hb (by omega) dX3_wall_6 (by decide) (fun c_6 => ?_) (fun c_6 => ?_)
  · refine lv_iconst (v := zi (0)) hx hb dX3_wall_13 rfl ?_
    refine lv_iload_n hx hb dX3_wall_14 rfl (lv_at hl 2 rfl) ?_
    refine lv_iconst (v := zi (0)) hx hb dX3_wall_15 rfl ?_
    refine lv_bipush (v := zi (50)) hx hb dX3_wall_16 (by decide) ?_
    refine rdS (As := [.int (zi (v)), .int (zi (0)), .int (zi (50))]) (rest := [.int (zi (0)), .ref m0]) (n := 3) hx hb hml hown hg (c_X3_in l (v) (0) (50) (by omega) (by omega) (by omega)) (gwS wl_X3_55 wt_X3_in wi_X3 wc_X3_in) rfl rfl (by decide +kernel) ⟨Nat.le_of_ble_eq_true rfl, Nat.le_of_ble_eq_true rfl⟩ rfl hl.1 rfl (Nat.le_of_ble_eq_true rfl) dX3_wall_18 ⟨Nat.zero_le _, Nat.zero_le _⟩ ?_
    refine zz_topi (z := 0) (congrArg zi (zb_f (decide_eq_false (by omega)))) ?_
    refine zz_if_ne (tgt := 28) hx hb (by omega) dX3_wall_21 (by decide) (fun c_21 => ?_) (fun c_21 => ?_)
    · exact absurd c_21 (by decide)
    · refine lv_iconst (v := zi (1)) hx hb dX3_wall_24 rfl ?_
      refine lv_goto (tgt := 29) hx hb dX3_wall_25 (by decide) ?_
      refine lv_iconst (v := zi (0)) hx hb dX3_wall_29 rfl ?_
      refine wrV (As := [.int (zi (0)), .int (zi (1)), .int (zi (0))]) (rest := []) (n := 3) (ws' := [(m0, .inr (3, [.int (zi (2)), .int (zi ((mp : Int))), .ref a1, .ref a2, .ref a3, .ref a4, .ref a5, .ref a6, .int (zi ((mb : Int))), .ref a7, .ref a8, .int (zi ((ml : Int))), .ref a9, .ref a10, .int (zi ((mz : Int))), .ref a11, .long (zl (ab)), .long (zl (be))]))]) hx hb hml hown hg (c_throwing l dC dI H.size m0 a1 a2 a3 a4 a5 a6 a7 a8 a9 a10 a11 (tw) (ab) (be) mp mb ml mz 0 1 0 (by decide) (by decide) (by decide)) (gwV wl_X3_59 wm_X3_throwing we_X3_throwing wi_X3 wc_X3_throwing) rfl rfl (by decide +kernel) ⟨Nat.le_of_ble_eq_true rfl, Nat.le_of_ble_eq_true rfl⟩ (hK.sub [] rfl) hP hD hS hA [0] rfl (by decide) [(true, 0)] rfl (by decide) rfl 0 rfl rfl rfl rfl hl.1 rfl (Nat.le_of_ble_eq_true rfl) dX3_wall_30 ⟨Nat.zero_le _, Nat.zero_le _⟩ (fun H locs hP hD hS => ?_)
      refine zz_topi (z := 1) (congrArg zi (by decide)) ?_
      refine zz_if_eq (tgt := 38) hx hb (by omega) dX3_wall_33 (by decide) (fun c_33 => ?_) (fun c_33 => ?_)
      · exact absurd c_33 (by decide)
      · refine lv_iconst (v := zi (0)) hx hb dX3_wall_36 rfl ?_
        have hP9 : va_P (dC, dI) vwCl [(m0, .inr (3, [.int (zi (2)), .int (zi ((mp : Int))), .ref a1, .ref a2, .ref a3, .ref a4, .ref a5, .ref a6, .int (zi ((mb : Int))), .ref a7, .ref a8, .int (zi ((ml : Int))), .ref a9, .ref a10, .int (zi ((mz : Int))), .ref a11, .long (zl (ab)), .long (zl (be))]))] H := hP
        rw [hQQ]
        exact wr_i hx hb hr hlocks rfl hP9 hS dX3_wall_37
  · exact absurd c_6 (by decide)

set_option maxHeartbeats 4000000 in
set_option maxRecDepth 100000 in
theorem k_wall (l : Launch) (dC : Nat → ClassId) (dI : Nat → Nat → Nat) (sz : Nat) (m0 a1 a2 a3 a4 a5 a6 a7 a8 a9 a10 a11 : Nat) (tw ab be : Int) (mp mb ml mz : Nat) (cA : ClassId) (j : Nat) (wf : Nat → Int) (th v : Int) (hj : j < 6) (hmp : mp ≤ 6) (hjp : j < mp) (hwf : wf j = th) (hv9 : 0 ≤ v ∧ v ≤ 50) : Met l yX3_wall (Cond.code yX3_wall cX3_wall 4 ((Option.some Jvm.ClassFile.FieldType.int)) :: gw) rm_X3_wall (PcW [.ref m0, .int (zi ((j : Int))), .int (zi (v))] (dC, dI) vwCl [(m0, .inr (3, [.int (zi (tw)), .int (zi ((mp : Int))), .ref a1, .ref a2, .ref a3, .ref a4, .ref a5, .ref a6, .int (zi ((mb : Int))), .ref a7, .ref a8, .int (zi ((ml : Int))), .ref a9, .ref a10, .int (zi ((mz : Int))), .ref a11, .long (zl (ab)), .long (zl (be))])), (a5, .inl (cA, 6, .inl (zA (wf))))] [(cA, .int)] sz) (WrQ (some (.int (zi th))) (dC, dI) vwCl [(m0, .inr (3, [.int (zi (0)), .int (zi ((mp : Int))), .ref a1, .ref a2, .ref a3, .ref a4, .ref a5, .ref a6, .int (zi ((mb : Int))), .ref a7, .ref a8, .int (zi ((ml : Int))), .ref a9, .ref a10, .int (zi ((mz : Int))), .ref a11, .long (zl (ab)), .long (zl (be))])), (a5, .inl (cA, 6, .inl (zA (zupd wf (j) (v)))))] (va_A [(m0, .inr (3, [.int (zi (tw)), .int (zi ((mp : Int))), .ref a1, .ref a2, .ref a3, .ref a4, .ref a5, .ref a6, .int (zi ((mb : Int))), .ref a7, .ref a8, .int (zi ((ml : Int))), .ref a9, .ref a10, .int (zi ((mz : Int))), .ref a11, .long (zl (ab)), .long (zl (be))])), (a5, .inl (cA, 6, .inl (zA (wf))))] sz)) 0 0 (va_A [(m0, .inr (3, [.int (zi (tw)), .int (zi ((mp : Int))), .ref a1, .ref a2, .ref a3, .ref a4, .ref a5, .ref a6, .int (zi ((mb : Int))), .ref a7, .ref a8, .int (zi ((ml : Int))), .ref a9, .ref a10, .int (zi ((mz : Int))), .ref a11, .long (zl (ab)), .long (zl (be))])), (a5, .inl (cA, 6, .inl (zA (wf))))] sz) := by
  refine Met.ofW (cc := cX3_wall) (maxL := 4) (ret := ((Option.some Jvm.ClassFile.FieldType.int))) (by decide) rfl ?_
  intro p e s m args below meth c s₁ B hml hv
  obtain ⟨hargs, hsz, hP, hK, hD0⟩ := hv
  have hx := B.exec
  have hb := B.bytes
  have hr := B.returns
  have hts := atoms_spec (ws := Cond.code yX3_wall cX3_wall 4 ((Option.some Jvm.ClassFile.FieldType.int)) :: gw) B.pre
  have hg : ∀ w ∈ gw, w.before args s = true := fun w h => hts w (List.mem_cons_of_mem _ h)
  have hown : s.vm.findClass RX3 = some m.cls := findClass_of_methodNamed B.named
  have hlocks := B.notSynchronized
  subst hsz
  have hD := hD0.self (sz := s.heap.size)
  generalize hAe : va_A [(m0, .inr (3, [.int (zi (tw)), .int (zi ((mp : Int))), .ref a1, .ref a2, .ref a3, .ref a4, .ref a5, .ref a6, .int (zi ((mb : Int))), .ref a7, .ref a8, .int (zi ((ml : Int))), .ref a9, .ref a10, .int (zi ((mz : Int))), .ref a11, .long (zl (ab)), .long (zl (be))])), (a5, .inl (cA, 6, .inl (zA (wf))))] s.heap.size = A at hD ⊢
  have hA : ∀ q : Nat, s.heap.size ≤ q → A q := fun q h => by rw [← hAe]; exact Or.inr h
  show W p l e rm_X3_wall s m args below meth c s.heap [] 0 0 _ _
  have hl := lv_entry ([.ref m0, .int (zi ((j : Int))), .int (zi (v))]) (n := 4) (Nat.le_of_ble_eq_true rfl)
  rw [show entryFrame m args 4 = entryFrame m ([.ref m0, .int (zi ((j : Int))), .int (zi (v))] : List Value).toArray 4 by rw [hargs], lg_entry_eq]
  generalize (lg_sl ([.ref m0, .int (zi ((j : Int))), .int (zi (v))]) ++ List.replicate (4 - (lg_sl ([.ref m0, .int (zi ((j : Int))), .int (zi (v))])).length) Slot.unset).toArray = ls at hl ⊢
  have hl : lv_has ls 4 [(0, .ref m0), (1, .int (zi ((j : Int)))), (2, .int (zi (v)))] := hl
  obtain ⟨QQ, hQQ⟩ : ∃ Q, Q = MQ below (WrQ (some (.int (zi th))) (dC, dI) vwCl [(m0, .inr (3, [.int (zi (0)), .int (zi ((mp : Int))), .ref a1, .ref a2, .ref a3, .ref a4, .ref a5, .ref a6, .int (zi ((mb : Int))), .ref a7, .ref a8, .int (zi ((ml : Int))), .ref a9, .ref a10, .int (zi ((mz : Int))), .ref a11, .long (zl (ab)), .long (zl (be))])), (a5, .inl (cA, 6, .inl (zA (zupd wf (j) (v)))))] A) args s 0 0 A := ⟨_, rfl⟩
  rw [← hQQ]
  obtain ⟨H, hHe⟩ : ∃ H : Heap, H = s.heap := ⟨_, rfl⟩
  obtain ⟨locs, hlc⟩ : ∃ x : List Loc, x = [] := ⟨_, rfl⟩
  have hS : va_S A s.heap H locs := by rw [hHe, hlc]; exact va_S.rf
  have hP : va_P (dC, dI) vwCl [(m0, .inr (3, [.int (zi (tw)), .int (zi ((mp : Int))), .ref a1, .ref a2, .ref a3, .ref a4, .ref a5, .ref a6, .int (zi ((mb : Int))), .ref a7, .ref a8, .int (zi ((ml : Int))), .ref a9, .ref a10, .int (zi ((mz : Int))), .ref a11, .long (zl (ab)), .long (zl (be))])), (a5, .inl (cA, 6, .inl (zA (wf))))] H := by rw [hHe]; exact hP
  have hD : va_D A [(m0, .inr (3, [.int (zi (tw)), .int (zi ((mp : Int))), .ref a1, .ref a2, .ref a3, .ref a4, .ref a5, .ref a6, .int (zi ((mb : Int))), .ref a7, .ref a8, .int (zi ((ml : Int))), .ref a9, .ref a10, .int (zi ((mz : Int))), .ref a11, .long (zl (ab)), .long (zl (be))])), (a5, .inl (cA, 6, .inl (zA (wf))))] := hD
  rw [← hHe, ← hlc]
  refine lv_aload_n hx hb dX3_wall_0 rfl (lv_at hl 0 rfl) ?_
  refine lv_aload_n hx hb dX3_wall_1 rfl (lv_at hl 0 rfl) ?_
  refine lv_iload_n hx hb dX3_wall_2 rfl (lv_at hl 1 rfl) ?_
  refine rdV (As := [.int (zi ((j : Int)))]) (rest := [.ref m0]) (n := 1) hx hb hml hown hg (c_X3_isProfile l dC dI m0 a1 a2 a3 a4 a5 a6 a7 a8 a9 a10 a11 (tw) (ab) (be) mp mb ml mz ((j : Int)) hmp (by omega)) (gwV wl_X3_70 wm_X3_isProfile we_X3_isProfile wi_X3 wc_X3_isProfile) rfl rfl (by decide +kernel) ⟨Nat.le_of_ble_eq_true rfl, Nat.le_of_ble_eq_true rfl⟩ (hK.sub [] rfl) (hP.sub [0] rfl) 0 rfl rfl rfl rfl hl.1 rfl (Nat.le_of_ble_eq_true rfl) dX3_wall_3 ⟨Nat.zero_le _, Nat.zero_le _⟩ ?_
  refine zz_topi (z := 1) (congrArg zi (zb_t (decide_eq_true (by omega)))) ?_
  refine zz_if_ne (tgt := 13) hx hb (by omega) dX3_wall_6 (by decide) (fun c_6 => ?_) (fun c_6 => ?_)
  · refine lv_iconst (v := zi (0)) hx hb dX3_wall_13 rfl ?_
    refine lv_iload_n hx hb dX3_wall_14 rfl (lv_at hl 2 rfl) ?_
    refine lv_iconst (v := zi (0)) hx hb dX3_wall_15 rfl ?_
    refine lv_bipush (v := zi (50)) hx hb dX3_wall_16 (by decide) ?_
    refine rdS (As := [.int (zi (v)), .int (zi (0)), .int (zi (50))]) (rest := [.int (zi (0)), .ref m0]) (n := 3) hx hb hml hown hg (c_X3_in l (v) (0) (50) (by omega) (by omega) (by omega)) (gwS wl_X3_55 wt_X3_in wi_X3 wc_X3_in) rfl rfl (by decide +kernel) ⟨Nat.le_of_ble_eq_true rfl, Nat.le_of_ble_eq_true rfl⟩ rfl hl.1 rfl (Nat.le_of_ble_eq_true rfl) dX3_wall_18 ⟨Nat.zero_le _, Nat.zero_le _⟩ ?_
    refine zz_topi (z := 1) (congrArg zi (zb_t (decide_eq_true (by omega)))) ?_
    refine zz_if_ne (tgt := 28) hx hb (by omega) dX3_wall_21 (by decide) (fun c_21 => ?_) (fun c_21 => ?_)
    · refine lv_iconst (v := zi (0)) hx hb dX3_wall_28 rfl ?_
      refine lv_iconst (v := zi (0)) hx hb dX3_wall_29 rfl ?_
      refine wrV (As := [.int (zi (0)), .int (zi (0)), .int (zi (0))]) (rest := []) (n := 3) (ws' := [(m0, .inr (3, [.int (zi (0)), .int (zi ((mp : Int))), .ref a1, .ref a2, .ref a3, .ref a4, .ref a5, .ref a6, .int (zi ((mb : Int))), .ref a7, .ref a8, .int (zi ((ml : Int))), .ref a9, .ref a10, .int (zi ((mz : Int))), .ref a11, .long (zl (ab)), .long (zl (be))])), (a5, .inl (cA, 6, .inl (zA (wf))))]) hx hb hml hown hg (c_throwing l dC dI H.size m0 a1 a2 a3 a4 a5 a6 a7 a8 a9 a10 a11 (tw) (ab) (be) mp mb ml mz 0 0 0 (by decide) (by decide) (by decide)) (gwV wl_X3_59 wm_X3_throwing we_X3_throwing wi_X3 wc_X3_throwing) rfl rfl (by decide +kernel) ⟨Nat.le_of_ble_eq_true rfl, Nat.le_of_ble_eq_true rfl⟩ (hK.sub [] rfl) hP hD hS hA [0] rfl (by decide) [(true, 0), (false, 1)] rfl (by decide) rfl 0 rfl rfl rfl rfl hl.1 rfl (Nat.le_of_ble_eq_true rfl) dX3_wall_30 ⟨Nat.zero_le _, Nat.zero_le _⟩ (fun H locs hP hD hS => ?_)
      refine zz_topi (z := 0) (congrArg zi (by decide)) ?_
      refine zz_if_eq (tgt := 38) hx hb (by omega) dX3_wall_33 (by decide) (fun c_33 => ?_) (fun c_33 => ?_)
      · refine lv_aload_n hx hb dX3_wall_38 rfl (lv_at hl 0 rfl) ?_
        refine va_get (D := (dC, dI)) (ci := 3) (v := .ref a5) (C := RX3) (T := TX3) (N := 18) hx hb hg inX3 hown hK hP 0 rfl rfl 6 (by decide) (hg _ wl_X3_23) (fun _ h9 => h9) rfl dX3_wall_39 ?_
        refine lv_iload_n hx hb dX3_wall_42 rfl (lv_at hl 1 rfl) ?_
        refine zz_iald hx hb hK hP 1 0 rfl rfl (j) (by omega) (by omega) (by decide) dX3_wall_43 ?_
        refine zz_topi (z := th) (congrArg zi hwf) ?_
        refine lv_istore_n (lv' := [(3, .int (zi (th))), (0, .ref m0), (1, .int (zi ((j : Int)))), (2, .int (zi (v)))]) hx hb dX3_wall_44 rfl hl (by decide) rfl (fun ls hl => ?_)
        refine lv_aload_n hx hb dX3_wall_45 rfl (lv_at hl 1 rfl) ?_
        refine va_get (D := (dC, dI)) (ci := 3) (v := .ref a5) (C := RX3) (T := TX3) (N := 18) hx hb hg inX3 hown hK hP 0 rfl rfl 6 (by decide) (hg _ wl_X3_23) (fun _ h9 => h9) rfl dX3_wall_46 ?_
        refine lv_iload_n hx hb dX3_wall_49 rfl (lv_at hl 2 rfl) ?_
        refine lv_iload_n hx hb dX3_wall_50 rfl (lv_at hl 3 rfl) ?_
        refine zz_iast hx hb hK hP hD hS 1 0 rfl rfl (j) (by omega) (by omega) (by decide) dX3_wall_51 (fun H locs hP hD hS => ?_)
        have hP : va_P (dC, dI) vwCl [(m0, .inr (3, [.int (zi (0)), .int (zi ((mp : Int))), .ref a1, .ref a2, .ref a3, .ref a4, .ref a5, .ref a6, .int (zi ((mb : Int))), .ref a7, .ref a8, .int (zi ((ml : Int))), .ref a9, .ref a10, .int (zi ((mz : Int))), .ref a11, .long (zl (ab)), .long (zl (be))])), (a5, .inl (cA, 6, .inl (zA (zupd wf (j) (v)))))] H := hP
        have hD : va_D A [(m0, .inr (3, [.int (zi (0)), .int (zi ((mp : Int))), .ref a1, .ref a2, .ref a3, .ref a4, .ref a5, .ref a6, .int (zi ((mb : Int))), .ref a7, .ref a8, .int (zi ((ml : Int))), .ref a9, .ref a10, .int (zi ((mz : Int))), .ref a11, .long (zl (ab)), .long (zl (be))])), (a5, .inl (cA, 6, .inl (zA (zupd wf (j) (v)))))] := hD
        refine lv_iload_n hx hb dX3_wall_52 rfl (lv_at hl 0 rfl) ?_
        have hP9 : va_P (dC, dI) vwCl [(m0, .inr (3, [.int (zi (0)), .int (zi ((mp : Int))), .ref a1, .ref a2, .ref a3, .ref a4, .ref a5, .ref a6, .int (zi ((mb : Int))), .ref a7, .ref a8, .int (zi ((ml : Int))), .ref a9, .ref a10, .int (zi ((mz : Int))), .ref a11, .long (zl (ab)), .long (zl (be))])), (a5, .inl (cA, 6, .inl (zA (zupd wf (j) (v)))))] H := hP
        rw [hQQ]
        exact wr_i hx hb hr hlocks rfl hP9 hS dX3_wall_53
      · exact absurd c_33 (by decide)
    · exact absurd c_21 (by decide)
  · exact absurd c_6 (by decide)

abbrev rm_X3_unlike : Room := { frames := 2, cells := 0, slots := 0, locals := 49 }
set_option maxHeartbeats 4000000 in
set_option maxRecDepth 100000 in
theorem e_unlike (l : Launch) (dC : Nat → ClassId) (dI : Nat → Nat → Nat) (sz : Nat) (m0 a1 a2 a3 a4 a5 a6 a7 a8 a9 a10 a11 : Nat) (tw ab be : Int) (mp mb ml mz : Nat) (q q2 : Int) (hmp : mp ≤ 6) (h_q : -2147483648 ≤ q ∧ q < 2147483648) (h_q2 : -2147483648 ≤ q2 ∧ q2 < 2147483648) (hbad : ¬ (0 ≤ q ∧ q < (mp : Int) ∧ 0 ≤ q2 ∧ q2 < (mp : Int))) : Met l yX3_unlike (Cond.code yX3_unlike cX3_unlike 8 ((Option.some Jvm.ClassFile.FieldType.int)) :: gw) rm_X3_unlike (PcW [.ref m0, .int (zi (q)), .int (zi (q2))] (dC, dI) vwCl [(m0, .inr (3, [.int (zi (tw)), .int (zi ((mp : Int))), .ref a1, .ref a2, .ref a3, .ref a4, .ref a5, .ref a6, .int (zi ((mb : Int))), .ref a7, .ref a8, .int (zi ((ml : Int))), .ref a9, .ref a10, .int (zi ((mz : Int))), .ref a11, .long (zl (ab)), .long (zl (be))]))] [] sz) (WrQ (some (.int (zi 0))) (dC, dI) vwCl [(m0, .inr (3, [.int (zi (1)), .int (zi ((mp : Int))), .ref a1, .ref a2, .ref a3, .ref a4, .ref a5, .ref a6, .int (zi ((mb : Int))), .ref a7, .ref a8, .int (zi ((ml : Int))), .ref a9, .ref a10, .int (zi ((mz : Int))), .ref a11, .long (zl (ab)), .long (zl (be))]))] (va_A [(m0, .inr (3, [.int (zi (tw)), .int (zi ((mp : Int))), .ref a1, .ref a2, .ref a3, .ref a4, .ref a5, .ref a6, .int (zi ((mb : Int))), .ref a7, .ref a8, .int (zi ((ml : Int))), .ref a9, .ref a10, .int (zi ((mz : Int))), .ref a11, .long (zl (ab)), .long (zl (be))]))] sz)) 0 0 (va_A [(m0, .inr (3, [.int (zi (tw)), .int (zi ((mp : Int))), .ref a1, .ref a2, .ref a3, .ref a4, .ref a5, .ref a6, .int (zi ((mb : Int))), .ref a7, .ref a8, .int (zi ((ml : Int))), .ref a9, .ref a10, .int (zi ((mz : Int))), .ref a11, .long (zl (ab)), .long (zl (be))]))] sz) := by
  refine Met.ofW (cc := cX3_unlike) (maxL := 8) (ret := ((Option.some Jvm.ClassFile.FieldType.int))) (by decide) rfl ?_
  intro p e s m args below meth c s₁ B hml hv
  obtain ⟨hargs, hsz, hP, hK, hD0⟩ := hv
  have hx := B.exec
  have hb := B.bytes
  have hr := B.returns
  have hts := atoms_spec (ws := Cond.code yX3_unlike cX3_unlike 8 ((Option.some Jvm.ClassFile.FieldType.int)) :: gw) B.pre
  have hg : ∀ w ∈ gw, w.before args s = true := fun w h => hts w (List.mem_cons_of_mem _ h)
  have hown : s.vm.findClass RX3 = some m.cls := findClass_of_methodNamed B.named
  have hlocks := B.notSynchronized
  subst hsz
  have hD := hD0.self (sz := s.heap.size)
  generalize hAe : va_A [(m0, .inr (3, [.int (zi (tw)), .int (zi ((mp : Int))), .ref a1, .ref a2, .ref a3, .ref a4, .ref a5, .ref a6, .int (zi ((mb : Int))), .ref a7, .ref a8, .int (zi ((ml : Int))), .ref a9, .ref a10, .int (zi ((mz : Int))), .ref a11, .long (zl (ab)), .long (zl (be))]))] s.heap.size = A at hD ⊢
  have hA : ∀ q : Nat, s.heap.size ≤ q → A q := fun q h => by rw [← hAe]; exact Or.inr h
  show W p l e rm_X3_unlike s m args below meth c s.heap [] 0 0 _ _
  have hl := lv_entry ([.ref m0, .int (zi (q)), .int (zi (q2))]) (n := 8) (Nat.le_of_ble_eq_true rfl)
  rw [show entryFrame m args 8 = entryFrame m ([.ref m0, .int (zi (q)), .int (zi (q2))] : List Value).toArray 8 by rw [hargs], lg_entry_eq]
  generalize (lg_sl ([.ref m0, .int (zi (q)), .int (zi (q2))]) ++ List.replicate (8 - (lg_sl ([.ref m0, .int (zi (q)), .int (zi (q2))])).length) Slot.unset).toArray = ls at hl ⊢
  have hl : lv_has ls 8 [(0, .ref m0), (1, .int (zi (q))), (2, .int (zi (q2)))] := hl
  obtain ⟨QQ, hQQ⟩ : ∃ Q, Q = MQ below (WrQ (some (.int (zi 0))) (dC, dI) vwCl [(m0, .inr (3, [.int (zi (1)), .int (zi ((mp : Int))), .ref a1, .ref a2, .ref a3, .ref a4, .ref a5, .ref a6, .int (zi ((mb : Int))), .ref a7, .ref a8, .int (zi ((ml : Int))), .ref a9, .ref a10, .int (zi ((mz : Int))), .ref a11, .long (zl (ab)), .long (zl (be))]))] A) args s 0 0 A := ⟨_, rfl⟩
  rw [← hQQ]
  obtain ⟨H, hHe⟩ : ∃ H : Heap, H = s.heap := ⟨_, rfl⟩
  obtain ⟨locs, hlc⟩ : ∃ x : List Loc, x = [] := ⟨_, rfl⟩
  have hS : va_S A s.heap H locs := by rw [hHe, hlc]; exact va_S.rf
  have hP : va_P (dC, dI) vwCl [(m0, .inr (3, [.int (zi (tw)), .int (zi ((mp : Int))), .ref a1, .ref a2, .ref a3, .ref a4, .ref a5, .ref a6, .int (zi ((mb : Int))), .ref a7, .ref a8, .int (zi ((ml : Int))), .ref a9, .ref a10, .int (zi ((mz : Int))), .ref a11, .long (zl (ab)), .long (zl (be))]))] H := by rw [hHe]; exact hP
  have hD : va_D A [(m0, .inr (3, [.int (zi (tw)), .int (zi ((mp : Int))), .ref a1, .ref a2, .ref a3, .ref a4, .ref a5, .ref a6, .int (zi ((mb : Int))), .ref a7, .ref a8, .int (zi ((ml : Int))), .ref a9, .ref a10, .int (zi ((mz : Int))), .ref a11, .long (zl (ab)), .long (zl (be))]))] := hD
  rw [← hHe, ← hlc]
  refine lv_aload_n hx hb dX3_unlike_0 rfl (lv_at hl 0 rfl) ?_
  refine lv_aload_n hx hb dX3_unlike_1 rfl (lv_at hl 0 rfl) ?_
  refine lv_iload_n hx hb dX3_unlike_2 rfl (lv_at hl 1 rfl) ?_
  refine rdV (As := [.int (zi (q))]) (rest := [.ref m0]) (n := 1) hx hb hml hown hg (c_X3_isProfile l dC dI m0 a1 a2 a3 a4 a5 a6 a7 a8 a9 a10 a11 (tw) (ab) (be) mp mb ml mz (q) hmp (by omega)) (gwV wl_X3_70 wm_X3_isProfile we_X3_isProfile wi_X3 wc_X3_isProfile) rfl rfl (by decide +kernel) ⟨Nat.le_of_ble_eq_true rfl, Nat.le_of_ble_eq_true rfl⟩ (hK.sub [] rfl) (hP.sub [0] rfl) 0 rfl rfl rfl rfl hl.1 rfl (Nat.le_of_ble_eq_true rfl) dX3_unlike_3 ⟨Nat.zero_le _, Nat.zero_le _⟩ ?_
  refine zz_zb_eq (tgt := 17) hx hb dX3_unlike_6 (by decide) (fun c_6 => ?_) (fun c_6 => ?_)
  · refine lv_iconst (v := zi (1)) hx hb dX3_unlike_17 rfl ?_
    refine lv_goto (tgt := 22) hx hb dX3_unlike_18 (by decide) ?_
    refine lv_iconst (v := zi (0)) hx hb dX3_unlike_22 rfl ?_
    refine lv_iconst (v := zi (0)) hx hb dX3_unlike_23 rfl ?_
    refine wrV (As := [.int (zi (1)), .int (zi (0)), .int (zi (0))]) (rest := []) (n := 3) (ws' := [(m0, .inr (3, [.int (zi (1)), .int (zi ((mp : Int))), .ref a1, .ref a2, .ref a3, .ref a4, .ref a5, .ref a6, .int (zi ((mb : Int))), .ref a7, .ref a8, .int (zi ((ml : Int))), .ref a9, .ref a10, .int (zi ((mz : Int))), .ref a11, .long (zl (ab)), .long (zl (be))]))]) hx hb hml hown hg (c_throwing l dC dI H.size m0 a1 a2 a3 a4 a5 a6 a7 a8 a9 a10 a11 (tw) (ab) (be) mp mb ml mz 1 0 0 (by decide) (by decide) (by decide)) (gwV wl_X3_59 wm_X3_throwing we_X3_throwing wi_X3 wc_X3_throwing) rfl rfl (by decide +kernel) ⟨Nat.le_of_ble_eq_true rfl, Nat.le_of_ble_eq_true rfl⟩ (hK.sub [] rfl) hP hD hS hA [0] rfl (by decide) [(true, 0)] rfl (by decide) rfl 0 rfl rfl rfl rfl hl.1 rfl (Nat.le_of_ble_eq_true rfl) dX3_unlike_24 ⟨Nat.zero_le _, Nat.zero_le _⟩ (fun H locs hP hD hS => ?_)
    refine zz_topi (z := 1) (congrArg zi (by decide)) ?_
    refine zz_if_eq (tgt := 32) hx hb (by omega) dX3_unlike_27 (by decide) (fun c_27 => ?_) (fun c_27 => ?_)
    · exact absurd c_27 (by decide)
    · refine lv_iconst (v := zi (0)) hx hb dX3_unlike_30 rfl ?_
      have hP9 : va_P (dC, dI) vwCl [(m0, .inr (3, [.int (zi (1)), .int (zi ((mp : Int))), .ref a1, .ref a2, .ref a3, .ref a4, .ref a5, .ref a6, .int (zi ((mb : Int))), .ref a7, .ref a8, .int (zi ((ml : Int))), .ref a9, .ref a10, .int (zi ((mz : Int))), .ref a11, .long (zl (ab)), .long (zl (be))]))] H := hP
      rw [hQQ]
      exact wr_i hx hb hr hlocks rfl hP9 hS dX3_unlike_31
  · refine lv_aload_n hx hb dX3_unlike_9 rfl (lv_at hl 0 rfl) ?_
    refine lv_iload_n hx hb dX3_unlike_10 rfl (lv_at hl 2 rfl) ?_
    refine rdV (As := [.int (zi (q2))]) (rest := [.ref m0]) (n := 1) hx hb hml hown hg (c_X3_isProfile l dC dI m0 a1 a2 a3 a4 a5 a6 a7 a8 a9 a10 a11 (tw) (ab) (be) mp mb ml mz (q2) hmp (by omega)) (gwV wl_X3_70 wm_X3_isProfile we_X3_isProfile wi_X3 wc_X3_isProfile) rfl rfl (by decide +kernel) ⟨Nat.le_of_ble_eq_true rfl, Nat.le_of_ble_eq_true rfl⟩ (hK.sub [] rfl) (hP.sub [0] rfl) 0 rfl rfl rfl rfl hl.1 rfl (Nat.le_of_ble_eq_true rfl) dX3_unlike_11 ⟨Nat.zero_le _, Nat.zero_le _⟩ ?_
    refine zz_zb_ne (tgt := 21) hx hb dX3_unlike_14 (by decide) (fun c_14 => ?_) (fun c_14 => ?_)
    · exact False.elim (by omega)
    · refine lv_iconst (v := zi (1)) hx hb dX3_unlike_17 rfl ?_
      refine lv_goto (tgt := 22) hx hb dX3_unlike_18 (by decide) ?_
      refine lv_iconst (v := zi (0)) hx hb dX3_unlike_22 rfl ?_
      refine lv_iconst (v := zi (0)) hx hb dX3_unlike_23 rfl ?_
      refine wrV (As := [.int (zi (1)), .int (zi (0)), .int (zi (0))]) (rest := []) (n := 3) (ws' := [(m0, .inr (3, [.int (zi (1)), .int (zi ((mp : Int))), .ref a1, .ref a2, .ref a3, .ref a4, .ref a5, .ref a6, .int (zi ((mb : Int))), .ref a7, .ref a8, .int (zi ((ml : Int))), .ref a9, .ref a10, .int (zi ((mz : Int))), .ref a11, .long (zl (ab)), .long (zl (be))]))]) hx hb hml hown hg (c_throwing l dC dI H.size m0 a1 a2 a3 a4 a5 a6 a7 a8 a9 a10 a11 (tw) (ab) (be) mp mb ml mz 1 0 0 (by decide) (by decide) (by decide)) (gwV wl_X3_59 wm_X3_throwing we_X3_throwing wi_X3 wc_X3_throwing) rfl rfl (by decide +kernel) ⟨Nat.le_of_ble_eq_true rfl, Nat.le_of_ble_eq_true rfl⟩ (hK.sub [] rfl) hP hD hS hA [0] rfl (by decide) [(true, 0)] rfl (by decide) rfl 0 rfl rfl rfl rfl hl.1 rfl (Nat.le_of_ble_eq_true rfl) dX3_unlike_24 ⟨Nat.zero_le _, Nat.zero_le _⟩ (fun H locs hP hD hS => ?_)
      refine zz_topi (z := 1) (congrArg zi (by decide)) ?_
      refine zz_if_eq (tgt := 32) hx hb (by omega) dX3_unlike_27 (by decide) (fun c_27 => ?_) (fun c_27 => ?_)
      · exact absurd c_27 (by decide)
      · refine lv_iconst (v := zi (0)) hx hb dX3_unlike_30 rfl ?_
        have hP9 : va_P (dC, dI) vwCl [(m0, .inr (3, [.int (zi (1)), .int (zi ((mp : Int))), .ref a1, .ref a2, .ref a3, .ref a4, .ref a5, .ref a6, .int (zi ((mb : Int))), .ref a7, .ref a8, .int (zi ((ml : Int))), .ref a9, .ref a10, .int (zi ((mz : Int))), .ref a11, .long (zl (ab)), .long (zl (be))]))] H := hP
        rw [hQQ]
        exact wr_i hx hb hr hlocks rfl hP9 hS dX3_unlike_31

set_option maxHeartbeats 4000000 in
set_option maxRecDepth 100000 in
theorem k_unlike (l : Launch) (dC : Nat → ClassId) (dI : Nat → Nat → Nat) (sz : Nat) (m0 a1 a2 a3 a4 a5 a6 a7 a8 a9 a10 a11 : Nat) (tw ab be : Int) (mp mb ml mz : Nat) (cA : ClassId) (j n : Nat) (sf hh rr hs rs : Nat → Int) (q n' : Nat) (hs' rs' : Nat → Int) (hj : j < 6) (hsf : sf j = (n : Int)) (hhs : ∀ k, k < 12 → hh (12 * j + k) = hs k) (hrs : ∀ k, k < 12 → rr (12 * j + k) = rs k) (hn : n ≤ 12) (hH : ∀ j, 0 ≤ hs j ∧ hs j ≤ 400) (hR : ∀ j, 0 ≤ rs j ∧ rs j ≤ 200) (hmp : mp ≤ 6) (hjp : j < mp) (hq : q < 6) (hqp : q < mp) (hsf' : sf q = (n' : Int)) (hhs' : ∀ k, k < 12 → hh (12 * q + k) = hs' k) (hrs' : ∀ k, k < 12 → rr (12 * q + k) = rs' k) (hn' : n' ≤ 12) (hH' : ∀ j, 0 ≤ hs' j ∧ hs' j ≤ 400) (hR' : ∀ j, 0 ≤ rs' j ∧ rs' j ≤ 200) : Met l yX3_unlike (Cond.code yX3_unlike cX3_unlike 8 ((Option.some Jvm.ClassFile.FieldType.int)) :: gw) rm_X3_unlike (PcW [.ref m0, .int (zi ((j : Int))), .int (zi ((q : Int)))] (dC, dI) vwCl [(m0, .inr (3, [.int (zi (tw)), .int (zi ((mp : Int))), .ref a1, .ref a2, .ref a3, .ref a4, .ref a5, .ref a6, .int (zi ((mb : Int))), .ref a7, .ref a8, .int (zi ((ml : Int))), .ref a9, .ref a10, .int (zi ((mz : Int))), .ref a11, .long (zl (ab)), .long (zl (be))])), (a1, .inl (cA, 6, .inl (zA (sf)))), (a2, .inl (cA, 72, .inl (zA (hh)))), (a3, .inl (cA, 72, .inl (zA (rr))))] [(cA, .int)] sz) (WrQ (some (.int (zi (p_unl (fun h => m_rad n hs rs h n 0 (-1)) (fun h => m_rad n' hs' rs' h n' 0 (-1)) (401))))) (dC, dI) vwCl [(m0, .inr (3, [.int (zi (0)), .int (zi ((mp : Int))), .ref a1, .ref a2, .ref a3, .ref a4, .ref a5, .ref a6, .int (zi ((mb : Int))), .ref a7, .ref a8, .int (zi ((ml : Int))), .ref a9, .ref a10, .int (zi ((mz : Int))), .ref a11, .long (zl (ab)), .long (zl (be))])), (a1, .inl (cA, 6, .inl (zA (sf)))), (a2, .inl (cA, 72, .inl (zA (hh)))), (a3, .inl (cA, 72, .inl (zA (rr))))] (va_A [(m0, .inr (3, [.int (zi (tw)), .int (zi ((mp : Int))), .ref a1, .ref a2, .ref a3, .ref a4, .ref a5, .ref a6, .int (zi ((mb : Int))), .ref a7, .ref a8, .int (zi ((ml : Int))), .ref a9, .ref a10, .int (zi ((mz : Int))), .ref a11, .long (zl (ab)), .long (zl (be))])), (a1, .inl (cA, 6, .inl (zA (sf)))), (a2, .inl (cA, 72, .inl (zA (hh)))), (a3, .inl (cA, 72, .inl (zA (rr))))] sz)) 0 0 (va_A [(m0, .inr (3, [.int (zi (tw)), .int (zi ((mp : Int))), .ref a1, .ref a2, .ref a3, .ref a4, .ref a5, .ref a6, .int (zi ((mb : Int))), .ref a7, .ref a8, .int (zi ((ml : Int))), .ref a9, .ref a10, .int (zi ((mz : Int))), .ref a11, .long (zl (ab)), .long (zl (be))])), (a1, .inl (cA, 6, .inl (zA (sf)))), (a2, .inl (cA, 72, .inl (zA (hh)))), (a3, .inl (cA, 72, .inl (zA (rr))))] sz) := by
  refine Met.ofW (cc := cX3_unlike) (maxL := 8) (ret := ((Option.some Jvm.ClassFile.FieldType.int))) (by decide) rfl ?_
  intro p e s m args below meth c s₁ B hml hv
  obtain ⟨hargs, hsz, hP, hK, hD0⟩ := hv
  have hx := B.exec
  have hb := B.bytes
  have hr := B.returns
  have hts := atoms_spec (ws := Cond.code yX3_unlike cX3_unlike 8 ((Option.some Jvm.ClassFile.FieldType.int)) :: gw) B.pre
  have hg : ∀ w ∈ gw, w.before args s = true := fun w h => hts w (List.mem_cons_of_mem _ h)
  have hown : s.vm.findClass RX3 = some m.cls := findClass_of_methodNamed B.named
  have hlocks := B.notSynchronized
  subst hsz
  have hD := hD0.self (sz := s.heap.size)
  generalize hAe : va_A [(m0, .inr (3, [.int (zi (tw)), .int (zi ((mp : Int))), .ref a1, .ref a2, .ref a3, .ref a4, .ref a5, .ref a6, .int (zi ((mb : Int))), .ref a7, .ref a8, .int (zi ((ml : Int))), .ref a9, .ref a10, .int (zi ((mz : Int))), .ref a11, .long (zl (ab)), .long (zl (be))])), (a1, .inl (cA, 6, .inl (zA (sf)))), (a2, .inl (cA, 72, .inl (zA (hh)))), (a3, .inl (cA, 72, .inl (zA (rr))))] s.heap.size = A at hD ⊢
  have hA : ∀ q : Nat, s.heap.size ≤ q → A q := fun q h => by rw [← hAe]; exact Or.inr h
  show W p l e rm_X3_unlike s m args below meth c s.heap [] 0 0 _ _
  have hl := lv_entry ([.ref m0, .int (zi ((j : Int))), .int (zi ((q : Int)))]) (n := 8) (Nat.le_of_ble_eq_true rfl)
  rw [show entryFrame m args 8 = entryFrame m ([.ref m0, .int (zi ((j : Int))), .int (zi ((q : Int)))] : List Value).toArray 8 by rw [hargs], lg_entry_eq]
  generalize (lg_sl ([.ref m0, .int (zi ((j : Int))), .int (zi ((q : Int)))]) ++ List.replicate (8 - (lg_sl ([.ref m0, .int (zi ((j : Int))), .int (zi ((q : Int)))])).length) Slot.unset).toArray = ls at hl ⊢
  have hl : lv_has ls 8 [(0, .ref m0), (1, .int (zi ((j : Int)))), (2, .int (zi ((q : Int))))] := hl
  obtain ⟨QQ, hQQ⟩ : ∃ Q, Q = MQ below (WrQ (some (.int (zi (p_unl (fun h => m_rad n hs rs h n 0 (-1)) (fun h => m_rad n' hs' rs' h n' 0 (-1)) (401))))) (dC, dI) vwCl [(m0, .inr (3, [.int (zi (0)), .int (zi ((mp : Int))), .ref a1, .ref a2, .ref a3, .ref a4, .ref a5, .ref a6, .int (zi ((mb : Int))), .ref a7, .ref a8, .int (zi ((ml : Int))), .ref a9, .ref a10, .int (zi ((mz : Int))), .ref a11, .long (zl (ab)), .long (zl (be))])), (a1, .inl (cA, 6, .inl (zA (sf)))), (a2, .inl (cA, 72, .inl (zA (hh)))), (a3, .inl (cA, 72, .inl (zA (rr))))] A) args s 0 0 A := ⟨_, rfl⟩
  rw [← hQQ]
  obtain ⟨H, hHe⟩ : ∃ H : Heap, H = s.heap := ⟨_, rfl⟩
  obtain ⟨locs, hlc⟩ : ∃ x : List Loc, x = [] := ⟨_, rfl⟩
  have hS : va_S A s.heap H locs := by rw [hHe, hlc]; exact va_S.rf
  have hP : va_P (dC, dI) vwCl [(m0, .inr (3, [.int (zi (tw)), .int (zi ((mp : Int))), .ref a1, .ref a2, .ref a3, .ref a4, .ref a5, .ref a6, .int (zi ((mb : Int))), .ref a7, .ref a8, .int (zi ((ml : Int))), .ref a9, .ref a10, .int (zi ((mz : Int))), .ref a11, .long (zl (ab)), .long (zl (be))])), (a1, .inl (cA, 6, .inl (zA (sf)))), (a2, .inl (cA, 72, .inl (zA (hh)))), (a3, .inl (cA, 72, .inl (zA (rr))))] H := by rw [hHe]; exact hP
  have hD : va_D A [(m0, .inr (3, [.int (zi (tw)), .int (zi ((mp : Int))), .ref a1, .ref a2, .ref a3, .ref a4, .ref a5, .ref a6, .int (zi ((mb : Int))), .ref a7, .ref a8, .int (zi ((ml : Int))), .ref a9, .ref a10, .int (zi ((mz : Int))), .ref a11, .long (zl (ab)), .long (zl (be))])), (a1, .inl (cA, 6, .inl (zA (sf)))), (a2, .inl (cA, 72, .inl (zA (hh)))), (a3, .inl (cA, 72, .inl (zA (rr))))] := hD
  rw [← hHe, ← hlc]
  refine lv_aload_n hx hb dX3_unlike_0 rfl (lv_at hl 0 rfl) ?_
  refine lv_aload_n hx hb dX3_unlike_1 rfl (lv_at hl 0 rfl) ?_
  refine lv_iload_n hx hb dX3_unlike_2 rfl (lv_at hl 1 rfl) ?_
  refine rdV (As := [.int (zi ((j : Int)))]) (rest := [.ref m0]) (n := 1) hx hb hml hown hg (c_X3_isProfile l dC dI m0 a1 a2 a3 a4 a5 a6 a7 a8 a9 a10 a11 (tw) (ab) (be) mp mb ml mz ((j : Int)) hmp (by omega)) (gwV wl_X3_70 wm_X3_isProfile we_X3_isProfile wi_X3 wc_X3_isProfile) rfl rfl (by decide +kernel) ⟨Nat.le_of_ble_eq_true rfl, Nat.le_of_ble_eq_true rfl⟩ (hK.sub [] rfl) (hP.sub [0] rfl) 0 rfl rfl rfl rfl hl.1 rfl (Nat.le_of_ble_eq_true rfl) dX3_unlike_3 ⟨Nat.zero_le _, Nat.zero_le _⟩ ?_
  refine zz_topi (z := 1) (congrArg zi (zb_t (decide_eq_true (by omega)))) ?_
  refine zz_if_eq (tgt := 17) hx hb (by omega) dX3_unlike_6 (by decide) (fun c_6 => ?_) (fun c_6 => ?_)
  · exact absurd c_6 (by decide)
  · refine lv_aload_n hx hb dX3_unlike_9 rfl (lv_at hl 0 rfl) ?_
    refine lv_iload_n hx hb dX3_unlike_10 rfl (lv_at hl 2 rfl) ?_
    refine rdV (As := [.int (zi ((q : Int)))]) (rest := [.ref m0]) (n := 1) hx hb hml hown hg (c_X3_isProfile l dC dI m0 a1 a2 a3 a4 a5 a6 a7 a8 a9 a10 a11 (tw) (ab) (be) mp mb ml mz ((q : Int)) hmp (by omega)) (gwV wl_X3_70 wm_X3_isProfile we_X3_isProfile wi_X3 wc_X3_isProfile) rfl rfl (by decide +kernel) ⟨Nat.le_of_ble_eq_true rfl, Nat.le_of_ble_eq_true rfl⟩ (hK.sub [] rfl) (hP.sub [0] rfl) 0 rfl rfl rfl rfl hl.1 rfl (Nat.le_of_ble_eq_true rfl) dX3_unlike_11 ⟨Nat.zero_le _, Nat.zero_le _⟩ ?_
    refine zz_topi (z := 1) (congrArg zi (zb_t (decide_eq_true (by omega)))) ?_
    refine zz_if_ne (tgt := 21) hx hb (by omega) dX3_unlike_14 (by decide) (fun c_14 => ?_) (fun c_14 => ?_)
    · refine lv_iconst (v := zi (0)) hx hb dX3_unlike_21 rfl ?_
      refine lv_iconst (v := zi (0)) hx hb dX3_unlike_22 rfl ?_
      refine lv_iconst (v := zi (0)) hx hb dX3_unlike_23 rfl ?_
      refine wrV (As := [.int (zi (0)), .int (zi (0)), .int (zi (0))]) (rest := []) (n := 3) (ws' := [(m0, .inr (3, [.int (zi (0)), .int (zi ((mp : Int))), .ref a1, .ref a2, .ref a3, .ref a4, .ref a5, .ref a6, .int (zi ((mb : Int))), .ref a7, .ref a8, .int (zi ((ml : Int))), .ref a9, .ref a10, .int (zi ((mz : Int))), .ref a11, .long (zl (ab)), .long (zl (be))])), (a1, .inl (cA, 6, .inl (zA (sf)))), (a2, .inl (cA, 72, .inl (zA (hh)))), (a3, .inl (cA, 72, .inl (zA (rr))))]) hx hb hml hown hg (c_throwing l dC dI H.size m0 a1 a2 a3 a4 a5 a6 a7 a8 a9 a10 a11 (tw) (ab) (be) mp mb ml mz 0 0 0 (by decide) (by decide) (by decide)) (gwV wl_X3_59 wm_X3_throwing we_X3_throwing wi_X3 wc_X3_throwing) rfl rfl (by decide +kernel) ⟨Nat.le_of_ble_eq_true rfl, Nat.le_of_ble_eq_true rfl⟩ (hK.sub [] rfl) hP hD hS hA [0] rfl (by decide) [(true, 0), (false, 1), (false, 2), (false, 3)] rfl (by decide) rfl 0 rfl rfl rfl rfl hl.1 rfl (Nat.le_of_ble_eq_true rfl) dX3_unlike_24 ⟨Nat.zero_le _, Nat.zero_le _⟩ (fun H locs hP hD hS => ?_)
      refine zz_topi (z := 0) (congrArg zi (by decide)) ?_
      refine zz_if_eq (tgt := 32) hx hb (by omega) dX3_unlike_27 (by decide) (fun c_27 => ?_) (fun c_27 => ?_)
      · refine lv_iconst (v := zi (0)) hx hb dX3_unlike_32 rfl ?_
        refine lv_istore_n (lv' := [(3, .int (zi (0))), (0, .ref m0), (1, .int (zi ((j : Int)))), (2, .int (zi ((q : Int))))]) hx hb dX3_unlike_33 rfl hl (by decide) rfl (fun ls hl => ?_)
        refine lv_iconst (v := zi (0)) hx hb dX3_unlike_34 rfl ?_
        refine lv_istore (lv' := [(4, .int (zi (0))), (3, .int (zi (0))), (0, .ref m0), (1, .int (zi ((j : Int)))), (2, .int (zi ((q : Int))))]) hx hb dX3_unlike_35 hl (by decide) rfl (fun ls hl => ?_)
        have key_37 : ∀ (n_ : Nat) (k : Nat), k ≤ 401 → 402 - k < n_ → ∀ (H : Heap) (locs : List Loc), va_P (dC, dI) vwCl [(m0, .inr (3, [.int (zi (0)), .int (zi ((mp : Int))), .ref a1, .ref a2, .ref a3, .ref a4, .ref a5, .ref a6, .int (zi ((mb : Int))), .ref a7, .ref a8, .int (zi ((ml : Int))), .ref a9, .ref a10, .int (zi ((mz : Int))), .ref a11, .long (zl (ab)), .long (zl (be))])), (a1, .inl (cA, 6, .inl (zA (sf)))), (a2, .inl (cA, 72, .inl (zA (hh)))), (a3, .inl (cA, 72, .inl (zA (rr))))] H → va_D A [(m0, .inr (3, [.int (zi (0)), .int (zi ((mp : Int))), .ref a1, .ref a2, .ref a3, .ref a4, .ref a5, .ref a6, .int (zi ((mb : Int))), .ref a7, .ref a8, .int (zi ((ml : Int))), .ref a9, .ref a10, .int (zi ((mz : Int))), .ref a11, .long (zl (ab)), .long (zl (be))])), (a1, .inl (cA, 6, .inl (zA (sf)))), (a2, .inl (cA, 72, .inl (zA (hh)))), (a3, .inl (cA, 72, .inl (zA (rr))))] → va_S A s.heap H locs → ∀ (ls : Array Slot), lv_has ls 8 [(4, .int (zi ((k : Int)))), (3, .int (zi (p_unl (fun h => m_rad n hs rs h n 0 (-1)) (fun h => m_rad n' hs' rs' h n' 0 (-1)) (k)))), (2, .int (zi ((q : Int)))), (1, .int (zi ((j : Int)))), (0, .ref m0)] → W p l e rm_X3_unlike s m args below meth c H locs 0 0 QQ (F0 m 37 ls []) := by
          intro n_
          induction n_ with
          | zero => intro k hk1 hm_; exact absurd hm_ (Nat.not_lt_zero _)
          | succ n_ ih =>
            intro k hk1 hm_ H locs hP hD hS ls hl
            refine lv_iload hx hb dX3_unlike_37 (lv_at hl 0 rfl) ?_
            refine lv_sipush (v := zi (400)) hx hb dX3_unlike_39 (by decide) ?_
            refine zz_icmp_gt (tgt := 110) hx hb (by omega) (by omega) dX3_unlike_42 (by decide) (fun c_42 => ?_) (fun c_42 => ?_)
            · refine lv_iload_n hx hb dX3_unlike_110 rfl (lv_at hl 1 rfl) ?_
              have hP9 : va_P (dC, dI) vwCl [(m0, .inr (3, [.int (zi (0)), .int (zi ((mp : Int))), .ref a1, .ref a2, .ref a3, .ref a4, .ref a5, .ref a6, .int (zi ((mb : Int))), .ref a7, .ref a8, .int (zi ((ml : Int))), .ref a9, .ref a10, .int (zi ((mz : Int))), .ref a11, .long (zl (ab)), .long (zl (be))])), (a1, .inl (cA, 6, .inl (zA (sf)))), (a2, .inl (cA, 72, .inl (zA (hh)))), (a3, .inl (cA, 72, .inl (zA (rr))))] H := hP
              rw [hQQ]
              exact wr_i hx hb hr hlocks (by rw [show k = 401 by omega]) hP9 hS dX3_unlike_111
            · have hu9 := p_unl_bd (ra := (fun h => m_rad n hs rs h n 0 (-1))) (rb := (fun h => m_rad n' hs' rs' h n' 0 (-1))) (fun h => m_rad_bd hR n 0 (-1) (by decide)) (fun h => m_rad_bd hR' n' 0 (-1) (by decide)) k
              have hra := m_rad_bd (n := n) (hs := hs) (h := (k : Int)) hR n 0 (-1) (by decide)
              have hrb := m_rad_bd (n := n') (hs := hs') (h := (k : Int)) hR' n' 0 (-1) (by decide)
              refine lv_aload_n hx hb dX3_unlike_45 rfl (lv_at hl 4 rfl) ?_
              refine lv_iload_n hx hb dX3_unlike_46 rfl (lv_at hl 3 rfl) ?_
              refine lv_iload hx hb dX3_unlike_47 (lv_at hl 0 rfl) ?_
              refine rdV (As := [.int (zi ((j : Int))), .int (zi ((k : Int)))]) (rest := []) (n := 2) hx hb hml hown hg (c_X3_radiusOf l dC dI m0 a1 a2 a3 a4 a5 a6 a7 a8 a9 a10 a11 (0) (ab) (be) mp mb ml mz cA j n sf hh rr hs rs ((k : Int)) hj hsf hhs hrs hn hH hR (by omega)) (gwV wl_X3_81 wm_X3_radiusOf we_X3_radiusOf wi_X3 wc_X3_radiusOf) rfl rfl (by decide +kernel) ⟨Nat.le_of_ble_eq_true rfl, Nat.le_of_ble_eq_true rfl⟩ (hK.sub [0] rfl) (hP.sub [0, 1, 2, 3] rfl) 0 rfl rfl rfl rfl hl.1 rfl (Nat.le_of_ble_eq_true rfl) dX3_unlike_49 ⟨Nat.zero_le _, Nat.zero_le _⟩ ?_
              refine lv_istore (lv' := [(5, .int (zi (m_rad n hs rs ((k : Int)) n 0 (-1)))), (4, .int (zi ((k : Int)))), (3, .int (zi (p_unl (fun h => m_rad n hs rs h n 0 (-1)) (fun h => m_rad n' hs' rs' h n' 0 (-1)) (k)))), (2, .int (zi ((q : Int)))), (1, .int (zi ((j : Int)))), (0, .ref m0)]) hx hb dX3_unlike_52 hl (by decide) rfl (fun ls hl => ?_)
              refine lv_aload_n hx hb dX3_unlike_54 rfl (lv_at hl 5 rfl) ?_
              refine lv_iload_n hx hb dX3_unlike_55 rfl (lv_at hl 3 rfl) ?_
              refine lv_iload hx hb dX3_unlike_56 (lv_at hl 1 rfl) ?_
              refine rdV (As := [.int (zi ((q : Int))), .int (zi ((k : Int)))]) (rest := []) (n := 2) hx hb hml hown hg (c_X3_radiusOf l dC dI m0 a1 a2 a3 a4 a5 a6 a7 a8 a9 a10 a11 (0) (ab) (be) mp mb ml mz cA q n' sf hh rr hs' rs' ((k : Int)) hq hsf' hhs' hrs' hn' hH' hR' (by omega)) (gwV wl_X3_81 wm_X3_radiusOf we_X3_radiusOf wi_X3 wc_X3_radiusOf) rfl rfl (by decide +kernel) ⟨Nat.le_of_ble_eq_true rfl, Nat.le_of_ble_eq_true rfl⟩ (hK.sub [0] rfl) (hP.sub [0, 1, 2, 3] rfl) 0 rfl rfl rfl rfl hl.1 rfl (Nat.le_of_ble_eq_true rfl) dX3_unlike_58 ⟨Nat.zero_le _, Nat.zero_le _⟩ ?_
              refine lv_istore (lv' := [(6, .int (zi (m_rad n' hs' rs' ((k : Int)) n' 0 (-1)))), (5, .int (zi (m_rad n hs rs ((k : Int)) n 0 (-1)))), (4, .int (zi ((k : Int)))), (3, .int (zi (p_unl (fun h => m_rad n hs rs h n 0 (-1)) (fun h => m_rad n' hs' rs' h n' 0 (-1)) (k)))), (2, .int (zi ((q : Int)))), (1, .int (zi ((j : Int)))), (0, .ref m0)]) hx hb dX3_unlike_61 hl (by decide) rfl (fun ls hl => ?_)
              refine lv_iload hx hb dX3_unlike_63 (lv_at hl 1 rfl) ?_
              refine zz_if_ge (tgt := 72) hx hb (by omega) dX3_unlike_65 (by decide) (fun c_65 => ?_) (fun c_65 => ?_)
              · refine lv_iload hx hb dX3_unlike_72 (lv_at hl 1 rfl) ?_
                refine lv_iload hx hb dX3_unlike_74 (lv_at hl 0 rfl) ?_
                refine zz_if_ge (tgt := 83) hx hb (by omega) dX3_unlike_76 (by decide) (fun c_76 => ?_) (fun c_76 => ?_)
                · refine lv_iload hx hb dX3_unlike_83 (lv_at hl 0 rfl) ?_
                  refine zz_isub hx hb dX3_unlike_85 ?_
                  refine lv_istore (lv' := [(7, .int (zi ((m_rad n hs rs ((k : Int)) n 0 (-1)) - (m_rad n' hs' rs' ((k : Int)) n' 0 (-1))))), (6, .int (zi (m_rad n' hs' rs' ((k : Int)) n' 0 (-1)))), (5, .int (zi (m_rad n hs rs ((k : Int)) n 0 (-1)))), (4, .int (zi ((k : Int)))), (3, .int (zi (p_unl (fun h => m_rad n hs rs h n 0 (-1)) (fun h => m_rad n' hs' rs' h n' 0 (-1)) (k)))), (2, .int (zi ((q : Int)))), (1, .int (zi ((j : Int)))), (0, .ref m0)]) hx hb dX3_unlike_86 hl (by decide) rfl (fun ls hl => ?_)
                  refine lv_iload_n hx hb dX3_unlike_88 rfl (lv_at hl 4 rfl) ?_
                  refine lv_iload hx hb dX3_unlike_89 (lv_at hl 0 rfl) ?_
                  refine zz_if_ge (tgt := 100) hx hb (by omega) dX3_unlike_91 (by decide) (fun c_91 => ?_) (fun c_91 => ?_)
                  · refine lv_iload hx hb dX3_unlike_100 (lv_at hl 0 rfl) ?_
                    refine zz_iadd hx hb dX3_unlike_102 ?_
                    refine lv_istore_n (lv' := [(3, .int (zi ((p_unl (fun h => m_rad n hs rs h n 0 (-1)) (fun h => m_rad n' hs' rs' h n' 0 (-1)) (k)) + ((m_rad n hs rs ((k : Int)) n 0 (-1)) - (m_rad n' hs' rs' ((k : Int)) n' 0 (-1)))))), (7, .int (zi ((m_rad n hs rs ((k : Int)) n 0 (-1)) - (m_rad n' hs' rs' ((k : Int)) n' 0 (-1))))), (6, .int (zi (m_rad n' hs' rs' ((k : Int)) n' 0 (-1)))), (5, .int (zi (m_rad n hs rs ((k : Int)) n 0 (-1)))), (4, .int (zi ((k : Int)))), (2, .int (zi ((q : Int)))), (1, .int (zi ((j : Int)))), (0, .ref m0)]) hx hb dX3_unlike_103 rfl hl (by decide) rfl (fun ls hl => ?_)
                    refine lv_iinc (v := zi (((k : Int)) + (1))) (lv' := [(4, .int (zi (((k : Int)) + (1)))), (3, .int (zi ((p_unl (fun h => m_rad n hs rs h n 0 (-1)) (fun h => m_rad n' hs' rs' h n' 0 (-1)) (k)) + ((m_rad n hs rs ((k : Int)) n 0 (-1)) - (m_rad n' hs' rs' ((k : Int)) n' 0 (-1)))))), (7, .int (zi ((m_rad n hs rs ((k : Int)) n 0 (-1)) - (m_rad n' hs' rs' ((k : Int)) n' 0 (-1))))), (6, .int (zi (m_rad n' hs' rs' ((k : Int)) n' 0 (-1)))), (5, .int (zi (m_rad n hs rs ((k : Int)) n 0 (-1)))), (2, .int (zi ((q : Int)))), (1, .int (zi ((j : Int)))), (0, .ref m0)]) hx hb dX3_unlike_104 hl (k := 4) rfl (zi_add _ _) (by decide) rfl (fun ls hl => ?_)
                    refine lv_goto (tgt := 37) hx hb dX3_unlike_107 (by decide) ?_
                    have hst : p_unl (fun h => m_rad n hs rs h n 0 (-1)) (fun h => m_rad n' hs' rs' h n' 0 (-1)) (k + 1) = (p_unl (fun h => m_rad n hs rs h n 0 (-1)) (fun h => m_rad n' hs' rs' h n' 0 (-1)) (k)) + ((m_rad n hs rs ((k : Int)) n 0 (-1)) - (m_rad n' hs' rs' ((k : Int)) n' 0 (-1))) := by rw [p_unl]; omega
                    rw [← hst] at hl
                    exact ih (k + 1) (by omega) (by omega) H locs (hP.sub [0, 1, 2, 3] rfl) (hD.sub [0, 1, 2, 3] (by decide) rfl) hS ls (lv_sub hl [0, 1, 5, 6, 7] rfl)
                  · refine lv_iload hx hb dX3_unlike_94 (lv_at hl 0 rfl) ?_
                    refine zz_ineg hx hb dX3_unlike_96 ?_
                    refine lv_goto (tgt := 102) hx hb dX3_unlike_97 (by decide) ?_
                    refine zz_iadd hx hb dX3_unlike_102 ?_
                    refine lv_istore_n (lv' := [(3, .int (zi ((p_unl (fun h => m_rad n hs rs h n 0 (-1)) (fun h => m_rad n' hs' rs' h n' 0 (-1)) (k)) + (-((m_rad n hs rs ((k : Int)) n 0 (-1)) - (m_rad n' hs' rs' ((k : Int)) n' 0 (-1))))))), (7, .int (zi ((m_rad n hs rs ((k : Int)) n 0 (-1)) - (m_rad n' hs' rs' ((k : Int)) n' 0 (-1))))), (6, .int (zi (m_rad n' hs' rs' ((k : Int)) n' 0 (-1)))), (5, .int (zi (m_rad n hs rs ((k : Int)) n 0 (-1)))), (4, .int (zi ((k : Int)))), (2, .int (zi ((q : Int)))), (1, .int (zi ((j : Int)))), (0, .ref m0)]) hx hb dX3_unlike_103 rfl hl (by decide) rfl (fun ls hl => ?_)
                    refine lv_iinc (v := zi (((k : Int)) + (1))) (lv' := [(4, .int (zi (((k : Int)) + (1)))), (3, .int (zi ((p_unl (fun h => m_rad n hs rs h n 0 (-1)) (fun h => m_rad n' hs' rs' h n' 0 (-1)) (k)) + (-((m_rad n hs rs ((k : Int)) n 0 (-1)) - (m_rad n' hs' rs' ((k : Int)) n' 0 (-1))))))), (7, .int (zi ((m_rad n hs rs ((k : Int)) n 0 (-1)) - (m_rad n' hs' rs' ((k : Int)) n' 0 (-1))))), (6, .int (zi (m_rad n' hs' rs' ((k : Int)) n' 0 (-1)))), (5, .int (zi (m_rad n hs rs ((k : Int)) n 0 (-1)))), (2, .int (zi ((q : Int)))), (1, .int (zi ((j : Int)))), (0, .ref m0)]) hx hb dX3_unlike_104 hl (k := 4) rfl (zi_add _ _) (by decide) rfl (fun ls hl => ?_)
                    refine lv_goto (tgt := 37) hx hb dX3_unlike_107 (by decide) ?_
                    have hst : p_unl (fun h => m_rad n hs rs h n 0 (-1)) (fun h => m_rad n' hs' rs' h n' 0 (-1)) (k + 1) = (p_unl (fun h => m_rad n hs rs h n 0 (-1)) (fun h => m_rad n' hs' rs' h n' 0 (-1)) (k)) + (-((m_rad n hs rs ((k : Int)) n 0 (-1)) - (m_rad n' hs' rs' ((k : Int)) n' 0 (-1)))) := by rw [p_unl]; omega
                    rw [← hst] at hl
                    exact ih (k + 1) (by omega) (by omega) H locs (hP.sub [0, 1, 2, 3] rfl) (hD.sub [0, 1, 2, 3] (by decide) rfl) hS ls (lv_sub hl [0, 1, 5, 6, 7] rfl)
                · refine lv_iconst (v := zi (0)) hx hb dX3_unlike_79 rfl ?_
                  refine lv_goto (tgt := 85) hx hb dX3_unlike_80 (by decide) ?_
                  refine zz_isub hx hb dX3_unlike_85 ?_
                  refine lv_istore (lv' := [(7, .int (zi ((m_rad n hs rs ((k : Int)) n 0 (-1)) - (0)))), (6, .int (zi (m_rad n' hs' rs' ((k : Int)) n' 0 (-1)))), (5, .int (zi (m_rad n hs rs ((k : Int)) n 0 (-1)))), (4, .int (zi ((k : Int)))), (3, .int (zi (p_unl (fun h => m_rad n hs rs h n 0 (-1)) (fun h => m_rad n' hs' rs' h n' 0 (-1)) (k)))), (2, .int (zi ((q : Int)))), (1, .int (zi ((j : Int)))), (0, .ref m0)]) hx hb dX3_unlike_86 hl (by decide) rfl (fun ls hl => ?_)
                  refine lv_iload_n hx hb dX3_unlike_88 rfl (lv_at hl 4 rfl) ?_
                  refine lv_iload hx hb dX3_unlike_89 (lv_at hl 0 rfl) ?_
                  refine zz_if_ge (tgt := 100) hx hb (by omega) dX3_unlike_91 (by decide) (fun c_91 => ?_) (fun c_91 => ?_)
                  · refine lv_iload hx hb dX3_unlike_100 (lv_at hl 0 rfl) ?_
                    refine zz_iadd hx hb dX3_unlike_102 ?_
                    refine lv_istore_n (lv' := [(3, .int (zi ((p_unl (fun h => m_rad n hs rs h n 0 (-1)) (fun h => m_rad n' hs' rs' h n' 0 (-1)) (k)) + ((m_rad n hs rs ((k : Int)) n 0 (-1)) - (0))))), (7, .int (zi ((m_rad n hs rs ((k : Int)) n 0 (-1)) - (0)))), (6, .int (zi (m_rad n' hs' rs' ((k : Int)) n' 0 (-1)))), (5, .int (zi (m_rad n hs rs ((k : Int)) n 0 (-1)))), (4, .int (zi ((k : Int)))), (2, .int (zi ((q : Int)))), (1, .int (zi ((j : Int)))), (0, .ref m0)]) hx hb dX3_unlike_103 rfl hl (by decide) rfl (fun ls hl => ?_)
                    refine lv_iinc (v := zi (((k : Int)) + (1))) (lv' := [(4, .int (zi (((k : Int)) + (1)))), (3, .int (zi ((p_unl (fun h => m_rad n hs rs h n 0 (-1)) (fun h => m_rad n' hs' rs' h n' 0 (-1)) (k)) + ((m_rad n hs rs ((k : Int)) n 0 (-1)) - (0))))), (7, .int (zi ((m_rad n hs rs ((k : Int)) n 0 (-1)) - (0)))), (6, .int (zi (m_rad n' hs' rs' ((k : Int)) n' 0 (-1)))), (5, .int (zi (m_rad n hs rs ((k : Int)) n 0 (-1)))), (2, .int (zi ((q : Int)))), (1, .int (zi ((j : Int)))), (0, .ref m0)]) hx hb dX3_unlike_104 hl (k := 4) rfl (zi_add _ _) (by decide) rfl (fun ls hl => ?_)
                    refine lv_goto (tgt := 37) hx hb dX3_unlike_107 (by decide) ?_
                    have hst : p_unl (fun h => m_rad n hs rs h n 0 (-1)) (fun h => m_rad n' hs' rs' h n' 0 (-1)) (k + 1) = (p_unl (fun h => m_rad n hs rs h n 0 (-1)) (fun h => m_rad n' hs' rs' h n' 0 (-1)) (k)) + ((m_rad n hs rs ((k : Int)) n 0 (-1)) - (0)) := by rw [p_unl]; omega
                    rw [← hst] at hl
                    exact ih (k + 1) (by omega) (by omega) H locs (hP.sub [0, 1, 2, 3] rfl) (hD.sub [0, 1, 2, 3] (by decide) rfl) hS ls (lv_sub hl [0, 1, 5, 6, 7] rfl)
                  · refine lv_iload hx hb dX3_unlike_94 (lv_at hl 0 rfl) ?_
                    refine zz_ineg hx hb dX3_unlike_96 ?_
                    refine lv_goto (tgt := 102) hx hb dX3_unlike_97 (by decide) ?_
                    refine zz_iadd hx hb dX3_unlike_102 ?_
                    refine lv_istore_n (lv' := [(3, .int (zi ((p_unl (fun h => m_rad n hs rs h n 0 (-1)) (fun h => m_rad n' hs' rs' h n' 0 (-1)) (k)) + (-((m_rad n hs rs ((k : Int)) n 0 (-1)) - (0)))))), (7, .int (zi ((m_rad n hs rs ((k : Int)) n 0 (-1)) - (0)))), (6, .int (zi (m_rad n' hs' rs' ((k : Int)) n' 0 (-1)))), (5, .int (zi (m_rad n hs rs ((k : Int)) n 0 (-1)))), (4, .int (zi ((k : Int)))), (2, .int (zi ((q : Int)))), (1, .int (zi ((j : Int)))), (0, .ref m0)]) hx hb dX3_unlike_103 rfl hl (by decide) rfl (fun ls hl => ?_)
                    refine lv_iinc (v := zi (((k : Int)) + (1))) (lv' := [(4, .int (zi (((k : Int)) + (1)))), (3, .int (zi ((p_unl (fun h => m_rad n hs rs h n 0 (-1)) (fun h => m_rad n' hs' rs' h n' 0 (-1)) (k)) + (-((m_rad n hs rs ((k : Int)) n 0 (-1)) - (0)))))), (7, .int (zi ((m_rad n hs rs ((k : Int)) n 0 (-1)) - (0)))), (6, .int (zi (m_rad n' hs' rs' ((k : Int)) n' 0 (-1)))), (5, .int (zi (m_rad n hs rs ((k : Int)) n 0 (-1)))), (2, .int (zi ((q : Int)))), (1, .int (zi ((j : Int)))), (0, .ref m0)]) hx hb dX3_unlike_104 hl (k := 4) rfl (zi_add _ _) (by decide) rfl (fun ls hl => ?_)
                    refine lv_goto (tgt := 37) hx hb dX3_unlike_107 (by decide) ?_
                    have hst : p_unl (fun h => m_rad n hs rs h n 0 (-1)) (fun h => m_rad n' hs' rs' h n' 0 (-1)) (k + 1) = (p_unl (fun h => m_rad n hs rs h n 0 (-1)) (fun h => m_rad n' hs' rs' h n' 0 (-1)) (k)) + (-((m_rad n hs rs ((k : Int)) n 0 (-1)) - (0))) := by rw [p_unl]; omega
                    rw [← hst] at hl
                    exact ih (k + 1) (by omega) (by omega) H locs (hP.sub [0, 1, 2, 3] rfl) (hD.sub [0, 1, 2, 3] (by decide) rfl) hS ls (lv_sub hl [0, 1, 5, 6, 7] rfl)
              · refine lv_iconst (v := zi (0)) hx hb dX3_unlike_68 rfl ?_
                refine lv_goto (tgt := 74) hx hb dX3_unlike_69 (by decide) ?_
                refine lv_iload hx hb dX3_unlike_74 (lv_at hl 0 rfl) ?_
                refine zz_if_ge (tgt := 83) hx hb (by omega) dX3_unlike_76 (by decide) (fun c_76 => ?_) (fun c_76 => ?_)
                · refine lv_iload hx hb dX3_unlike_83 (lv_at hl 0 rfl) ?_
                  refine zz_isub hx hb dX3_unlike_85 ?_
                  refine lv_istore (lv' := [(7, .int (zi ((0) - (m_rad n' hs' rs' ((k : Int)) n' 0 (-1))))), (6, .int (zi (m_rad n' hs' rs' ((k : Int)) n' 0 (-1)))), (5, .int (zi (m_rad n hs rs ((k : Int)) n 0 (-1)))), (4, .int (zi ((k : Int)))), (3, .int (zi (p_unl (fun h => m_rad n hs rs h n 0 (-1)) (fun h => m_rad n' hs' rs' h n' 0 (-1)) (k)))), (2, .int (zi ((q : Int)))), (1, .int (zi ((j : Int)))), (0, .ref m0)]) hx hb dX3_unlike_86 hl (by decide) rfl (fun ls hl => ?_)
                  refine lv_iload_n hx hb dX3_unlike_88 rfl (lv_at hl 4 rfl) ?_
                  refine lv_iload hx hb dX3_unlike_89 (lv_at hl 0 rfl) ?_
                  refine zz_if_ge (tgt := 100) hx hb (by omega) dX3_unlike_91 (by decide) (fun c_91 => ?_) (fun c_91 => ?_)
                  · refine lv_iload hx hb dX3_unlike_100 (lv_at hl 0 rfl) ?_
                    refine zz_iadd hx hb dX3_unlike_102 ?_
                    refine lv_istore_n (lv' := [(3, .int (zi ((p_unl (fun h => m_rad n hs rs h n 0 (-1)) (fun h => m_rad n' hs' rs' h n' 0 (-1)) (k)) + ((0) - (m_rad n' hs' rs' ((k : Int)) n' 0 (-1)))))), (7, .int (zi ((0) - (m_rad n' hs' rs' ((k : Int)) n' 0 (-1))))), (6, .int (zi (m_rad n' hs' rs' ((k : Int)) n' 0 (-1)))), (5, .int (zi (m_rad n hs rs ((k : Int)) n 0 (-1)))), (4, .int (zi ((k : Int)))), (2, .int (zi ((q : Int)))), (1, .int (zi ((j : Int)))), (0, .ref m0)]) hx hb dX3_unlike_103 rfl hl (by decide) rfl (fun ls hl => ?_)
                    refine lv_iinc (v := zi (((k : Int)) + (1))) (lv' := [(4, .int (zi (((k : Int)) + (1)))), (3, .int (zi ((p_unl (fun h => m_rad n hs rs h n 0 (-1)) (fun h => m_rad n' hs' rs' h n' 0 (-1)) (k)) + ((0) - (m_rad n' hs' rs' ((k : Int)) n' 0 (-1)))))), (7, .int (zi ((0) - (m_rad n' hs' rs' ((k : Int)) n' 0 (-1))))), (6, .int (zi (m_rad n' hs' rs' ((k : Int)) n' 0 (-1)))), (5, .int (zi (m_rad n hs rs ((k : Int)) n 0 (-1)))), (2, .int (zi ((q : Int)))), (1, .int (zi ((j : Int)))), (0, .ref m0)]) hx hb dX3_unlike_104 hl (k := 4) rfl (zi_add _ _) (by decide) rfl (fun ls hl => ?_)
                    refine lv_goto (tgt := 37) hx hb dX3_unlike_107 (by decide) ?_
                    have hst : p_unl (fun h => m_rad n hs rs h n 0 (-1)) (fun h => m_rad n' hs' rs' h n' 0 (-1)) (k + 1) = (p_unl (fun h => m_rad n hs rs h n 0 (-1)) (fun h => m_rad n' hs' rs' h n' 0 (-1)) (k)) + ((0) - (m_rad n' hs' rs' ((k : Int)) n' 0 (-1))) := by rw [p_unl]; omega
                    rw [← hst] at hl
                    exact ih (k + 1) (by omega) (by omega) H locs (hP.sub [0, 1, 2, 3] rfl) (hD.sub [0, 1, 2, 3] (by decide) rfl) hS ls (lv_sub hl [0, 1, 5, 6, 7] rfl)
                  · refine lv_iload hx hb dX3_unlike_94 (lv_at hl 0 rfl) ?_
                    refine zz_ineg hx hb dX3_unlike_96 ?_
                    refine lv_goto (tgt := 102) hx hb dX3_unlike_97 (by decide) ?_
                    refine zz_iadd hx hb dX3_unlike_102 ?_
                    refine lv_istore_n (lv' := [(3, .int (zi ((p_unl (fun h => m_rad n hs rs h n 0 (-1)) (fun h => m_rad n' hs' rs' h n' 0 (-1)) (k)) + (-((0) - (m_rad n' hs' rs' ((k : Int)) n' 0 (-1))))))), (7, .int (zi ((0) - (m_rad n' hs' rs' ((k : Int)) n' 0 (-1))))), (6, .int (zi (m_rad n' hs' rs' ((k : Int)) n' 0 (-1)))), (5, .int (zi (m_rad n hs rs ((k : Int)) n 0 (-1)))), (4, .int (zi ((k : Int)))), (2, .int (zi ((q : Int)))), (1, .int (zi ((j : Int)))), (0, .ref m0)]) hx hb dX3_unlike_103 rfl hl (by decide) rfl (fun ls hl => ?_)
                    refine lv_iinc (v := zi (((k : Int)) + (1))) (lv' := [(4, .int (zi (((k : Int)) + (1)))), (3, .int (zi ((p_unl (fun h => m_rad n hs rs h n 0 (-1)) (fun h => m_rad n' hs' rs' h n' 0 (-1)) (k)) + (-((0) - (m_rad n' hs' rs' ((k : Int)) n' 0 (-1))))))), (7, .int (zi ((0) - (m_rad n' hs' rs' ((k : Int)) n' 0 (-1))))), (6, .int (zi (m_rad n' hs' rs' ((k : Int)) n' 0 (-1)))), (5, .int (zi (m_rad n hs rs ((k : Int)) n 0 (-1)))), (2, .int (zi ((q : Int)))), (1, .int (zi ((j : Int)))), (0, .ref m0)]) hx hb dX3_unlike_104 hl (k := 4) rfl (zi_add _ _) (by decide) rfl (fun ls hl => ?_)
                    refine lv_goto (tgt := 37) hx hb dX3_unlike_107 (by decide) ?_
                    have hst : p_unl (fun h => m_rad n hs rs h n 0 (-1)) (fun h => m_rad n' hs' rs' h n' 0 (-1)) (k + 1) = (p_unl (fun h => m_rad n hs rs h n 0 (-1)) (fun h => m_rad n' hs' rs' h n' 0 (-1)) (k)) + (-((0) - (m_rad n' hs' rs' ((k : Int)) n' 0 (-1)))) := by rw [p_unl]; omega
                    rw [← hst] at hl
                    exact ih (k + 1) (by omega) (by omega) H locs (hP.sub [0, 1, 2, 3] rfl) (hD.sub [0, 1, 2, 3] (by decide) rfl) hS ls (lv_sub hl [0, 1, 5, 6, 7] rfl)
                · refine lv_iconst (v := zi (0)) hx hb dX3_unlike_79 rfl ?_
                  refine lv_goto (tgt := 85) hx hb dX3_unlike_80 (by decide) ?_
                  refine zz_isub hx hb dX3_unlike_85 ?_
                  refine lv_istore (lv' := [(7, .int (zi ((0) - (0)))), (6, .int (zi (m_rad n' hs' rs' ((k : Int)) n' 0 (-1)))), (5, .int (zi (m_rad n hs rs ((k : Int)) n 0 (-1)))), (4, .int (zi ((k : Int)))), (3, .int (zi (p_unl (fun h => m_rad n hs rs h n 0 (-1)) (fun h => m_rad n' hs' rs' h n' 0 (-1)) (k)))), (2, .int (zi ((q : Int)))), (1, .int (zi ((j : Int)))), (0, .ref m0)]) hx hb dX3_unlike_86 hl (by decide) rfl (fun ls hl => ?_)
                  refine lv_iload_n hx hb dX3_unlike_88 rfl (lv_at hl 4 rfl) ?_
                  refine lv_iload hx hb dX3_unlike_89 (lv_at hl 0 rfl) ?_
                  refine zz_if_ge (tgt := 100) hx hb (by omega) dX3_unlike_91 (by decide) (fun c_91 => ?_) (fun c_91 => ?_)
                  · refine lv_iload hx hb dX3_unlike_100 (lv_at hl 0 rfl) ?_
                    refine zz_iadd hx hb dX3_unlike_102 ?_
                    refine lv_istore_n (lv' := [(3, .int (zi ((p_unl (fun h => m_rad n hs rs h n 0 (-1)) (fun h => m_rad n' hs' rs' h n' 0 (-1)) (k)) + ((0) - (0))))), (7, .int (zi ((0) - (0)))), (6, .int (zi (m_rad n' hs' rs' ((k : Int)) n' 0 (-1)))), (5, .int (zi (m_rad n hs rs ((k : Int)) n 0 (-1)))), (4, .int (zi ((k : Int)))), (2, .int (zi ((q : Int)))), (1, .int (zi ((j : Int)))), (0, .ref m0)]) hx hb dX3_unlike_103 rfl hl (by decide) rfl (fun ls hl => ?_)
                    refine lv_iinc (v := zi (((k : Int)) + (1))) (lv' := [(4, .int (zi (((k : Int)) + (1)))), (3, .int (zi ((p_unl (fun h => m_rad n hs rs h n 0 (-1)) (fun h => m_rad n' hs' rs' h n' 0 (-1)) (k)) + ((0) - (0))))), (7, .int (zi ((0) - (0)))), (6, .int (zi (m_rad n' hs' rs' ((k : Int)) n' 0 (-1)))), (5, .int (zi (m_rad n hs rs ((k : Int)) n 0 (-1)))), (2, .int (zi ((q : Int)))), (1, .int (zi ((j : Int)))), (0, .ref m0)]) hx hb dX3_unlike_104 hl (k := 4) rfl (zi_add _ _) (by decide) rfl (fun ls hl => ?_)
                    refine lv_goto (tgt := 37) hx hb dX3_unlike_107 (by decide) ?_
                    have hst : p_unl (fun h => m_rad n hs rs h n 0 (-1)) (fun h => m_rad n' hs' rs' h n' 0 (-1)) (k + 1) = (p_unl (fun h => m_rad n hs rs h n 0 (-1)) (fun h => m_rad n' hs' rs' h n' 0 (-1)) (k)) + ((0) - (0)) := by rw [p_unl]; omega
                    rw [← hst] at hl
                    exact ih (k + 1) (by omega) (by omega) H locs (hP.sub [0, 1, 2, 3] rfl) (hD.sub [0, 1, 2, 3] (by decide) rfl) hS ls (lv_sub hl [0, 1, 5, 6, 7] rfl)
                  · refine lv_iload hx hb dX3_unlike_94 (lv_at hl 0 rfl) ?_
                    refine zz_ineg hx hb dX3_unlike_96 ?_
                    refine lv_goto (tgt := 102) hx hb dX3_unlike_97 (by decide) ?_
                    refine zz_iadd hx hb dX3_unlike_102 ?_
                    refine lv_istore_n (lv' := [(3, .int (zi ((p_unl (fun h => m_rad n hs rs h n 0 (-1)) (fun h => m_rad n' hs' rs' h n' 0 (-1)) (k)) + (-((0) - (0)))))), (7, .int (zi ((0) - (0)))), (6, .int (zi (m_rad n' hs' rs' ((k : Int)) n' 0 (-1)))), (5, .int (zi (m_rad n hs rs ((k : Int)) n 0 (-1)))), (4, .int (zi ((k : Int)))), (2, .int (zi ((q : Int)))), (1, .int (zi ((j : Int)))), (0, .ref m0)]) hx hb dX3_unlike_103 rfl hl (by decide) rfl (fun ls hl => ?_)
                    refine lv_iinc (v := zi (((k : Int)) + (1))) (lv' := [(4, .int (zi (((k : Int)) + (1)))), (3, .int (zi ((p_unl (fun h => m_rad n hs rs h n 0 (-1)) (fun h => m_rad n' hs' rs' h n' 0 (-1)) (k)) + (-((0) - (0)))))), (7, .int (zi ((0) - (0)))), (6, .int (zi (m_rad n' hs' rs' ((k : Int)) n' 0 (-1)))), (5, .int (zi (m_rad n hs rs ((k : Int)) n 0 (-1)))), (2, .int (zi ((q : Int)))), (1, .int (zi ((j : Int)))), (0, .ref m0)]) hx hb dX3_unlike_104 hl (k := 4) rfl (zi_add _ _) (by decide) rfl (fun ls hl => ?_)
                    refine lv_goto (tgt := 37) hx hb dX3_unlike_107 (by decide) ?_
                    have hst : p_unl (fun h => m_rad n hs rs h n 0 (-1)) (fun h => m_rad n' hs' rs' h n' 0 (-1)) (k + 1) = (p_unl (fun h => m_rad n hs rs h n 0 (-1)) (fun h => m_rad n' hs' rs' h n' 0 (-1)) (k)) + (-((0) - (0))) := by rw [p_unl]; omega
                    rw [← hst] at hl
                    exact ih (k + 1) (by omega) (by omega) H locs (hP.sub [0, 1, 2, 3] rfl) (hD.sub [0, 1, 2, 3] (by decide) rfl) hS ls (lv_sub hl [0, 1, 5, 6, 7] rfl)
        exact key_37 _ 0 (by omega) (Nat.lt_succ_self _) H locs (hP.sub [0, 1, 2, 3] rfl) (hD.sub [0, 1, 2, 3] (by decide) rfl) hS ls (lv_sub hl [0, 1, 4, 3, 2] rfl)
      · exact absurd c_27 (by decide)
    · exact absurd c_14 (by decide)

abbrev rm_X3_cut : Room := { frames := 2, cells := 0, slots := 0, locals := 49 }
set_option maxHeartbeats 4000000 in
set_option maxRecDepth 100000 in
theorem e_cut (l : Launch) (dC : Nat → ClassId) (dI : Nat → Nat → Nat) (sz : Nat) (m0 a1 a2 a3 a4 a5 a6 a7 a8 a9 a10 a11 : Nat) (tw ab be : Int) (mp mb ml mz : Nat) (q h : Int) (hmp : mp ≤ 6) (h_q : -2147483648 ≤ q ∧ q < 2147483648) (h_h : -2147483648 ≤ h ∧ h < 2147483648) (hbad : ¬ (0 ≤ q ∧ q < (mp : Int))) : Met l yX3_cut (Cond.code yX3_cut cX3_cut 5 ((Option.some Jvm.ClassFile.FieldType.boolean)) :: gw) rm_X3_cut (PcW [.ref m0, .int (zi (q)), .int (zi (h))] (dC, dI) vwCl [(m0, .inr (3, [.int (zi (tw)), .int (zi ((mp : Int))), .ref a1, .ref a2, .ref a3, .ref a4, .ref a5, .ref a6, .int (zi ((mb : Int))), .ref a7, .ref a8, .int (zi ((ml : Int))), .ref a9, .ref a10, .int (zi ((mz : Int))), .ref a11, .long (zl (ab)), .long (zl (be))]))] [] sz) (WrQ (some (.int (zi 0))) (dC, dI) vwCl [(m0, .inr (3, [.int (zi (1)), .int (zi ((mp : Int))), .ref a1, .ref a2, .ref a3, .ref a4, .ref a5, .ref a6, .int (zi ((mb : Int))), .ref a7, .ref a8, .int (zi ((ml : Int))), .ref a9, .ref a10, .int (zi ((mz : Int))), .ref a11, .long (zl (ab)), .long (zl (be))]))] (va_A [(m0, .inr (3, [.int (zi (tw)), .int (zi ((mp : Int))), .ref a1, .ref a2, .ref a3, .ref a4, .ref a5, .ref a6, .int (zi ((mb : Int))), .ref a7, .ref a8, .int (zi ((ml : Int))), .ref a9, .ref a10, .int (zi ((mz : Int))), .ref a11, .long (zl (ab)), .long (zl (be))]))] sz)) 0 0 (va_A [(m0, .inr (3, [.int (zi (tw)), .int (zi ((mp : Int))), .ref a1, .ref a2, .ref a3, .ref a4, .ref a5, .ref a6, .int (zi ((mb : Int))), .ref a7, .ref a8, .int (zi ((ml : Int))), .ref a9, .ref a10, .int (zi ((mz : Int))), .ref a11, .long (zl (ab)), .long (zl (be))]))] sz) := by
  refine Met.ofW (cc := cX3_cut) (maxL := 5) (ret := ((Option.some Jvm.ClassFile.FieldType.boolean))) (by decide) rfl ?_
  intro p e s m args below meth c s₁ B hml hv
  obtain ⟨hargs, hsz, hP, hK, hD0⟩ := hv
  have hx := B.exec
  have hb := B.bytes
  have hr := B.returns
  have hts := atoms_spec (ws := Cond.code yX3_cut cX3_cut 5 ((Option.some Jvm.ClassFile.FieldType.boolean)) :: gw) B.pre
  have hg : ∀ w ∈ gw, w.before args s = true := fun w h => hts w (List.mem_cons_of_mem _ h)
  have hown : s.vm.findClass RX3 = some m.cls := findClass_of_methodNamed B.named
  have hlocks := B.notSynchronized
  subst hsz
  have hD := hD0.self (sz := s.heap.size)
  generalize hAe : va_A [(m0, .inr (3, [.int (zi (tw)), .int (zi ((mp : Int))), .ref a1, .ref a2, .ref a3, .ref a4, .ref a5, .ref a6, .int (zi ((mb : Int))), .ref a7, .ref a8, .int (zi ((ml : Int))), .ref a9, .ref a10, .int (zi ((mz : Int))), .ref a11, .long (zl (ab)), .long (zl (be))]))] s.heap.size = A at hD ⊢
  have hA : ∀ q : Nat, s.heap.size ≤ q → A q := fun q h => by rw [← hAe]; exact Or.inr h
  show W p l e rm_X3_cut s m args below meth c s.heap [] 0 0 _ _
  have hl := lv_entry ([.ref m0, .int (zi (q)), .int (zi (h))]) (n := 5) (Nat.le_of_ble_eq_true rfl)
  rw [show entryFrame m args 5 = entryFrame m ([.ref m0, .int (zi (q)), .int (zi (h))] : List Value).toArray 5 by rw [hargs], lg_entry_eq]
  generalize (lg_sl ([.ref m0, .int (zi (q)), .int (zi (h))]) ++ List.replicate (5 - (lg_sl ([.ref m0, .int (zi (q)), .int (zi (h))])).length) Slot.unset).toArray = ls at hl ⊢
  have hl : lv_has ls 5 [(0, .ref m0), (1, .int (zi (q))), (2, .int (zi (h)))] := hl
  obtain ⟨QQ, hQQ⟩ : ∃ Q, Q = MQ below (WrQ (some (.int (zi 0))) (dC, dI) vwCl [(m0, .inr (3, [.int (zi (1)), .int (zi ((mp : Int))), .ref a1, .ref a2, .ref a3, .ref a4, .ref a5, .ref a6, .int (zi ((mb : Int))), .ref a7, .ref a8, .int (zi ((ml : Int))), .ref a9, .ref a10, .int (zi ((mz : Int))), .ref a11, .long (zl (ab)), .long (zl (be))]))] A) args s 0 0 A := ⟨_, rfl⟩
  rw [← hQQ]
  obtain ⟨H, hHe⟩ : ∃ H : Heap, H = s.heap := ⟨_, rfl⟩
  obtain ⟨locs, hlc⟩ : ∃ x : List Loc, x = [] := ⟨_, rfl⟩
  have hS : va_S A s.heap H locs := by rw [hHe, hlc]; exact va_S.rf
  have hP : va_P (dC, dI) vwCl [(m0, .inr (3, [.int (zi (tw)), .int (zi ((mp : Int))), .ref a1, .ref a2, .ref a3, .ref a4, .ref a5, .ref a6, .int (zi ((mb : Int))), .ref a7, .ref a8, .int (zi ((ml : Int))), .ref a9, .ref a10, .int (zi ((mz : Int))), .ref a11, .long (zl (ab)), .long (zl (be))]))] H := by rw [hHe]; exact hP
  have hD : va_D A [(m0, .inr (3, [.int (zi (tw)), .int (zi ((mp : Int))), .ref a1, .ref a2, .ref a3, .ref a4, .ref a5, .ref a6, .int (zi ((mb : Int))), .ref a7, .ref a8, .int (zi ((ml : Int))), .ref a9, .ref a10, .int (zi ((mz : Int))), .ref a11, .long (zl (ab)), .long (zl (be))]))] := hD
  rw [← hHe, ← hlc]
  refine lv_aload_n hx hb dX3_cut_0 rfl (lv_at hl 0 rfl) ?_
  refine lv_aload_n hx hb dX3_cut_1 rfl (lv_at hl 0 rfl) ?_
  refine lv_iload_n hx hb dX3_cut_2 rfl (lv_at hl 1 rfl) ?_
  refine rdV (As := [.int (zi (q))]) (rest := [.ref m0]) (n := 1) hx hb hml hown hg (c_X3_isProfile l dC dI m0 a1 a2 a3 a4 a5 a6 a7 a8 a9 a10 a11 (tw) (ab) (be) mp mb ml mz (q) hmp (by omega)) (gwV wl_X3_70 wm_X3_isProfile we_X3_isProfile wi_X3 wc_X3_isProfile) rfl rfl (by decide +kernel) ⟨Nat.le_of_ble_eq_true rfl, Nat.le_of_ble_eq_true rfl⟩ (hK.sub [] rfl) (hP.sub [0] rfl) 0 rfl rfl rfl rfl hl.1 rfl (Nat.le_of_ble_eq_true rfl) dX3_cut_3 ⟨Nat.zero_le _, Nat.zero_le _⟩ ?_
  refine zz_zb_ne (tgt := 13) hx hb dX3_cut_6 (by decide) (fun c_6 => ?_) (fun c_6 => ?_)
  · exact False.elim (by omega)
  · refine lv_iconst (v := zi (1)) hx hb dX3_cut_9 rfl ?_
    refine lv_goto (tgt := 14) hx hb dX3_cut_10 (by decide) ?_
    refine lv_iconst (v := zi (0)) hx hb dX3_cut_14 rfl ?_
    refine lv_iconst (v := zi (0)) hx hb dX3_cut_15 rfl ?_
    refine wrV (As := [.int (zi (1)), .int (zi (0)), .int (zi (0))]) (rest := []) (n := 3) (ws' := [(m0, .inr (3, [.int (zi (1)), .int (zi ((mp : Int))), .ref a1, .ref a2, .ref a3, .ref a4, .ref a5, .ref a6, .int (zi ((mb : Int))), .ref a7, .ref a8, .int (zi ((ml : Int))), .ref a9, .ref a10, .int (zi ((mz : Int))), .ref a11, .long (zl (ab)), .long (zl (be))]))]) hx hb hml hown hg (c_throwing l dC dI H.size m0 a1 a2 a3 a4 a5 a6 a7 a8 a9 a10 a11 (tw) (ab) (be) mp mb ml mz 1 0 0 (by decide) (by decide) (by decide)) (gwV wl_X3_59 wm_X3_throwing we_X3_throwing wi_X3 wc_X3_throwing) rfl rfl (by decide +kernel) ⟨Nat.le_of_ble_eq_true rfl, Nat.le_of_ble_eq_true rfl⟩ (hK.sub [] rfl) hP hD hS hA [0] rfl (by decide) [(true, 0)] rfl (by decide) rfl 0 rfl rfl rfl rfl hl.1 rfl (Nat.le_of_ble_eq_true rfl) dX3_cut_16 ⟨Nat.zero_le _, Nat.zero_le _⟩ (fun H locs hP hD hS => ?_)
    refine zz_topi (z := 1) (congrArg zi (by decide)) ?_
    refine zz_if_eq (tgt := 24) hx hb (by omega) dX3_cut_19 (by decide) (fun c_19 => ?_) (fun c_19 => ?_)
    · exact absurd c_19 (by decide)
    · refine lv_iconst (v := zi (0)) hx hb dX3_cut_22 rfl ?_
      have hP9 : va_P (dC, dI) vwCl [(m0, .inr (3, [.int (zi (1)), .int (zi ((mp : Int))), .ref a1, .ref a2, .ref a3, .ref a4, .ref a5, .ref a6, .int (zi ((mb : Int))), .ref a7, .ref a8, .int (zi ((ml : Int))), .ref a9, .ref a10, .int (zi ((mz : Int))), .ref a11, .long (zl (ab)), .long (zl (be))]))] H := hP
      rw [hQQ]
      exact wr_z hx hb hr hlocks rfl (by first | exact Or.inl rfl | exact Or.inr rfl | exact zb_01 _ | omega) hP9 hS dX3_cut_23

set_option maxHeartbeats 4000000 in
set_option maxRecDepth 100000 in
theorem k_cut_n (l : Launch) (dC : Nat → ClassId) (dI : Nat → Nat → Nat) (sz : Nat) (m0 a1 a2 a3 a4 a5 a6 a7 a8 a9 a10 a11 : Nat) (tw ab be : Int) (mp mb ml mz : Nat) (cA cZ : ClassId) (j n : Nat) (sf hh rr hs rs : Nat → Int) (cf : Nat → Int) (h : Int) (hj : j < 6) (hsf : sf j = (n : Int)) (hhs : ∀ k, k < 12 → hh (12 * j + k) = hs k) (hrs : ∀ k, k < 12 → rr (12 * j + k) = rs k) (hn : n ≤ 12) (hH : ∀ j, 0 ≤ hs j ∧ hs j ≤ 400) (hR : ∀ j, 0 ≤ rs j ∧ rs j ≤ 200) (hmp : mp ≤ 6) (hjp : j < mp) (wc : Int) (hcf9 : cf j = wc) (hw : wc = 0 ∨ wc = 1) (h_h : -2147483648 ≤ h ∧ h < 2147483648) (hy : wc = 1 ∨ n = 0 ∨ h ≤ hs 0 ∨ hs (n - 1) ≤ h) : Met l yX3_cut (Cond.code yX3_cut cX3_cut 5 ((Option.some Jvm.ClassFile.FieldType.boolean)) :: gw) rm_X3_cut (PcW [.ref m0, .int (zi ((j : Int))), .int (zi (h))] (dC, dI) vwCl [(m0, .inr (3, [.int (zi (tw)), .int (zi ((mp : Int))), .ref a1, .ref a2, .ref a3, .ref a4, .ref a5, .ref a6, .int (zi ((mb : Int))), .ref a7, .ref a8, .int (zi ((ml : Int))), .ref a9, .ref a10, .int (zi ((mz : Int))), .ref a11, .long (zl (ab)), .long (zl (be))])), (a1, .inl (cA, 6, .inl (zA (sf)))), (a2, .inl (cA, 72, .inl (zA (hh)))), (a3, .inl (cA, 72, .inl (zA (rr)))), (a4, .inl (cZ, 6, .inl (zA (cf))))] [(cA, .int), (cZ, .boolean)] sz) (WrQ (some (.int (zi 0))) (dC, dI) vwCl [(m0, .inr (3, [.int (zi (0)), .int (zi ((mp : Int))), .ref a1, .ref a2, .ref a3, .ref a4, .ref a5, .ref a6, .int (zi ((mb : Int))), .ref a7, .ref a8, .int (zi ((ml : Int))), .ref a9, .ref a10, .int (zi ((mz : Int))), .ref a11, .long (zl (ab)), .long (zl (be))])), (a1, .inl (cA, 6, .inl (zA (sf)))), (a2, .inl (cA, 72, .inl (zA (hh)))), (a3, .inl (cA, 72, .inl (zA (rr)))), (a4, .inl (cZ, 6, .inl (zA (cf))))] (va_A [(m0, .inr (3, [.int (zi (tw)), .int (zi ((mp : Int))), .ref a1, .ref a2, .ref a3, .ref a4, .ref a5, .ref a6, .int (zi ((mb : Int))), .ref a7, .ref a8, .int (zi ((ml : Int))), .ref a9, .ref a10, .int (zi ((mz : Int))), .ref a11, .long (zl (ab)), .long (zl (be))])), (a1, .inl (cA, 6, .inl (zA (sf)))), (a2, .inl (cA, 72, .inl (zA (hh)))), (a3, .inl (cA, 72, .inl (zA (rr)))), (a4, .inl (cZ, 6, .inl (zA (cf))))] sz)) 0 0 (va_A [(m0, .inr (3, [.int (zi (tw)), .int (zi ((mp : Int))), .ref a1, .ref a2, .ref a3, .ref a4, .ref a5, .ref a6, .int (zi ((mb : Int))), .ref a7, .ref a8, .int (zi ((ml : Int))), .ref a9, .ref a10, .int (zi ((mz : Int))), .ref a11, .long (zl (ab)), .long (zl (be))])), (a1, .inl (cA, 6, .inl (zA (sf)))), (a2, .inl (cA, 72, .inl (zA (hh)))), (a3, .inl (cA, 72, .inl (zA (rr)))), (a4, .inl (cZ, 6, .inl (zA (cf))))] sz) := by
  refine Met.ofW (cc := cX3_cut) (maxL := 5) (ret := ((Option.some Jvm.ClassFile.FieldType.boolean))) (by decide) rfl ?_
  intro p e s m args below meth c s₁ B hml hv
  obtain ⟨hargs, hsz, hP, hK, hD0⟩ := hv
  have hx := B.exec
  have hb := B.bytes
  have hr := B.returns
  have hts := atoms_spec (ws := Cond.code yX3_cut cX3_cut 5 ((Option.some Jvm.ClassFile.FieldType.boolean)) :: gw) B.pre
  have hg : ∀ w ∈ gw, w.before args s = true := fun w h => hts w (List.mem_cons_of_mem _ h)
  have hown : s.vm.findClass RX3 = some m.cls := findClass_of_methodNamed B.named
  have hlocks := B.notSynchronized
  subst hsz
  have hD := hD0.self (sz := s.heap.size)
  generalize hAe : va_A [(m0, .inr (3, [.int (zi (tw)), .int (zi ((mp : Int))), .ref a1, .ref a2, .ref a3, .ref a4, .ref a5, .ref a6, .int (zi ((mb : Int))), .ref a7, .ref a8, .int (zi ((ml : Int))), .ref a9, .ref a10, .int (zi ((mz : Int))), .ref a11, .long (zl (ab)), .long (zl (be))])), (a1, .inl (cA, 6, .inl (zA (sf)))), (a2, .inl (cA, 72, .inl (zA (hh)))), (a3, .inl (cA, 72, .inl (zA (rr)))), (a4, .inl (cZ, 6, .inl (zA (cf))))] s.heap.size = A at hD ⊢
  have hA : ∀ q : Nat, s.heap.size ≤ q → A q := fun q h => by rw [← hAe]; exact Or.inr h
  show W p l e rm_X3_cut s m args below meth c s.heap [] 0 0 _ _
  have hl := lv_entry ([.ref m0, .int (zi ((j : Int))), .int (zi (h))]) (n := 5) (Nat.le_of_ble_eq_true rfl)
  rw [show entryFrame m args 5 = entryFrame m ([.ref m0, .int (zi ((j : Int))), .int (zi (h))] : List Value).toArray 5 by rw [hargs], lg_entry_eq]
  generalize (lg_sl ([.ref m0, .int (zi ((j : Int))), .int (zi (h))]) ++ List.replicate (5 - (lg_sl ([.ref m0, .int (zi ((j : Int))), .int (zi (h))])).length) Slot.unset).toArray = ls at hl ⊢
  have hl : lv_has ls 5 [(0, .ref m0), (1, .int (zi ((j : Int)))), (2, .int (zi (h)))] := hl
  obtain ⟨QQ, hQQ⟩ : ∃ Q, Q = MQ below (WrQ (some (.int (zi 0))) (dC, dI) vwCl [(m0, .inr (3, [.int (zi (0)), .int (zi ((mp : Int))), .ref a1, .ref a2, .ref a3, .ref a4, .ref a5, .ref a6, .int (zi ((mb : Int))), .ref a7, .ref a8, .int (zi ((ml : Int))), .ref a9, .ref a10, .int (zi ((mz : Int))), .ref a11, .long (zl (ab)), .long (zl (be))])), (a1, .inl (cA, 6, .inl (zA (sf)))), (a2, .inl (cA, 72, .inl (zA (hh)))), (a3, .inl (cA, 72, .inl (zA (rr)))), (a4, .inl (cZ, 6, .inl (zA (cf))))] A) args s 0 0 A := ⟨_, rfl⟩
  rw [← hQQ]
  obtain ⟨H, hHe⟩ : ∃ H : Heap, H = s.heap := ⟨_, rfl⟩
  obtain ⟨locs, hlc⟩ : ∃ x : List Loc, x = [] := ⟨_, rfl⟩
  have hS : va_S A s.heap H locs := by rw [hHe, hlc]; exact va_S.rf
  have hP : va_P (dC, dI) vwCl [(m0, .inr (3, [.int (zi (tw)), .int (zi ((mp : Int))), .ref a1, .ref a2, .ref a3, .ref a4, .ref a5, .ref a6, .int (zi ((mb : Int))), .ref a7, .ref a8, .int (zi ((ml : Int))), .ref a9, .ref a10, .int (zi ((mz : Int))), .ref a11, .long (zl (ab)), .long (zl (be))])), (a1, .inl (cA, 6, .inl (zA (sf)))), (a2, .inl (cA, 72, .inl (zA (hh)))), (a3, .inl (cA, 72, .inl (zA (rr)))), (a4, .inl (cZ, 6, .inl (zA (cf))))] H := by rw [hHe]; exact hP
  have hD : va_D A [(m0, .inr (3, [.int (zi (tw)), .int (zi ((mp : Int))), .ref a1, .ref a2, .ref a3, .ref a4, .ref a5, .ref a6, .int (zi ((mb : Int))), .ref a7, .ref a8, .int (zi ((ml : Int))), .ref a9, .ref a10, .int (zi ((mz : Int))), .ref a11, .long (zl (ab)), .long (zl (be))])), (a1, .inl (cA, 6, .inl (zA (sf)))), (a2, .inl (cA, 72, .inl (zA (hh)))), (a3, .inl (cA, 72, .inl (zA (rr)))), (a4, .inl (cZ, 6, .inl (zA (cf))))] := hD
  rw [← hHe, ← hlc]
  refine lv_aload_n hx hb dX3_cut_0 rfl (lv_at hl 0 rfl) ?_
  refine lv_aload_n hx hb dX3_cut_1 rfl (lv_at hl 0 rfl) ?_
  refine lv_iload_n hx hb dX3_cut_2 rfl (lv_at hl 1 rfl) ?_
  refine rdV (As := [.int (zi ((j : Int)))]) (rest := [.ref m0]) (n := 1) hx hb hml hown hg (c_X3_isProfile l dC dI m0 a1 a2 a3 a4 a5 a6 a7 a8 a9 a10 a11 (tw) (ab) (be) mp mb ml mz ((j : Int)) hmp (by omega)) (gwV wl_X3_70 wm_X3_isProfile we_X3_isProfile wi_X3 wc_X3_isProfile) rfl rfl (by decide +kernel) ⟨Nat.le_of_ble_eq_true rfl, Nat.le_of_ble_eq_true rfl⟩ (hK.sub [] rfl) (hP.sub [0] rfl) 0 rfl rfl rfl rfl hl.1 rfl (Nat.le_of_ble_eq_true rfl) dX3_cut_3 ⟨Nat.zero_le _, Nat.zero_le _⟩ ?_
  refine zz_topi (z := 1) (congrArg zi (zb_t (decide_eq_true (by omega)))) ?_
  refine zz_if_ne (tgt := 13) hx hb (by omega) dX3_cut_6 (by decide) (fun c_6 => ?_) (fun c_6 => ?_)
  · refine lv_iconst (v := zi (0)) hx hb dX3_cut_13 rfl ?_
    refine lv_iconst (v := zi (0)) hx hb dX3_cut_14 rfl ?_
    refine lv_iconst (v := zi (0)) hx hb dX3_cut_15 rfl ?_
    refine wrV (As := [.int (zi (0)), .int (zi (0)), .int (zi (0))]) (rest := []) (n := 3) (ws' := [(m0, .inr (3, [.int (zi (0)), .int (zi ((mp : Int))), .ref a1, .ref a2, .ref a3, .ref a4, .ref a5, .ref a6, .int (zi ((mb : Int))), .ref a7, .ref a8, .int (zi ((ml : Int))), .ref a9, .ref a10, .int (zi ((mz : Int))), .ref a11, .long (zl (ab)), .long (zl (be))])), (a1, .inl (cA, 6, .inl (zA (sf)))), (a2, .inl (cA, 72, .inl (zA (hh)))), (a3, .inl (cA, 72, .inl (zA (rr)))), (a4, .inl (cZ, 6, .inl (zA (cf))))]) hx hb hml hown hg (c_throwing l dC dI H.size m0 a1 a2 a3 a4 a5 a6 a7 a8 a9 a10 a11 (tw) (ab) (be) mp mb ml mz 0 0 0 (by decide) (by decide) (by decide)) (gwV wl_X3_59 wm_X3_throwing we_X3_throwing wi_X3 wc_X3_throwing) rfl rfl (by decide +kernel) ⟨Nat.le_of_ble_eq_true rfl, Nat.le_of_ble_eq_true rfl⟩ (hK.sub [] rfl) hP hD hS hA [0] rfl (by decide) [(true, 0), (false, 1), (false, 2), (false, 3), (false, 4)] rfl (by decide) rfl 0 rfl rfl rfl rfl hl.1 rfl (Nat.le_of_ble_eq_true rfl) dX3_cut_16 ⟨Nat.zero_le _, Nat.zero_le _⟩ (fun H locs hP hD hS => ?_)
    refine zz_topi (z := 0) (congrArg zi (by decide)) ?_
    refine zz_if_eq (tgt := 24) hx hb (by omega) dX3_cut_19 (by decide) (fun c_19 => ?_) (fun c_19 => ?_)
    · refine lv_aload_n hx hb dX3_cut_24 rfl (lv_at hl 0 rfl) ?_
      refine va_get (D := (dC, dI)) (ci := 3) (v := .ref a1) (C := RX3) (T := TX3) (N := 18) hx hb hg inX3 hown hK hP 0 rfl rfl 2 (by decide) (hg _ wl_X3_7) (fun _ h9 => h9) rfl dX3_cut_25 ?_
      refine lv_iload_n hx hb dX3_cut_28 rfl (lv_at hl 1 rfl) ?_
      refine zz_iald hx hb hK hP 1 0 rfl rfl (j) (by omega) (by omega) (by decide) dX3_cut_29 ?_
      refine zz_topi (z := (n : Int)) (congrArg zi hsf) ?_
      refine lv_istore_n (lv' := [(3, .int (zi ((n : Int)))), (0, .ref m0), (1, .int (zi ((j : Int)))), (2, .int (zi (h)))]) hx hb dX3_cut_30 rfl hl (by decide) rfl (fun ls hl => ?_)
      refine lv_aload_n hx hb dX3_cut_31 rfl (lv_at hl 1 rfl) ?_
      refine va_get (D := (dC, dI)) (ci := 3) (v := .ref a4) (C := RX3) (T := TX3) (N := 18) hx hb hg inX3 hown hK hP 0 rfl rfl 5 (by decide) (hg _ wl_X3_19) (fun _ h9 => h9) rfl dX3_cut_32 ?_
      refine lv_iload_n hx hb dX3_cut_35 rfl (lv_at hl 2 rfl) ?_
      refine zz_zald hx hb hK hP 4 1 rfl rfl (j) (by omega) (by omega) (by decide) dX3_cut_36 ?_
      refine zz_topi (z := wc) (congrArg zi hcf9) ?_
      refine zz_if_ne (tgt := 66) hx hb (by omega) dX3_cut_37 (by decide) (fun c_37 => ?_) (fun c_37 => ?_)
      · refine lv_iconst (v := zi (0)) hx hb dX3_cut_66 rfl ?_
        have hP9 : va_P (dC, dI) vwCl [(m0, .inr (3, [.int (zi (0)), .int (zi ((mp : Int))), .ref a1, .ref a2, .ref a3, .ref a4, .ref a5, .ref a6, .int (zi ((mb : Int))), .ref a7, .ref a8, .int (zi ((ml : Int))), .ref a9, .ref a10, .int (zi ((mz : Int))), .ref a11, .long (zl (ab)), .long (zl (be))])), (a1, .inl (cA, 6, .inl (zA (sf)))), (a2, .inl (cA, 72, .inl (zA (hh)))), (a3, .inl (cA, 72, .inl (zA (rr)))), (a4, .inl (cZ, 6, .inl (zA (cf))))] H := hP
        rw [hQQ]
        exact wr_z hx hb hr hlocks rfl (by first | exact Or.inl rfl | exact Or.inr rfl | exact zb_01 _ | omega) hP9 hS dX3_cut_67
      · refine lv_iload_n hx hb dX3_cut_40 rfl (lv_at hl 0 rfl) ?_
        refine zz_if_eq (tgt := 66) hx hb (by omega) dX3_cut_41 (by decide) (fun c_41 => ?_) (fun c_41 => ?_)
        · refine lv_iconst (v := zi (0)) hx hb dX3_cut_66 rfl ?_
          have hP9 : va_P (dC, dI) vwCl [(m0, .inr (3, [.int (zi (0)), .int (zi ((mp : Int))), .ref a1, .ref a2, .ref a3, .ref a4, .ref a5, .ref a6, .int (zi ((mb : Int))), .ref a7, .ref a8, .int (zi ((ml : Int))), .ref a9, .ref a10, .int (zi ((mz : Int))), .ref a11, .long (zl (ab)), .long (zl (be))])), (a1, .inl (cA, 6, .inl (zA (sf)))), (a2, .inl (cA, 72, .inl (zA (hh)))), (a3, .inl (cA, 72, .inl (zA (rr)))), (a4, .inl (cZ, 6, .inl (zA (cf))))] H := hP
          rw [hQQ]
          exact wr_z hx hb hr hlocks rfl (by first | exact Or.inl rfl | exact Or.inr rfl | exact zb_01 _ | omega) hP9 hS dX3_cut_67
        · refine lv_iload_n hx hb dX3_cut_44 rfl (lv_at hl 3 rfl) ?_
          refine lv_aload_n hx hb dX3_cut_45 rfl (lv_at hl 1 rfl) ?_
          refine lv_iload_n hx hb dX3_cut_46 rfl (lv_at hl 2 rfl) ?_
          refine lv_iconst (v := zi (0)) hx hb dX3_cut_47 rfl ?_
          refine zz_topi (z := ((0 : Nat) : Int)) (congrArg zi (by omega)) ?_
          refine rdV (As := [.int (zi ((j : Int))), .int (zi (((0 : Nat) : Int)))]) (rest := [.int (zi (h))]) (n := 2) hx hb hml hown hg (c_X3_height l dC dI m0 a1 a2 a3 a4 a5 a6 a7 a8 a9 a10 a11 (0) (ab) (be) mp mb ml mz cA j hh hs (0) hj hhs (by omega)) (gwV wl_X3_63 wm_X3_height we_X3_height wi_X3 wc_X3_height) rfl rfl (by decide +kernel) ⟨Nat.le_of_ble_eq_true rfl, Nat.le_of_ble_eq_true rfl⟩ (hK.sub [0] rfl) (hP.sub [0, 2] rfl) 0 rfl rfl rfl rfl hl.1 rfl (Nat.le_of_ble_eq_true rfl) dX3_cut_48 ⟨Nat.zero_le _, Nat.zero_le _⟩ ?_
          have hv_1 := hH (0)
          refine zz_icmp_le (tgt := 66) hx hb (by omega) (by omega) dX3_cut_51 (by decide) (fun c_51 => ?_) (fun c_51 => ?_)
          · refine lv_iconst (v := zi (0)) hx hb dX3_cut_66 rfl ?_
            have hP9 : va_P (dC, dI) vwCl [(m0, .inr (3, [.int (zi (0)), .int (zi ((mp : Int))), .ref a1, .ref a2, .ref a3, .ref a4, .ref a5, .ref a6, .int (zi ((mb : Int))), .ref a7, .ref a8, .int (zi ((ml : Int))), .ref a9, .ref a10, .int (zi ((mz : Int))), .ref a11, .long (zl (ab)), .long (zl (be))])), (a1, .inl (cA, 6, .inl (zA (sf)))), (a2, .inl (cA, 72, .inl (zA (hh)))), (a3, .inl (cA, 72, .inl (zA (rr)))), (a4, .inl (cZ, 6, .inl (zA (cf))))] H := hP
            rw [hQQ]
            exact wr_z hx hb hr hlocks rfl (by first | exact Or.inl rfl | exact Or.inr rfl | exact zb_01 _ | omega) hP9 hS dX3_cut_67
          · refine lv_iload_n hx hb dX3_cut_54 rfl (lv_at hl 3 rfl) ?_
            refine lv_aload_n hx hb dX3_cut_55 rfl (lv_at hl 1 rfl) ?_
            refine lv_iload_n hx hb dX3_cut_56 rfl (lv_at hl 2 rfl) ?_
            refine lv_iload_n hx hb dX3_cut_57 rfl (lv_at hl 0 rfl) ?_
            refine lv_iconst (v := zi (1)) hx hb dX3_cut_58 rfl ?_
            refine zz_isub hx hb dX3_cut_59 ?_
            refine zz_topi (z := ((n - 1 : Nat) : Int)) (congrArg zi (by omega)) ?_
            refine rdV (As := [.int (zi ((j : Int))), .int (zi (((n - 1 : Nat) : Int)))]) (rest := [.int (zi (h))]) (n := 2) hx hb hml hown hg (c_X3_height l dC dI m0 a1 a2 a3 a4 a5 a6 a7 a8 a9 a10 a11 (0) (ab) (be) mp mb ml mz cA j hh hs (n - 1) hj hhs (by omega)) (gwV wl_X3_63 wm_X3_height we_X3_height wi_X3 wc_X3_height) rfl rfl (by decide +kernel) ⟨Nat.le_of_ble_eq_true rfl, Nat.le_of_ble_eq_true rfl⟩ (hK.sub [0] rfl) (hP.sub [0, 2] rfl) 0 rfl rfl rfl rfl hl.1 rfl (Nat.le_of_ble_eq_true rfl) dX3_cut_60 ⟨Nat.zero_le _, Nat.zero_le _⟩ ?_
            have hv_2 := hH (n - 1)
            refine zz_icmp_lt (tgt := 68) hx hb (by omega) (by omega) dX3_cut_63 (by decide) (fun c_63 => ?_) (fun c_63 => ?_)
            · exact absurd hy (by omega)
            · refine lv_iconst (v := zi (0)) hx hb dX3_cut_66 rfl ?_
              have hP9 : va_P (dC, dI) vwCl [(m0, .inr (3, [.int (zi (0)), .int (zi ((mp : Int))), .ref a1, .ref a2, .ref a3, .ref a4, .ref a5, .ref a6, .int (zi ((mb : Int))), .ref a7, .ref a8, .int (zi ((ml : Int))), .ref a9, .ref a10, .int (zi ((mz : Int))), .ref a11, .long (zl (ab)), .long (zl (be))])), (a1, .inl (cA, 6, .inl (zA (sf)))), (a2, .inl (cA, 72, .inl (zA (hh)))), (a3, .inl (cA, 72, .inl (zA (rr)))), (a4, .inl (cZ, 6, .inl (zA (cf))))] H := hP
              rw [hQQ]
              exact wr_z hx hb hr hlocks rfl (by first | exact Or.inl rfl | exact Or.inr rfl | exact zb_01 _ | omega) hP9 hS dX3_cut_67
    · exact absurd c_19 (by decide)
  · exact absurd c_6 (by decide)

set_option maxHeartbeats 4000000 in
set_option maxRecDepth 100000 in
theorem k_cut_a (l : Launch) (dC : Nat → ClassId) (dI : Nat → Nat → Nat) (sz : Nat) (m0 a1 a2 a3 a4 a5 a6 a7 a8 a9 a10 a11 : Nat) (tw ab be : Int) (mp mb ml mz : Nat) (cA cZ : ClassId) (j n : Nat) (sf hh rr hs rs : Nat → Int) (cf : Nat → Int) (h : Int) (hj : j < 6) (hsf : sf j = (n : Int)) (hhs : ∀ k, k < 12 → hh (12 * j + k) = hs k) (hrs : ∀ k, k < 12 → rr (12 * j + k) = rs k) (hn : n ≤ 12) (hH : ∀ j, 0 ≤ hs j ∧ hs j ≤ 400) (hR : ∀ j, 0 ≤ rs j ∧ rs j ≤ 200) (hmp : mp ≤ 6) (hjp : j < mp) (wc : Int) (hcf9 : cf j = wc) (hw : wc = 0 ∨ wc = 1) (h_h : -2147483648 ≤ h ∧ h < 2147483648) (hy : wc = 0 ∧ 0 < n ∧ hs 0 < h ∧ h < hs (n - 1)) (hc1 : hs (m_ct hs h n - 1) < h) : Met l yX3_cut (Cond.code yX3_cut cX3_cut 5 ((Option.some Jvm.ClassFile.FieldType.boolean)) :: gw) rm_X3_cut (PcW [.ref m0, .int (zi ((j : Int))), .int (zi (h))] (dC, dI) vwCl [(m0, .inr (3, [.int (zi (tw)), .int (zi ((mp : Int))), .ref a1, .ref a2, .ref a3, .ref a4, .ref a5, .ref a6, .int (zi ((mb : Int))), .ref a7, .ref a8, .int (zi ((ml : Int))), .ref a9, .ref a10, .int (zi ((mz : Int))), .ref a11, .long (zl (ab)), .long (zl (be))])), (a1, .inl (cA, 6, .inl (zA (sf)))), (a2, .inl (cA, 72, .inl (zA (hh)))), (a3, .inl (cA, 72, .inl (zA (rr)))), (a4, .inl (cZ, 6, .inl (zA (cf))))] [(cA, .int), (cZ, .boolean)] sz) (WrQ (some (.int (zi 1))) (dC, dI) vwCl [(m0, .inr (3, [.int (zi (0)), .int (zi ((mp : Int))), .ref a1, .ref a2, .ref a3, .ref a4, .ref a5, .ref a6, .int (zi ((mb : Int))), .ref a7, .ref a8, .int (zi ((ml : Int))), .ref a9, .ref a10, .int (zi ((mz : Int))), .ref a11, .long (zl (ab)), .long (zl (be))])), (a1, .inl (cA, 6, .inl (zA (zupd sf (j) (((m_ct hs h n + 1 : Nat) : Int)))))), (a2, .inl (cA, 72, .inl (zA (zupd hh (12 * j + m_ct hs h n) (h))))), (a3, .inl (cA, 72, .inl (zA (zupd rr (12 * j + m_ct hs h n) (m_rad n hs rs (h) n 0 (-1)))))), (a4, .inl (cZ, 6, .inl (zA (zupd cf (j) (1)))))] (va_A [(m0, .inr (3, [.int (zi (tw)), .int (zi ((mp : Int))), .ref a1, .ref a2, .ref a3, .ref a4, .ref a5, .ref a6, .int (zi ((mb : Int))), .ref a7, .ref a8, .int (zi ((ml : Int))), .ref a9, .ref a10, .int (zi ((mz : Int))), .ref a11, .long (zl (ab)), .long (zl (be))])), (a1, .inl (cA, 6, .inl (zA (sf)))), (a2, .inl (cA, 72, .inl (zA (hh)))), (a3, .inl (cA, 72, .inl (zA (rr)))), (a4, .inl (cZ, 6, .inl (zA (cf))))] sz)) 0 0 (va_A [(m0, .inr (3, [.int (zi (tw)), .int (zi ((mp : Int))), .ref a1, .ref a2, .ref a3, .ref a4, .ref a5, .ref a6, .int (zi ((mb : Int))), .ref a7, .ref a8, .int (zi ((ml : Int))), .ref a9, .ref a10, .int (zi ((mz : Int))), .ref a11, .long (zl (ab)), .long (zl (be))])), (a1, .inl (cA, 6, .inl (zA (sf)))), (a2, .inl (cA, 72, .inl (zA (hh)))), (a3, .inl (cA, 72, .inl (zA (rr)))), (a4, .inl (cZ, 6, .inl (zA (cf))))] sz) := by
  refine Met.ofW (cc := cX3_cut) (maxL := 5) (ret := ((Option.some Jvm.ClassFile.FieldType.boolean))) (by decide) rfl ?_
  intro p e s m args below meth c s₁ B hml hv
  obtain ⟨hargs, hsz, hP, hK, hD0⟩ := hv
  have hx := B.exec
  have hb := B.bytes
  have hr := B.returns
  have hts := atoms_spec (ws := Cond.code yX3_cut cX3_cut 5 ((Option.some Jvm.ClassFile.FieldType.boolean)) :: gw) B.pre
  have hg : ∀ w ∈ gw, w.before args s = true := fun w h => hts w (List.mem_cons_of_mem _ h)
  have hown : s.vm.findClass RX3 = some m.cls := findClass_of_methodNamed B.named
  have hlocks := B.notSynchronized
  subst hsz
  have hD := hD0.self (sz := s.heap.size)
  generalize hAe : va_A [(m0, .inr (3, [.int (zi (tw)), .int (zi ((mp : Int))), .ref a1, .ref a2, .ref a3, .ref a4, .ref a5, .ref a6, .int (zi ((mb : Int))), .ref a7, .ref a8, .int (zi ((ml : Int))), .ref a9, .ref a10, .int (zi ((mz : Int))), .ref a11, .long (zl (ab)), .long (zl (be))])), (a1, .inl (cA, 6, .inl (zA (sf)))), (a2, .inl (cA, 72, .inl (zA (hh)))), (a3, .inl (cA, 72, .inl (zA (rr)))), (a4, .inl (cZ, 6, .inl (zA (cf))))] s.heap.size = A at hD ⊢
  have hA : ∀ q : Nat, s.heap.size ≤ q → A q := fun q h => by rw [← hAe]; exact Or.inr h
  show W p l e rm_X3_cut s m args below meth c s.heap [] 0 0 _ _
  have hl := lv_entry ([.ref m0, .int (zi ((j : Int))), .int (zi (h))]) (n := 5) (Nat.le_of_ble_eq_true rfl)
  rw [show entryFrame m args 5 = entryFrame m ([.ref m0, .int (zi ((j : Int))), .int (zi (h))] : List Value).toArray 5 by rw [hargs], lg_entry_eq]
  generalize (lg_sl ([.ref m0, .int (zi ((j : Int))), .int (zi (h))]) ++ List.replicate (5 - (lg_sl ([.ref m0, .int (zi ((j : Int))), .int (zi (h))])).length) Slot.unset).toArray = ls at hl ⊢
  have hl : lv_has ls 5 [(0, .ref m0), (1, .int (zi ((j : Int)))), (2, .int (zi (h)))] := hl
  obtain ⟨QQ, hQQ⟩ : ∃ Q, Q = MQ below (WrQ (some (.int (zi 1))) (dC, dI) vwCl [(m0, .inr (3, [.int (zi (0)), .int (zi ((mp : Int))), .ref a1, .ref a2, .ref a3, .ref a4, .ref a5, .ref a6, .int (zi ((mb : Int))), .ref a7, .ref a8, .int (zi ((ml : Int))), .ref a9, .ref a10, .int (zi ((mz : Int))), .ref a11, .long (zl (ab)), .long (zl (be))])), (a1, .inl (cA, 6, .inl (zA (zupd sf (j) (((m_ct hs h n + 1 : Nat) : Int)))))), (a2, .inl (cA, 72, .inl (zA (zupd hh (12 * j + m_ct hs h n) (h))))), (a3, .inl (cA, 72, .inl (zA (zupd rr (12 * j + m_ct hs h n) (m_rad n hs rs (h) n 0 (-1)))))), (a4, .inl (cZ, 6, .inl (zA (zupd cf (j) (1)))))] A) args s 0 0 A := ⟨_, rfl⟩
  rw [← hQQ]
  obtain ⟨H, hHe⟩ : ∃ H : Heap, H = s.heap := ⟨_, rfl⟩
  obtain ⟨locs, hlc⟩ : ∃ x : List Loc, x = [] := ⟨_, rfl⟩
  have hS : va_S A s.heap H locs := by rw [hHe, hlc]; exact va_S.rf
  have hP : va_P (dC, dI) vwCl [(m0, .inr (3, [.int (zi (tw)), .int (zi ((mp : Int))), .ref a1, .ref a2, .ref a3, .ref a4, .ref a5, .ref a6, .int (zi ((mb : Int))), .ref a7, .ref a8, .int (zi ((ml : Int))), .ref a9, .ref a10, .int (zi ((mz : Int))), .ref a11, .long (zl (ab)), .long (zl (be))])), (a1, .inl (cA, 6, .inl (zA (sf)))), (a2, .inl (cA, 72, .inl (zA (hh)))), (a3, .inl (cA, 72, .inl (zA (rr)))), (a4, .inl (cZ, 6, .inl (zA (cf))))] H := by rw [hHe]; exact hP
  have hD : va_D A [(m0, .inr (3, [.int (zi (tw)), .int (zi ((mp : Int))), .ref a1, .ref a2, .ref a3, .ref a4, .ref a5, .ref a6, .int (zi ((mb : Int))), .ref a7, .ref a8, .int (zi ((ml : Int))), .ref a9, .ref a10, .int (zi ((mz : Int))), .ref a11, .long (zl (ab)), .long (zl (be))])), (a1, .inl (cA, 6, .inl (zA (sf)))), (a2, .inl (cA, 72, .inl (zA (hh)))), (a3, .inl (cA, 72, .inl (zA (rr)))), (a4, .inl (cZ, 6, .inl (zA (cf))))] := hD
  rw [← hHe, ← hlc]
  have hct := m_ct_le hs h n
  have hcp := m_ct_pos hy.2.2.1 n hy.2.1
  refine lv_aload_n hx hb dX3_cut_0 rfl (lv_at hl 0 rfl) ?_
  refine lv_aload_n hx hb dX3_cut_1 rfl (lv_at hl 0 rfl) ?_
  refine lv_iload_n hx hb dX3_cut_2 rfl (lv_at hl 1 rfl) ?_
  refine rdV (As := [.int (zi ((j : Int)))]) (rest := [.ref m0]) (n := 1) hx hb hml hown hg (c_X3_isProfile l dC dI m0 a1 a2 a3 a4 a5 a6 a7 a8 a9 a10 a11 (tw) (ab) (be) mp mb ml mz ((j : Int)) hmp (by omega)) (gwV wl_X3_70 wm_X3_isProfile we_X3_isProfile wi_X3 wc_X3_isProfile) rfl rfl (by decide +kernel) ⟨Nat.le_of_ble_eq_true rfl, Nat.le_of_ble_eq_true rfl⟩ (hK.sub [] rfl) (hP.sub [0] rfl) 0 rfl rfl rfl rfl hl.1 rfl (Nat.le_of_ble_eq_true rfl) dX3_cut_3 ⟨Nat.zero_le _, Nat.zero_le _⟩ ?_
  refine zz_topi (z := 1) (congrArg zi (zb_t (decide_eq_true (by omega)))) ?_
  refine zz_if_ne (tgt := 13) hx hb (by omega) dX3_cut_6 (by decide) (fun c_6 => ?_) (fun c_6 => ?_)
  · refine lv_iconst (v := zi (0)) hx hb dX3_cut_13 rfl ?_
    refine lv_iconst (v := zi (0)) hx hb dX3_cut_14 rfl ?_
    refine lv_iconst (v := zi (0)) hx hb dX3_cut_15 rfl ?_
    refine wrV (As := [.int (zi (0)), .int (zi (0)), .int (zi (0))]) (rest := []) (n := 3) (ws' := [(m0, .inr (3, [.int (zi (0)), .int (zi ((mp : Int))), .ref a1, .ref a2, .ref a3, .ref a4, .ref a5, .ref a6, .int (zi ((mb : Int))), .ref a7, .ref a8, .int (zi ((ml : Int))), .ref a9, .ref a10, .int (zi ((mz : Int))), .ref a11, .long (zl (ab)), .long (zl (be))])), (a1, .inl (cA, 6, .inl (zA (sf)))), (a2, .inl (cA, 72, .inl (zA (hh)))), (a3, .inl (cA, 72, .inl (zA (rr)))), (a4, .inl (cZ, 6, .inl (zA (cf))))]) hx hb hml hown hg (c_throwing l dC dI H.size m0 a1 a2 a3 a4 a5 a6 a7 a8 a9 a10 a11 (tw) (ab) (be) mp mb ml mz 0 0 0 (by decide) (by decide) (by decide)) (gwV wl_X3_59 wm_X3_throwing we_X3_throwing wi_X3 wc_X3_throwing) rfl rfl (by decide +kernel) ⟨Nat.le_of_ble_eq_true rfl, Nat.le_of_ble_eq_true rfl⟩ (hK.sub [] rfl) hP hD hS hA [0] rfl (by decide) [(true, 0), (false, 1), (false, 2), (false, 3), (false, 4)] rfl (by decide) rfl 0 rfl rfl rfl rfl hl.1 rfl (Nat.le_of_ble_eq_true rfl) dX3_cut_16 ⟨Nat.zero_le _, Nat.zero_le _⟩ (fun H locs hP hD hS => ?_)
    refine zz_topi (z := 0) (congrArg zi (by decide)) ?_
    refine zz_if_eq (tgt := 24) hx hb (by omega) dX3_cut_19 (by decide) (fun c_19 => ?_) (fun c_19 => ?_)
    · refine lv_aload_n hx hb dX3_cut_24 rfl (lv_at hl 0 rfl) ?_
      refine va_get (D := (dC, dI)) (ci := 3) (v := .ref a1) (C := RX3) (T := TX3) (N := 18) hx hb hg inX3 hown hK hP 0 rfl rfl 2 (by decide) (hg _ wl_X3_7) (fun _ h9 => h9) rfl dX3_cut_25 ?_
      refine lv_iload_n hx hb dX3_cut_28 rfl (lv_at hl 1 rfl) ?_
      refine zz_iald hx hb hK hP 1 0 rfl rfl (j) (by omega) (by omega) (by decide) dX3_cut_29 ?_
      refine zz_topi (z := (n : Int)) (congrArg zi hsf) ?_
      refine lv_istore_n (lv' := [(3, .int (zi ((n : Int)))), (0, .ref m0), (1, .int (zi ((j : Int)))), (2, .int (zi (h)))]) hx hb dX3_cut_30 rfl hl (by decide) rfl (fun ls hl => ?_)
      refine lv_aload_n hx hb dX3_cut_31 rfl (lv_at hl 1 rfl) ?_
      refine va_get (D := (dC, dI)) (ci := 3) (v := .ref a4) (C := RX3) (T := TX3) (N := 18) hx hb hg inX3 hown hK hP 0 rfl rfl 5 (by decide) (hg _ wl_X3_19) (fun _ h9 => h9) rfl dX3_cut_32 ?_
      refine lv_iload_n hx hb dX3_cut_35 rfl (lv_at hl 2 rfl) ?_
      refine zz_zald hx hb hK hP 4 1 rfl rfl (j) (by omega) (by omega) (by decide) dX3_cut_36 ?_
      refine zz_topi (z := wc) (congrArg zi hcf9) ?_
      refine zz_if_ne (tgt := 66) hx hb (by omega) dX3_cut_37 (by decide) (fun c_37 => ?_) (fun c_37 => ?_)
      · exact (c_37 (by omega)).elim
      · refine lv_iload_n hx hb dX3_cut_40 rfl (lv_at hl 0 rfl) ?_
        refine zz_if_eq (tgt := 66) hx hb (by omega) dX3_cut_41 (by decide) (fun c_41 => ?_) (fun c_41 => ?_)
        · exact absurd hy (by omega)
        · refine lv_iload_n hx hb dX3_cut_44 rfl (lv_at hl 3 rfl) ?_
          refine lv_aload_n hx hb dX3_cut_45 rfl (lv_at hl 1 rfl) ?_
          refine lv_iload_n hx hb dX3_cut_46 rfl (lv_at hl 2 rfl) ?_
          refine lv_iconst (v := zi (0)) hx hb dX3_cut_47 rfl ?_
          refine zz_topi (z := ((0 : Nat) : Int)) (congrArg zi (by omega)) ?_
          refine rdV (As := [.int (zi ((j : Int))), .int (zi (((0 : Nat) : Int)))]) (rest := [.int (zi (h))]) (n := 2) hx hb hml hown hg (c_X3_height l dC dI m0 a1 a2 a3 a4 a5 a6 a7 a8 a9 a10 a11 (0) (ab) (be) mp mb ml mz cA j hh hs (0) hj hhs (by omega)) (gwV wl_X3_63 wm_X3_height we_X3_height wi_X3 wc_X3_height) rfl rfl (by decide +kernel) ⟨Nat.le_of_ble_eq_true rfl, Nat.le_of_ble_eq_true rfl⟩ (hK.sub [0] rfl) (hP.sub [0, 2] rfl) 0 rfl rfl rfl rfl hl.1 rfl (Nat.le_of_ble_eq_true rfl) dX3_cut_48 ⟨Nat.zero_le _, Nat.zero_le _⟩ ?_
          have hv_1 := hH (0)
          refine zz_icmp_le (tgt := 66) hx hb (by omega) (by omega) dX3_cut_51 (by decide) (fun c_51 => ?_) (fun c_51 => ?_)
          · exact absurd hy (by omega)
          · refine lv_iload_n hx hb dX3_cut_54 rfl (lv_at hl 3 rfl) ?_
            refine lv_aload_n hx hb dX3_cut_55 rfl (lv_at hl 1 rfl) ?_
            refine lv_iload_n hx hb dX3_cut_56 rfl (lv_at hl 2 rfl) ?_
            refine lv_iload_n hx hb dX3_cut_57 rfl (lv_at hl 0 rfl) ?_
            refine lv_iconst (v := zi (1)) hx hb dX3_cut_58 rfl ?_
            refine zz_isub hx hb dX3_cut_59 ?_
            refine zz_topi (z := ((n - 1 : Nat) : Int)) (congrArg zi (by omega)) ?_
            refine rdV (As := [.int (zi ((j : Int))), .int (zi (((n - 1 : Nat) : Int)))]) (rest := [.int (zi (h))]) (n := 2) hx hb hml hown hg (c_X3_height l dC dI m0 a1 a2 a3 a4 a5 a6 a7 a8 a9 a10 a11 (0) (ab) (be) mp mb ml mz cA j hh hs (n - 1) hj hhs (by omega)) (gwV wl_X3_63 wm_X3_height we_X3_height wi_X3 wc_X3_height) rfl rfl (by decide +kernel) ⟨Nat.le_of_ble_eq_true rfl, Nat.le_of_ble_eq_true rfl⟩ (hK.sub [0] rfl) (hP.sub [0, 2] rfl) 0 rfl rfl rfl rfl hl.1 rfl (Nat.le_of_ble_eq_true rfl) dX3_cut_60 ⟨Nat.zero_le _, Nat.zero_le _⟩ ?_
            have hv_2 := hH (n - 1)
            refine zz_icmp_lt (tgt := 68) hx hb (by omega) (by omega) dX3_cut_63 (by decide) (fun c_63 => ?_) (fun c_63 => ?_)
            · refine lv_aload_n hx hb dX3_cut_68 rfl (lv_at hl 1 rfl) ?_
              refine lv_iload_n hx hb dX3_cut_69 rfl (lv_at hl 2 rfl) ?_
              refine lv_iload_n hx hb dX3_cut_70 rfl (lv_at hl 3 rfl) ?_
              refine rdV (As := [.int (zi ((j : Int))), .int (zi (h))]) (rest := []) (n := 2) hx hb hml hown hg (c_X3_radiusOf l dC dI m0 a1 a2 a3 a4 a5 a6 a7 a8 a9 a10 a11 (0) (ab) (be) mp mb ml mz cA j n sf hh rr hs rs (h) hj hsf hhs hrs hn hH hR (by omega)) (gwV wl_X3_81 wm_X3_radiusOf we_X3_radiusOf wi_X3 wc_X3_radiusOf) rfl rfl (by decide +kernel) ⟨Nat.le_of_ble_eq_true rfl, Nat.le_of_ble_eq_true rfl⟩ (hK.sub [0] rfl) (hP.sub [0, 1, 2, 3] rfl) 0 rfl rfl rfl rfl hl.1 rfl (Nat.le_of_ble_eq_true rfl) dX3_cut_71 ⟨Nat.zero_le _, Nat.zero_le _⟩ ?_
              refine lv_istore (lv' := [(4, .int (zi (m_rad n hs rs (h) n 0 (-1)))), (3, .int (zi ((n : Int)))), (0, .ref m0), (1, .int (zi ((j : Int)))), (2, .int (zi (h)))]) hx hb dX3_cut_74 hl (by decide) rfl (fun ls hl => ?_)
              rw [← zupd_self hsf] at hP hD
              have key_76 : ∀ (n_ : Nat) (k : Nat), 0 < k → k ≤ n → m_ct hs h k = m_ct hs h n → k < n_ → ∀ (H : Heap) (locs : List Loc), va_P (dC, dI) vwCl [(m0, .inr (3, [.int (zi (0)), .int (zi ((mp : Int))), .ref a1, .ref a2, .ref a3, .ref a4, .ref a5, .ref a6, .int (zi ((mb : Int))), .ref a7, .ref a8, .int (zi ((ml : Int))), .ref a9, .ref a10, .int (zi ((mz : Int))), .ref a11, .long (zl (ab)), .long (zl (be))])), (a1, .inl (cA, 6, .inl (zA (zupd sf (j) (((k : Nat) : Int)))))), (a2, .inl (cA, 72, .inl (zA (hh)))), (a3, .inl (cA, 72, .inl (zA (rr)))), (a4, .inl (cZ, 6, .inl (zA (cf))))] H → va_D A [(m0, .inr (3, [.int (zi (0)), .int (zi ((mp : Int))), .ref a1, .ref a2, .ref a3, .ref a4, .ref a5, .ref a6, .int (zi ((mb : Int))), .ref a7, .ref a8, .int (zi ((ml : Int))), .ref a9, .ref a10, .int (zi ((mz : Int))), .ref a11, .long (zl (ab)), .long (zl (be))])), (a1, .inl (cA, 6, .inl (zA (zupd sf (j) (((k : Nat) : Int)))))), (a2, .inl (cA, 72, .inl (zA (hh)))), (a3, .inl (cA, 72, .inl (zA (rr)))), (a4, .inl (cZ, 6, .inl (zA (cf))))] → va_S A s.heap H locs → ∀ (ls : Array Slot), lv_has ls 5 [(4, .int (zi (m_rad n hs rs (h) n 0 (-1)))), (2, .int (zi (h))), (1, .int (zi ((j : Int)))), (0, .ref m0)] → W p l e rm_X3_cut s m args below meth c H locs 0 0 QQ (F0 m 76 ls []) := by
                intro n_
                induction n_ with
                | zero => intro k hk1 hk2 hk3 hm_; exact absurd hm_ (Nat.not_lt_zero _)
                | succ n_ ih =>
                  intro k hk1 hk2 hk3 hm_ H locs hP hD hS ls hl
                  refine lv_aload_n hx hb dX3_cut_76 rfl (lv_at hl 3 rfl) ?_
                  refine lv_iload_n hx hb dX3_cut_77 rfl (lv_at hl 2 rfl) ?_
                  refine lv_aload_n hx hb dX3_cut_78 rfl (lv_at hl 3 rfl) ?_
                  refine va_get (D := (dC, dI)) (ci := 3) (v := .ref a1) (C := RX3) (T := TX3) (N := 18) hx hb hg inX3 hown hK hP 0 rfl rfl 2 (by decide) (hg _ wl_X3_7) (fun _ h9 => h9) rfl dX3_cut_79 ?_
                  refine lv_iload_n hx hb dX3_cut_82 rfl (lv_at hl 2 rfl) ?_
                  refine zz_iald hx hb hK hP 1 0 rfl rfl (j) (by omega) (by omega) (by decide) dX3_cut_83 ?_
                  refine zz_topi (z := (k : Int)) (congrArg zi zupd_s) ?_
                  refine lv_iconst (v := zi (1)) hx hb dX3_cut_84 rfl ?_
                  refine zz_isub hx hb dX3_cut_85 ?_
                  refine zz_topi (z := ((k - 1 : Nat) : Int)) (congrArg zi (by omega)) ?_
                  refine rdV (As := [.int (zi ((j : Int))), .int (zi (((k - 1 : Nat) : Int)))]) (rest := []) (n := 2) hx hb hml hown hg (c_X3_height l dC dI m0 a1 a2 a3 a4 a5 a6 a7 a8 a9 a10 a11 (0) (ab) (be) mp mb ml mz cA j hh hs (k - 1) hj hhs (by omega)) (gwV wl_X3_63 wm_X3_height we_X3_height wi_X3 wc_X3_height) rfl rfl (by decide +kernel) ⟨Nat.le_of_ble_eq_true rfl, Nat.le_of_ble_eq_true rfl⟩ (hK.sub [0] rfl) (hP.sub [0, 2] rfl) 0 rfl rfl rfl rfl hl.1 rfl (Nat.le_of_ble_eq_true rfl) dX3_cut_86 ⟨Nat.zero_le _, Nat.zero_le _⟩ ?_
                  have hv_3 := hH (k - 1)
                  refine lv_iload_n hx hb dX3_cut_89 rfl (lv_at hl 1 rfl) ?_
                  refine zz_icmp_le (tgt := 106) hx hb (by omega) (by omega) dX3_cut_90 (by decide) (fun c_90 => ?_) (fun c_90 => ?_)
                  · have hkn : k ≠ n := fun e => by rw [e] at c_90; omega
                    have hk5 : m_ct hs h n = k := by
                      rw [← hk3, show k = (k - 1) + 1 by omega, m_ct, if_neg (by omega)]
                    rw [hk5] at hc1
                    refine lv_aload_n hx hb dX3_cut_106 rfl (lv_at hl 3 rfl) ?_
                    refine lv_iload_n hx hb dX3_cut_107 rfl (lv_at hl 2 rfl) ?_
                    refine lv_aload_n hx hb dX3_cut_108 rfl (lv_at hl 3 rfl) ?_
                    refine va_get (D := (dC, dI)) (ci := 3) (v := .ref a1) (C := RX3) (T := TX3) (N := 18) hx hb hg inX3 hown hK hP 0 rfl rfl 2 (by decide) (hg _ wl_X3_7) (fun _ h9 => h9) rfl dX3_cut_109 ?_
                    refine lv_iload_n hx hb dX3_cut_112 rfl (lv_at hl 2 rfl) ?_
                    refine zz_iald hx hb hK hP 1 0 rfl rfl (j) (by omega) (by omega) (by decide) dX3_cut_113 ?_
                    refine zz_topi (z := (k : Int)) (congrArg zi zupd_s) ?_
                    refine lv_iconst (v := zi (1)) hx hb dX3_cut_114 rfl ?_
                    refine zz_isub hx hb dX3_cut_115 ?_
                    refine zz_topi (z := ((k - 1 : Nat) : Int)) (congrArg zi (by omega)) ?_
                    refine rdV (As := [.int (zi ((j : Int))), .int (zi (((k - 1 : Nat) : Int)))]) (rest := []) (n := 2) hx hb hml hown hg (c_X3_height l dC dI m0 a1 a2 a3 a4 a5 a6 a7 a8 a9 a10 a11 (0) (ab) (be) mp mb ml mz cA j hh hs (k - 1) hj hhs (by omega)) (gwV wl_X3_63 wm_X3_height we_X3_height wi_X3 wc_X3_height) rfl rfl (by decide +kernel) ⟨Nat.le_of_ble_eq_true rfl, Nat.le_of_ble_eq_true rfl⟩ (hK.sub [0] rfl) (hP.sub [0, 2] rfl) 0 rfl rfl rfl rfl hl.1 rfl (Nat.le_of_ble_eq_true rfl) dX3_cut_116 ⟨Nat.zero_le _, Nat.zero_le _⟩ ?_
                    have hv_4 := hH (k - 1)
                    refine lv_iload_n hx hb dX3_cut_119 rfl (lv_at hl 1 rfl) ?_
                    refine zz_icmp_ge (tgt := 131) hx hb (by omega) (by omega) dX3_cut_120 (by decide) (fun c_120 => ?_) (fun c_120 => ?_)
                    · exact absurd hc1 (by omega)
                    · refine lv_aload_n hx hb dX3_cut_123 rfl (lv_at hl 3 rfl) ?_
                      refine lv_iload_n hx hb dX3_cut_124 rfl (lv_at hl 2 rfl) ?_
                      refine lv_iload_n hx hb dX3_cut_125 rfl (lv_at hl 1 rfl) ?_
                      refine lv_iload hx hb dX3_cut_126 (lv_at hl 0 rfl) ?_
                      refine wrV (As := [.int (zi ((j : Int))), .int (zi (h)), .int (zi (m_rad n hs rs (h) n 0 (-1)))]) (rest := []) (n := 3) (ws' := [(m0, .inr (3, [.int (zi (0)), .int (zi ((mp : Int))), .ref a1, .ref a2, .ref a3, .ref a4, .ref a5, .ref a6, .int (zi ((mb : Int))), .ref a7, .ref a8, .int (zi ((ml : Int))), .ref a9, .ref a10, .int (zi ((mz : Int))), .ref a11, .long (zl (ab)), .long (zl (be))])), (a1, .inl (cA, 6, .inl (zA (zupd (zupd sf (j) (((k : Nat) : Int))) (j) (((k + 1 : Nat) : Int)))))), (a2, .inl (cA, 72, .inl (zA (zupd hh (12 * j + k) (h))))), (a3, .inl (cA, 72, .inl (zA (zupd rr (12 * j + k) (m_rad n hs rs (h) n 0 (-1)))))), (a4, .inl (cZ, 6, .inl (zA (cf))))]) hx hb hml hown hg (c_X3_append l dC dI H.size m0 a1 a2 a3 a4 a5 a6 a7 a8 a9 a10 a11 (0) (ab) (be) mp mb ml mz cA j k (zupd sf (j) (((k : Nat) : Int))) hh rr h (m_rad n hs rs (h) n 0 (-1)) hj zupd_s (by omega)) (gwV wl_X3_77 wm_X3_append we_X3_append wi_X3 wc_X3_append) rfl rfl (by decide +kernel) ⟨Nat.le_of_ble_eq_true rfl, Nat.le_of_ble_eq_true rfl⟩ (hK.sub [0] rfl) hP hD hS hA [0, 1, 2, 3] rfl (by decide) [(true, 0), (true, 1), (true, 2), (true, 3), (false, 4)] rfl (by decide) rfl 0 rfl rfl rfl rfl hl.1 rfl (Nat.le_of_ble_eq_true rfl) dX3_cut_128 ⟨Nat.zero_le _, Nat.zero_le _⟩ (fun H locs hP hD hS => ?_)
                      refine lv_aload_n hx hb dX3_cut_131 rfl (lv_at hl 3 rfl) ?_
                      refine va_get (D := (dC, dI)) (ci := 3) (v := .ref a4) (C := RX3) (T := TX3) (N := 18) hx hb hg inX3 hown hK hP 0 rfl rfl 5 (by decide) (hg _ wl_X3_19) (fun _ h9 => h9) rfl dX3_cut_132 ?_
                      refine lv_iload_n hx hb dX3_cut_135 rfl (lv_at hl 2 rfl) ?_
                      refine lv_iconst (v := zi (1)) hx hb dX3_cut_136 rfl ?_
                      refine zz_zast hx hb hK hP hD hS 4 1 rfl rfl (j) (by omega) (by omega) (by decide) rfl dX3_cut_137 (fun H locs hP hD hS => ?_)
                      have hP : va_P (dC, dI) vwCl [(m0, .inr (3, [.int (zi (0)), .int (zi ((mp : Int))), .ref a1, .ref a2, .ref a3, .ref a4, .ref a5, .ref a6, .int (zi ((mb : Int))), .ref a7, .ref a8, .int (zi ((ml : Int))), .ref a9, .ref a10, .int (zi ((mz : Int))), .ref a11, .long (zl (ab)), .long (zl (be))])), (a1, .inl (cA, 6, .inl (zA (zupd (zupd sf (j) (((k : Nat) : Int))) (j) (((k + 1 : Nat) : Int)))))), (a2, .inl (cA, 72, .inl (zA (zupd hh (12 * j + k) (h))))), (a3, .inl (cA, 72, .inl (zA (zupd rr (12 * j + k) (m_rad n hs rs (h) n 0 (-1)))))), (a4, .inl (cZ, 6, .inl (zA (zupd cf (j) (1)))))] H := hP
                      have hD : va_D A [(m0, .inr (3, [.int (zi (0)), .int (zi ((mp : Int))), .ref a1, .ref a2, .ref a3, .ref a4, .ref a5, .ref a6, .int (zi ((mb : Int))), .ref a7, .ref a8, .int (zi ((ml : Int))), .ref a9, .ref a10, .int (zi ((mz : Int))), .ref a11, .long (zl (ab)), .long (zl (be))])), (a1, .inl (cA, 6, .inl (zA (zupd (zupd sf (j) (((k : Nat) : Int))) (j) (((k + 1 : Nat) : Int)))))), (a2, .inl (cA, 72, .inl (zA (zupd hh (12 * j + k) (h))))), (a3, .inl (cA, 72, .inl (zA (zupd rr (12 * j + k) (m_rad n hs rs (h) n 0 (-1)))))), (a4, .inl (cZ, 6, .inl (zA (zupd cf (j) (1)))))] := hD
                      refine lv_iconst (v := zi (1)) hx hb dX3_cut_138 rfl ?_
                      have hP9 : va_P (dC, dI) vwCl [(m0, .inr (3, [.int (zi (0)), .int (zi ((mp : Int))), .ref a1, .ref a2, .ref a3, .ref a4, .ref a5, .ref a6, .int (zi ((mb : Int))), .ref a7, .ref a8, .int (zi ((ml : Int))), .ref a9, .ref a10, .int (zi ((mz : Int))), .ref a11, .long (zl (ab)), .long (zl (be))])), (a1, .inl (cA, 6, .inl (zA (zupd sf (j) (((m_ct hs h n + 1 : Nat) : Int)))))), (a2, .inl (cA, 72, .inl (zA (zupd hh (12 * j + m_ct hs h n) (h))))), (a3, .inl (cA, 72, .inl (zA (zupd rr (12 * j + m_ct hs h n) (m_rad n hs rs (h) n 0 (-1)))))), (a4, .inl (cZ, 6, .inl (zA (zupd cf (j) (1)))))] H := by rw [hk5]; rw [zupd_zupd] at hP; exact hP
                      rw [hQQ]
                      exact wr_z hx hb hr hlocks rfl (by first | exact Or.inl rfl | exact Or.inr rfl | exact zb_01 _ | omega) hP9 hS dX3_cut_139
                  · have hkz : k - 1 ≠ 0 := fun e => by rw [e] at c_90; omega
                    refine lv_aload_n hx hb dX3_cut_93 rfl (lv_at hl 3 rfl) ?_
                    refine va_get (D := (dC, dI)) (ci := 3) (v := .ref a1) (C := RX3) (T := TX3) (N := 18) hx hb hg inX3 hown hK hP 0 rfl rfl 2 (by decide) (hg _ wl_X3_7) (fun _ h9 => h9) rfl dX3_cut_94 ?_
                    refine lv_iload_n hx hb dX3_cut_97 rfl (lv_at hl 2 rfl) ?_
                    refine lv_dup2_11 hx hb dX3_cut_98 rfl rfl ?_
                    refine zz_iald hx hb hK hP 1 0 rfl rfl (j) (by omega) (by omega) (by decide) dX3_cut_99 ?_
                    refine zz_topi (z := (k : Int)) (congrArg zi zupd_s) ?_
                    refine lv_iconst (v := zi (1)) hx hb dX3_cut_100 rfl ?_
                    refine zz_isub hx hb dX3_cut_101 ?_
                    refine zz_topi (z := ((k - 1 : Nat) : Int)) (congrArg zi (by omega)) ?_
                    refine zz_iast hx hb hK hP hD hS 1 0 rfl rfl (j) (by omega) (by omega) (by decide) dX3_cut_102 (fun H locs hP hD hS => ?_)
                    have hP : va_P (dC, dI) vwCl [(m0, .inr (3, [.int (zi (0)), .int (zi ((mp : Int))), .ref a1, .ref a2, .ref a3, .ref a4, .ref a5, .ref a6, .int (zi ((mb : Int))), .ref a7, .ref a8, .int (zi ((ml : Int))), .ref a9, .ref a10, .int (zi ((mz : Int))), .ref a11, .long (zl (ab)), .long (zl (be))])), (a1, .inl (cA, 6, .inl (zA (zupd (zupd sf (j) (((k : Nat) : Int))) (j) (((k - 1 : Nat) : Int)))))), (a2, .inl (cA, 72, .inl (zA (hh)))), (a3, .inl (cA, 72, .inl (zA (rr)))), (a4, .inl (cZ, 6, .inl (zA (cf))))] H := hP
                    have hD : va_D A [(m0, .inr (3, [.int (zi (0)), .int (zi ((mp : Int))), .ref a1, .ref a2, .ref a3, .ref a4, .ref a5, .ref a6, .int (zi ((mb : Int))), .ref a7, .ref a8, .int (zi ((ml : Int))), .ref a9, .ref a10, .int (zi ((mz : Int))), .ref a11, .long (zl (ab)), .long (zl (be))])), (a1, .inl (cA, 6, .inl (zA (zupd (zupd sf (j) (((k : Nat) : Int))) (j) (((k - 1 : Nat) : Int)))))), (a2, .inl (cA, 72, .inl (zA (hh)))), (a3, .inl (cA, 72, .inl (zA (rr)))), (a4, .inl (cZ, 6, .inl (zA (cf))))] := hD
                    refine lv_goto (tgt := 76) hx hb dX3_cut_103 (by decide) ?_
                    rw [zupd_zupd] at hP hD
                    exact ih (k - 1) (by omega) (by omega) (by rw [← hk3, show k = (k - 1) + 1 by omega, m_ct, if_pos (by omega), Nat.add_sub_cancel]) (by omega) H locs (hP.sub [0, 1, 2, 3, 4] rfl) (hD.sub [0, 1, 2, 3, 4] (by decide) rfl) hS ls (lv_sub hl [0, 1, 2, 3] rfl)
              exact key_76 _ n (by omega) (by omega) rfl (Nat.lt_succ_self _) H locs (hP.sub [0, 1, 2, 3, 4] rfl) (hD.sub [0, 1, 2, 3, 4] (by decide) rfl) hS ls (lv_sub hl [0, 4, 3, 2] rfl)
            · exact absurd hy (by omega)
    · exact absurd c_19 (by decide)
  · exact absurd c_6 (by decide)

set_option maxHeartbeats 4000000 in
set_option maxRecDepth 100000 in
theorem k_cut_b (l : Launch) (dC : Nat → ClassId) (dI : Nat → Nat → Nat) (sz : Nat) (m0 a1 a2 a3 a4 a5 a6 a7 a8 a9 a10 a11 : Nat) (tw ab be : Int) (mp mb ml mz : Nat) (cA cZ : ClassId) (j n : Nat) (sf hh rr hs rs : Nat → Int) (cf : Nat → Int) (h : Int) (hj : j < 6) (hsf : sf j = (n : Int)) (hhs : ∀ k, k < 12 → hh (12 * j + k) = hs k) (hrs : ∀ k, k < 12 → rr (12 * j + k) = rs k) (hn : n ≤ 12) (hH : ∀ j, 0 ≤ hs j ∧ hs j ≤ 400) (hR : ∀ j, 0 ≤ rs j ∧ rs j ≤ 200) (hmp : mp ≤ 6) (hjp : j < mp) (wc : Int) (hcf9 : cf j = wc) (hw : wc = 0 ∨ wc = 1) (h_h : -2147483648 ≤ h ∧ h < 2147483648) (hy : wc = 0 ∧ 0 < n ∧ hs 0 < h ∧ h < hs (n - 1)) (hc1 : h ≤ hs (m_ct hs h n - 1)) : Met l yX3_cut (Cond.code yX3_cut cX3_cut 5 ((Option.some Jvm.ClassFile.FieldType.boolean)) :: gw) rm_X3_cut (PcW [.ref m0, .int (zi ((j : Int))), .int (zi (h))] (dC, dI) vwCl [(m0, .inr (3, [.int (zi (tw)), .int (zi ((mp : Int))), .ref a1, .ref a2, .ref a3, .ref a4, .ref a5, .ref a6, .int (zi ((mb : Int))), .ref a7, .ref a8, .int (zi ((ml : Int))), .ref a9, .ref a10, .int (zi ((mz : Int))), .ref a11, .long (zl (ab)), .long (zl (be))])), (a1, .inl (cA, 6, .inl (zA (sf)))), (a2, .inl (cA, 72, .inl (zA (hh)))), (a3, .inl (cA, 72, .inl (zA (rr)))), (a4, .inl (cZ, 6, .inl (zA (cf))))] [(cA, .int), (cZ, .boolean)] sz) (WrQ (some (.int (zi 1))) (dC, dI) vwCl [(m0, .inr (3, [.int (zi (0)), .int (zi ((mp : Int))), .ref a1, .ref a2, .ref a3, .ref a4, .ref a5, .ref a6, .int (zi ((mb : Int))), .ref a7, .ref a8, .int (zi ((ml : Int))), .ref a9, .ref a10, .int (zi ((mz : Int))), .ref a11, .long (zl (ab)), .long (zl (be))])), (a1, .inl (cA, 6, .inl (zA (zupd sf (j) (((m_ct hs h n : Nat) : Int)))))), (a2, .inl (cA, 72, .inl (zA (hh)))), (a3, .inl (cA, 72, .inl (zA (rr)))), (a4, .inl (cZ, 6, .inl (zA (zupd cf (j) (1)))))] (va_A [(m0, .inr (3, [.int (zi (tw)), .int (zi ((mp : Int))), .ref a1, .ref a2, .ref a3, .ref a4, .ref a5, .ref a6, .int (zi ((mb : Int))), .ref a7, .ref a8, .int (zi ((ml : Int))), .ref a9, .ref a10, .int (zi ((mz : Int))), .ref a11, .long (zl (ab)), .long (zl (be))])), (a1, .inl (cA, 6, .inl (zA (sf)))), (a2, .inl (cA, 72, .inl (zA (hh)))), (a3, .inl (cA, 72, .inl (zA (rr)))), (a4, .inl (cZ, 6, .inl (zA (cf))))] sz)) 0 0 (va_A [(m0, .inr (3, [.int (zi (tw)), .int (zi ((mp : Int))), .ref a1, .ref a2, .ref a3, .ref a4, .ref a5, .ref a6, .int (zi ((mb : Int))), .ref a7, .ref a8, .int (zi ((ml : Int))), .ref a9, .ref a10, .int (zi ((mz : Int))), .ref a11, .long (zl (ab)), .long (zl (be))])), (a1, .inl (cA, 6, .inl (zA (sf)))), (a2, .inl (cA, 72, .inl (zA (hh)))), (a3, .inl (cA, 72, .inl (zA (rr)))), (a4, .inl (cZ, 6, .inl (zA (cf))))] sz) := by
  refine Met.ofW (cc := cX3_cut) (maxL := 5) (ret := ((Option.some Jvm.ClassFile.FieldType.boolean))) (by decide) rfl ?_
  intro p e s m args below meth c s₁ B hml hv
  obtain ⟨hargs, hsz, hP, hK, hD0⟩ := hv
  have hx := B.exec
  have hb := B.bytes
  have hr := B.returns
  have hts := atoms_spec (ws := Cond.code yX3_cut cX3_cut 5 ((Option.some Jvm.ClassFile.FieldType.boolean)) :: gw) B.pre
  have hg : ∀ w ∈ gw, w.before args s = true := fun w h => hts w (List.mem_cons_of_mem _ h)
  have hown : s.vm.findClass RX3 = some m.cls := findClass_of_methodNamed B.named
  have hlocks := B.notSynchronized
  subst hsz
  have hD := hD0.self (sz := s.heap.size)
  generalize hAe : va_A [(m0, .inr (3, [.int (zi (tw)), .int (zi ((mp : Int))), .ref a1, .ref a2, .ref a3, .ref a4, .ref a5, .ref a6, .int (zi ((mb : Int))), .ref a7, .ref a8, .int (zi ((ml : Int))), .ref a9, .ref a10, .int (zi ((mz : Int))), .ref a11, .long (zl (ab)), .long (zl (be))])), (a1, .inl (cA, 6, .inl (zA (sf)))), (a2, .inl (cA, 72, .inl (zA (hh)))), (a3, .inl (cA, 72, .inl (zA (rr)))), (a4, .inl (cZ, 6, .inl (zA (cf))))] s.heap.size = A at hD ⊢
  have hA : ∀ q : Nat, s.heap.size ≤ q → A q := fun q h => by rw [← hAe]; exact Or.inr h
  show W p l e rm_X3_cut s m args below meth c s.heap [] 0 0 _ _
  have hl := lv_entry ([.ref m0, .int (zi ((j : Int))), .int (zi (h))]) (n := 5) (Nat.le_of_ble_eq_true rfl)
  rw [show entryFrame m args 5 = entryFrame m ([.ref m0, .int (zi ((j : Int))), .int (zi (h))] : List Value).toArray 5 by rw [hargs], lg_entry_eq]
  generalize (lg_sl ([.ref m0, .int (zi ((j : Int))), .int (zi (h))]) ++ List.replicate (5 - (lg_sl ([.ref m0, .int (zi ((j : Int))), .int (zi (h))])).length) Slot.unset).toArray = ls at hl ⊢
  have hl : lv_has ls 5 [(0, .ref m0), (1, .int (zi ((j : Int)))), (2, .int (zi (h)))] := hl
  obtain ⟨QQ, hQQ⟩ : ∃ Q, Q = MQ below (WrQ (some (.int (zi 1))) (dC, dI) vwCl [(m0, .inr (3, [.int (zi (0)), .int (zi ((mp : Int))), .ref a1, .ref a2, .ref a3, .ref a4, .ref a5, .ref a6, .int (zi ((mb : Int))), .ref a7, .ref a8, .int (zi ((ml : Int))), .ref a9, .ref a10, .int (zi ((mz : Int))), .ref a11, .long (zl (ab)), .long (zl (be))])), (a1, .inl (cA, 6, .inl (zA (zupd sf (j) (((m_ct hs h n : Nat) : Int)))))), (a2, .inl (cA, 72, .inl (zA (hh)))), (a3, .inl (cA, 72, .inl (zA (rr)))), (a4, .inl (cZ, 6, .inl (zA (zupd cf (j) (1)))))] A) args s 0 0 A := ⟨_, rfl⟩
  rw [← hQQ]
  obtain ⟨H, hHe⟩ : ∃ H : Heap, H = s.heap := ⟨_, rfl⟩
  obtain ⟨locs, hlc⟩ : ∃ x : List Loc, x = [] := ⟨_, rfl⟩
  have hS : va_S A s.heap H locs := by rw [hHe, hlc]; exact va_S.rf
  have hP : va_P (dC, dI) vwCl [(m0, .inr (3, [.int (zi (tw)), .int (zi ((mp : Int))), .ref a1, .ref a2, .ref a3, .ref a4, .ref a5, .ref a6, .int (zi ((mb : Int))), .ref a7, .ref a8, .int (zi ((ml : Int))), .ref a9, .ref a10, .int (zi ((mz : Int))), .ref a11, .long (zl (ab)), .long (zl (be))])), (a1, .inl (cA, 6, .inl (zA (sf)))), (a2, .inl (cA, 72, .inl (zA (hh)))), (a3, .inl (cA, 72, .inl (zA (rr)))), (a4, .inl (cZ, 6, .inl (zA (cf))))] H := by rw [hHe]; exact hP
  have hD : va_D A [(m0, .inr (3, [.int (zi (tw)), .int (zi ((mp : Int))), .ref a1, .ref a2, .ref a3, .ref a4, .ref a5, .ref a6, .int (zi ((mb : Int))), .ref a7, .ref a8, .int (zi ((ml : Int))), .ref a9, .ref a10, .int (zi ((mz : Int))), .ref a11, .long (zl (ab)), .long (zl (be))])), (a1, .inl (cA, 6, .inl (zA (sf)))), (a2, .inl (cA, 72, .inl (zA (hh)))), (a3, .inl (cA, 72, .inl (zA (rr)))), (a4, .inl (cZ, 6, .inl (zA (cf))))] := hD
  rw [← hHe, ← hlc]
  have hct := m_ct_le hs h n
  have hcp := m_ct_pos hy.2.2.1 n hy.2.1
  refine lv_aload_n hx hb dX3_cut_0 rfl (lv_at hl 0 rfl) ?_
  refine lv_aload_n hx hb dX3_cut_1 rfl (lv_at hl 0 rfl) ?_
  refine lv_iload_n hx hb dX3_cut_2 rfl (lv_at hl 1 rfl) ?_
  refine rdV (As := [.int (zi ((j : Int)))]) (rest := [.ref m0]) (n := 1) hx hb hml hown hg (c_X3_isProfile l dC dI m0 a1 a2 a3 a4 a5 a6 a7 a8 a9 a10 a11 (tw) (ab) (be) mp mb ml mz ((j : Int)) hmp (by omega)) (gwV wl_X3_70 wm_X3_isProfile we_X3_isProfile wi_X3 wc_X3_isProfile) rfl rfl (by decide +kernel) ⟨Nat.le_of_ble_eq_true rfl, Nat.le_of_ble_eq_true rfl⟩ (hK.sub [] rfl) (hP.sub [0] rfl) 0 rfl rfl rfl rfl hl.1 rfl (Nat.le_of_ble_eq_true rfl) dX3_cut_3 ⟨Nat.zero_le _, Nat.zero_le _⟩ ?_
  refine zz_topi (z := 1) (congrArg zi (zb_t (decide_eq_true (by omega)))) ?_
  refine zz_if_ne (tgt := 13) hx hb (by omega) dX3_cut_6 (by decide) (fun c_6 => ?_) (fun c_6 => ?_)
  · refine lv_iconst (v := zi (0)) hx hb dX3_cut_13 rfl ?_
    refine lv_iconst (v := zi (0)) hx hb dX3_cut_14 rfl ?_
    refine lv_iconst (v := zi (0)) hx hb dX3_cut_15 rfl ?_
    refine wrV (As := [.int (zi (0)), .int (zi (0)), .int (zi (0))]) (rest := []) (n := 3) (ws' := [(m0, .inr (3, [.int (zi (0)), .int (zi ((mp : Int))), .ref a1, .ref a2, .ref a3, .ref a4, .ref a5, .ref a6, .int (zi ((mb : Int))), .ref a7, .ref a8, .int (zi ((ml : Int))), .ref a9, .ref a10, .int (zi ((mz : Int))), .ref a11, .long (zl (ab)), .long (zl (be))])), (a1, .inl (cA, 6, .inl (zA (sf)))), (a2, .inl (cA, 72, .inl (zA (hh)))), (a3, .inl (cA, 72, .inl (zA (rr)))), (a4, .inl (cZ, 6, .inl (zA (cf))))]) hx hb hml hown hg (c_throwing l dC dI H.size m0 a1 a2 a3 a4 a5 a6 a7 a8 a9 a10 a11 (tw) (ab) (be) mp mb ml mz 0 0 0 (by decide) (by decide) (by decide)) (gwV wl_X3_59 wm_X3_throwing we_X3_throwing wi_X3 wc_X3_throwing) rfl rfl (by decide +kernel) ⟨Nat.le_of_ble_eq_true rfl, Nat.le_of_ble_eq_true rfl⟩ (hK.sub [] rfl) hP hD hS hA [0] rfl (by decide) [(true, 0), (false, 1), (false, 2), (false, 3), (false, 4)] rfl (by decide) rfl 0 rfl rfl rfl rfl hl.1 rfl (Nat.le_of_ble_eq_true rfl) dX3_cut_16 ⟨Nat.zero_le _, Nat.zero_le _⟩ (fun H locs hP hD hS => ?_)
    refine zz_topi (z := 0) (congrArg zi (by decide)) ?_
    refine zz_if_eq (tgt := 24) hx hb (by omega) dX3_cut_19 (by decide) (fun c_19 => ?_) (fun c_19 => ?_)
    · refine lv_aload_n hx hb dX3_cut_24 rfl (lv_at hl 0 rfl) ?_
      refine va_get (D := (dC, dI)) (ci := 3) (v := .ref a1) (C := RX3) (T := TX3) (N := 18) hx hb hg inX3 hown hK hP 0 rfl rfl 2 (by decide) (hg _ wl_X3_7) (fun _ h9 => h9) rfl dX3_cut_25 ?_
      refine lv_iload_n hx hb dX3_cut_28 rfl (lv_at hl 1 rfl) ?_
      refine zz_iald hx hb hK hP 1 0 rfl rfl (j) (by omega) (by omega) (by decide) dX3_cut_29 ?_
      refine zz_topi (z := (n : Int)) (congrArg zi hsf) ?_
      refine lv_istore_n (lv' := [(3, .int (zi ((n : Int)))), (0, .ref m0), (1, .int (zi ((j : Int)))), (2, .int (zi (h)))]) hx hb dX3_cut_30 rfl hl (by decide) rfl (fun ls hl => ?_)
      refine lv_aload_n hx hb dX3_cut_31 rfl (lv_at hl 1 rfl) ?_
      refine va_get (D := (dC, dI)) (ci := 3) (v := .ref a4) (C := RX3) (T := TX3) (N := 18) hx hb hg inX3 hown hK hP 0 rfl rfl 5 (by decide) (hg _ wl_X3_19) (fun _ h9 => h9) rfl dX3_cut_32 ?_
      refine lv_iload_n hx hb dX3_cut_35 rfl (lv_at hl 2 rfl) ?_
      refine zz_zald hx hb hK hP 4 1 rfl rfl (j) (by omega) (by omega) (by decide) dX3_cut_36 ?_
      refine zz_topi (z := wc) (congrArg zi hcf9) ?_
      refine zz_if_ne (tgt := 66) hx hb (by omega) dX3_cut_37 (by decide) (fun c_37 => ?_) (fun c_37 => ?_)
      · exact (c_37 (by omega)).elim
      · refine lv_iload_n hx hb dX3_cut_40 rfl (lv_at hl 0 rfl) ?_
        refine zz_if_eq (tgt := 66) hx hb (by omega) dX3_cut_41 (by decide) (fun c_41 => ?_) (fun c_41 => ?_)
        · exact absurd hy (by omega)
        · refine lv_iload_n hx hb dX3_cut_44 rfl (lv_at hl 3 rfl) ?_
          refine lv_aload_n hx hb dX3_cut_45 rfl (lv_at hl 1 rfl) ?_
          refine lv_iload_n hx hb dX3_cut_46 rfl (lv_at hl 2 rfl) ?_
          refine lv_iconst (v := zi (0)) hx hb dX3_cut_47 rfl ?_
          refine zz_topi (z := ((0 : Nat) : Int)) (congrArg zi (by omega)) ?_
          refine rdV (As := [.int (zi ((j : Int))), .int (zi (((0 : Nat) : Int)))]) (rest := [.int (zi (h))]) (n := 2) hx hb hml hown hg (c_X3_height l dC dI m0 a1 a2 a3 a4 a5 a6 a7 a8 a9 a10 a11 (0) (ab) (be) mp mb ml mz cA j hh hs (0) hj hhs (by omega)) (gwV wl_X3_63 wm_X3_height we_X3_height wi_X3 wc_X3_height) rfl rfl (by decide +kernel) ⟨Nat.le_of_ble_eq_true rfl, Nat.le_of_ble_eq_true rfl⟩ (hK.sub [0] rfl) (hP.sub [0, 2] rfl) 0 rfl rfl rfl rfl hl.1 rfl (Nat.le_of_ble_eq_true rfl) dX3_cut_48 ⟨Nat.zero_le _, Nat.zero_le _⟩ ?_
          have hv_1 := hH (0)
          refine zz_icmp_le (tgt := 66) hx hb (by omega) (by omega) dX3_cut_51 (by decide) (fun c_51 => ?_) (fun c_51 => ?_)
          · exact absurd hy (by omega)
          · refine lv_iload_n hx hb dX3_cut_54 rfl (lv_at hl 3 rfl) ?_
            refine lv_aload_n hx hb dX3_cut_55 rfl (lv_at hl 1 rfl) ?_
            refine lv_iload_n hx hb dX3_cut_56 rfl (lv_at hl 2 rfl) ?_
            refine lv_iload_n hx hb dX3_cut_57 rfl (lv_at hl 0 rfl) ?_
            refine lv_iconst (v := zi (1)) hx hb dX3_cut_58 rfl ?_
            refine zz_isub hx hb dX3_cut_59 ?_
            refine zz_topi (z := ((n - 1 : Nat) : Int)) (congrArg zi (by omega)) ?_
            refine rdV (As := [.int (zi ((j : Int))), .int (zi (((n - 1 : Nat) : Int)))]) (rest := [.int (zi (h))]) (n := 2) hx hb hml hown hg (c_X3_height l dC dI m0 a1 a2 a3 a4 a5 a6 a7 a8 a9 a10 a11 (0) (ab) (be) mp mb ml mz cA j hh hs (n - 1) hj hhs (by omega)) (gwV wl_X3_63 wm_X3_height we_X3_height wi_X3 wc_X3_height) rfl rfl (by decide +kernel) ⟨Nat.le_of_ble_eq_true rfl, Nat.le_of_ble_eq_true rfl⟩ (hK.sub [0] rfl) (hP.sub [0, 2] rfl) 0 rfl rfl rfl rfl hl.1 rfl (Nat.le_of_ble_eq_true rfl) dX3_cut_60 ⟨Nat.zero_le _, Nat.zero_le _⟩ ?_
            have hv_2 := hH (n - 1)
            refine zz_icmp_lt (tgt := 68) hx hb (by omega) (by omega) dX3_cut_63 (by decide) (fun c_63 => ?_) (fun c_63 => ?_)
            · refine lv_aload_n hx hb dX3_cut_68 rfl (lv_at hl 1 rfl) ?_
              refine lv_iload_n hx hb dX3_cut_69 rfl (lv_at hl 2 rfl) ?_
              refine lv_iload_n hx hb dX3_cut_70 rfl (lv_at hl 3 rfl) ?_
              refine rdV (As := [.int (zi ((j : Int))), .int (zi (h))]) (rest := []) (n := 2) hx hb hml hown hg (c_X3_radiusOf l dC dI m0 a1 a2 a3 a4 a5 a6 a7 a8 a9 a10 a11 (0) (ab) (be) mp mb ml mz cA j n sf hh rr hs rs (h) hj hsf hhs hrs hn hH hR (by omega)) (gwV wl_X3_81 wm_X3_radiusOf we_X3_radiusOf wi_X3 wc_X3_radiusOf) rfl rfl (by decide +kernel) ⟨Nat.le_of_ble_eq_true rfl, Nat.le_of_ble_eq_true rfl⟩ (hK.sub [0] rfl) (hP.sub [0, 1, 2, 3] rfl) 0 rfl rfl rfl rfl hl.1 rfl (Nat.le_of_ble_eq_true rfl) dX3_cut_71 ⟨Nat.zero_le _, Nat.zero_le _⟩ ?_
              refine lv_istore (lv' := [(4, .int (zi (m_rad n hs rs (h) n 0 (-1)))), (3, .int (zi ((n : Int)))), (0, .ref m0), (1, .int (zi ((j : Int)))), (2, .int (zi (h)))]) hx hb dX3_cut_74 hl (by decide) rfl (fun ls hl => ?_)
              rw [← zupd_self hsf] at hP hD
              have key_76 : ∀ (n_ : Nat) (k : Nat), 0 < k → k ≤ n → m_ct hs h k = m_ct hs h n → k < n_ → ∀ (H : Heap) (locs : List Loc), va_P (dC, dI) vwCl [(m0, .inr (3, [.int (zi (0)), .int (zi ((mp : Int))), .ref a1, .ref a2, .ref a3, .ref a4, .ref a5, .ref a6, .int (zi ((mb : Int))), .ref a7, .ref a8, .int (zi ((ml : Int))), .ref a9, .ref a10, .int (zi ((mz : Int))), .ref a11, .long (zl (ab)), .long (zl (be))])), (a1, .inl (cA, 6, .inl (zA (zupd sf (j) (((k : Nat) : Int)))))), (a2, .inl (cA, 72, .inl (zA (hh)))), (a3, .inl (cA, 72, .inl (zA (rr)))), (a4, .inl (cZ, 6, .inl (zA (cf))))] H → va_D A [(m0, .inr (3, [.int (zi (0)), .int (zi ((mp : Int))), .ref a1, .ref a2, .ref a3, .ref a4, .ref a5, .ref a6, .int (zi ((mb : Int))), .ref a7, .ref a8, .int (zi ((ml : Int))), .ref a9, .ref a10, .int (zi ((mz : Int))), .ref a11, .long (zl (ab)), .long (zl (be))])), (a1, .inl (cA, 6, .inl (zA (zupd sf (j) (((k : Nat) : Int)))))), (a2, .inl (cA, 72, .inl (zA (hh)))), (a3, .inl (cA, 72, .inl (zA (rr)))), (a4, .inl (cZ, 6, .inl (zA (cf))))] → va_S A s.heap H locs → ∀ (ls : Array Slot), lv_has ls 5 [(4, .int (zi (m_rad n hs rs (h) n 0 (-1)))), (2, .int (zi (h))), (1, .int (zi ((j : Int)))), (0, .ref m0)] → W p l e rm_X3_cut s m args below meth c H locs 0 0 QQ (F0 m 76 ls []) := by
                intro n_
                induction n_ with
                | zero => intro k hk1 hk2 hk3 hm_; exact absurd hm_ (Nat.not_lt_zero _)
                | succ n_ ih =>
                  intro k hk1 hk2 hk3 hm_ H locs hP hD hS ls hl
                  refine lv_aload_n hx hb dX3_cut_76 rfl (lv_at hl 3 rfl) ?_
                  refine lv_iload_n hx hb dX3_cut_77 rfl (lv_at hl 2 rfl) ?_
                  refine lv_aload_n hx hb dX3_cut_78 rfl (lv_at hl 3 rfl) ?_
                  refine va_get (D := (dC, dI)) (ci := 3) (v := .ref a1) (C := RX3) (T := TX3) (N := 18) hx hb hg inX3 hown hK hP 0 rfl rfl 2 (by decide) (hg _ wl_X3_7) (fun _ h9 => h9) rfl dX3_cut_79 ?_
                  refine lv_iload_n hx hb dX3_cut_82 rfl (lv_at hl 2 rfl) ?_
                  refine zz_iald hx hb hK hP 1 0 rfl rfl (j) (by omega) (by omega) (by decide) dX3_cut_83 ?_
                  refine zz_topi (z := (k : Int)) (congrArg zi zupd_s) ?_
                  refine lv_iconst (v := zi (1)) hx hb dX3_cut_84 rfl ?_
                  refine zz_isub hx hb dX3_cut_85 ?_
                  refine zz_topi (z := ((k - 1 : Nat) : Int)) (congrArg zi (by omega)) ?_
                  refine rdV (As := [.int (zi ((j : Int))), .int (zi (((k - 1 : Nat) : Int)))]) (rest := []) (n := 2) hx hb hml hown hg (c_X3_height l dC dI m0 a1 a2 a3 a4 a5 a6 a7 a8 a9 a10 a11 (0) (ab) (be) mp mb ml mz cA j hh hs (k - 1) hj hhs (by omega)) (gwV wl_X3_63 wm_X3_height we_X3_height wi_X3 wc_X3_height) rfl rfl (by decide +kernel) ⟨Nat.le_of_ble_eq_true rfl, Nat.le_of_ble_eq_true rfl⟩ (hK.sub [0] rfl) (hP.sub [0, 2] rfl) 0 rfl rfl rfl rfl hl.1 rfl (Nat.le_of_ble_eq_true rfl) dX3_cut_86 ⟨Nat.zero_le _, Nat.zero_le _⟩ ?_
                  have hv_3 := hH (k - 1)
                  refine lv_iload_n hx hb dX3_cut_89 rfl (lv_at hl 1 rfl) ?_
                  refine zz_icmp_le (tgt := 106) hx hb (by omega) (by omega) dX3_cut_90 (by decide) (fun c_90 => ?_) (fun c_90 => ?_)
                  · have hkn : k ≠ n := fun e => by rw [e] at c_90; omega
                    have hk5 : m_ct hs h n = k := by
                      rw [← hk3, show k = (k - 1) + 1 by omega, m_ct, if_neg (by omega)]
                    rw [hk5] at hc1
                    refine lv_aload_n hx hb dX3_cut_106 rfl (lv_at hl 3 rfl) ?_
                    refine lv_iload_n hx hb dX3_cut_107 rfl (lv_at hl 2 rfl) ?_
                    refine lv_aload_n hx hb dX3_cut_108 rfl (lv_at hl 3 rfl) ?_
                    refine va_get (D := (dC, dI)) (ci := 3) (v := .ref a1) (C := RX3) (T := TX3) (N := 18) hx hb hg inX3 hown hK hP 0 rfl rfl 2 (by decide) (hg _ wl_X3_7) (fun _ h9 => h9) rfl dX3_cut_109 ?_
                    refine lv_iload_n hx hb dX3_cut_112 rfl (lv_at hl 2 rfl) ?_
                    refine zz_iald hx hb hK hP 1 0 rfl rfl (j) (by omega) (by omega) (by decide) dX3_cut_113 ?_
                    refine zz_topi (z := (k : Int)) (congrArg zi zupd_s) ?_
                    refine lv_iconst (v := zi (1)) hx hb dX3_cut_114 rfl ?_
                    refine zz_isub hx hb dX3_cut_115 ?_
                    refine zz_topi (z := ((k - 1 : Nat) : Int)) (congrArg zi (by omega)) ?_
                    refine rdV (As := [.int (zi ((j : Int))), .int (zi (((k - 1 : Nat) : Int)))]) (rest := []) (n := 2) hx hb hml hown hg (c_X3_height l dC dI m0 a1 a2 a3 a4 a5 a6 a7 a8 a9 a10 a11 (0) (ab) (be) mp mb ml mz cA j hh hs (k - 1) hj hhs (by omega)) (gwV wl_X3_63 wm_X3_height we_X3_height wi_X3 wc_X3_height) rfl rfl (by decide +kernel) ⟨Nat.le_of_ble_eq_true rfl, Nat.le_of_ble_eq_true rfl⟩ (hK.sub [0] rfl) (hP.sub [0, 2] rfl) 0 rfl rfl rfl rfl hl.1 rfl (Nat.le_of_ble_eq_true rfl) dX3_cut_116 ⟨Nat.zero_le _, Nat.zero_le _⟩ ?_
                    have hv_4 := hH (k - 1)
                    refine lv_iload_n hx hb dX3_cut_119 rfl (lv_at hl 1 rfl) ?_
                    refine zz_icmp_ge (tgt := 131) hx hb (by omega) (by omega) dX3_cut_120 (by decide) (fun c_120 => ?_) (fun c_120 => ?_)
                    · refine lv_aload_n hx hb dX3_cut_131 rfl (lv_at hl 3 rfl) ?_
                      refine va_get (D := (dC, dI)) (ci := 3) (v := .ref a4) (C := RX3) (T := TX3) (N := 18) hx hb hg inX3 hown hK hP 0 rfl rfl 5 (by decide) (hg _ wl_X3_19) (fun _ h9 => h9) rfl dX3_cut_132 ?_
                      refine lv_iload_n hx hb dX3_cut_135 rfl (lv_at hl 2 rfl) ?_
                      refine lv_iconst (v := zi (1)) hx hb dX3_cut_136 rfl ?_
                      refine zz_zast hx hb hK hP hD hS 4 1 rfl rfl (j) (by omega) (by omega) (by decide) rfl dX3_cut_137 (fun H locs hP hD hS => ?_)
                      have hP : va_P (dC, dI) vwCl [(m0, .inr (3, [.int (zi (0)), .int (zi ((mp : Int))), .ref a1, .ref a2, .ref a3, .ref a4, .ref a5, .ref a6, .int (zi ((mb : Int))), .ref a7, .ref a8, .int (zi ((ml : Int))), .ref a9, .ref a10, .int (zi ((mz : Int))), .ref a11, .long (zl (ab)), .long (zl (be))])), (a1, .inl (cA, 6, .inl (zA (zupd sf (j) (((k : Nat) : Int)))))), (a2, .inl (cA, 72, .inl (zA (hh)))), (a3, .inl (cA, 72, .inl (zA (rr)))), (a4, .inl (cZ, 6, .inl (zA (zupd cf (j) (1)))))] H := hP
                      have hD : va_D A [(m0, .inr (3, [.int (zi (0)), .int (zi ((mp : Int))), .ref a1, .ref a2, .ref a3, .ref a4, .ref a5, .ref a6, .int (zi ((mb : Int))), .ref a7, .ref a8, .int (zi ((ml : Int))), .ref a9, .ref a10, .int (zi ((mz : Int))), .ref a11, .long (zl (ab)), .long (zl (be))])), (a1, .inl (cA, 6, .inl (zA (zupd sf (j) (((k : Nat) : Int)))))), (a2, .inl (cA, 72, .inl (zA (hh)))), (a3, .inl (cA, 72, .inl (zA (rr)))), (a4, .inl (cZ, 6, .inl (zA (zupd cf (j) (1)))))] := hD
                      refine lv_iconst (v := zi (1)) hx hb dX3_cut_138 rfl ?_
                      have hP9 : va_P (dC, dI) vwCl [(m0, .inr (3, [.int (zi (0)), .int (zi ((mp : Int))), .ref a1, .ref a2, .ref a3, .ref a4, .ref a5, .ref a6, .int (zi ((mb : Int))), .ref a7, .ref a8, .int (zi ((ml : Int))), .ref a9, .ref a10, .int (zi ((mz : Int))), .ref a11, .long (zl (ab)), .long (zl (be))])), (a1, .inl (cA, 6, .inl (zA (zupd sf (j) (((m_ct hs h n : Nat) : Int)))))), (a2, .inl (cA, 72, .inl (zA (hh)))), (a3, .inl (cA, 72, .inl (zA (rr)))), (a4, .inl (cZ, 6, .inl (zA (zupd cf (j) (1)))))] H := by rw [hk5]; exact hP
                      rw [hQQ]
                      exact wr_z hx hb hr hlocks rfl (by first | exact Or.inl rfl | exact Or.inr rfl | exact zb_01 _ | omega) hP9 hS dX3_cut_139
                    · exact absurd hc1 (by omega)
                  · have hkz : k - 1 ≠ 0 := fun e => by rw [e] at c_90; omega
                    refine lv_aload_n hx hb dX3_cut_93 rfl (lv_at hl 3 rfl) ?_
                    refine va_get (D := (dC, dI)) (ci := 3) (v := .ref a1) (C := RX3) (T := TX3) (N := 18) hx hb hg inX3 hown hK hP 0 rfl rfl 2 (by decide) (hg _ wl_X3_7) (fun _ h9 => h9) rfl dX3_cut_94 ?_
                    refine lv_iload_n hx hb dX3_cut_97 rfl (lv_at hl 2 rfl) ?_
                    refine lv_dup2_11 hx hb dX3_cut_98 rfl rfl ?_
                    refine zz_iald hx hb hK hP 1 0 rfl rfl (j) (by omega) (by omega) (by decide) dX3_cut_99 ?_
                    refine zz_topi (z := (k : Int)) (congrArg zi zupd_s) ?_
                    refine lv_iconst (v := zi (1)) hx hb dX3_cut_100 rfl ?_
                    refine zz_isub hx hb dX3_cut_101 ?_
                    refine zz_topi (z := ((k - 1 : Nat) : Int)) (congrArg zi (by omega)) ?_
                    refine zz_iast hx hb hK hP hD hS 1 0 rfl rfl (j) (by omega) (by omega) (by decide) dX3_cut_102 (fun H locs hP hD hS => ?_)
                    have hP : va_P (dC, dI) vwCl [(m0, .inr (3, [.int (zi (0)), .int (zi ((mp : Int))), .ref a1, .ref a2, .ref a3, .ref a4, .ref a5, .ref a6, .int (zi ((mb : Int))), .ref a7, .ref a8, .int (zi ((ml : Int))), .ref a9, .ref a10, .int (zi ((mz : Int))), .ref a11, .long (zl (ab)), .long (zl (be))])), (a1, .inl (cA, 6, .inl (zA (zupd (zupd sf (j) (((k : Nat) : Int))) (j) (((k - 1 : Nat) : Int)))))), (a2, .inl (cA, 72, .inl (zA (hh)))), (a3, .inl (cA, 72, .inl (zA (rr)))), (a4, .inl (cZ, 6, .inl (zA (cf))))] H := hP
                    have hD : va_D A [(m0, .inr (3, [.int (zi (0)), .int (zi ((mp : Int))), .ref a1, .ref a2, .ref a3, .ref a4, .ref a5, .ref a6, .int (zi ((mb : Int))), .ref a7, .ref a8, .int (zi ((ml : Int))), .ref a9, .ref a10, .int (zi ((mz : Int))), .ref a11, .long (zl (ab)), .long (zl (be))])), (a1, .inl (cA, 6, .inl (zA (zupd (zupd sf (j) (((k : Nat) : Int))) (j) (((k - 1 : Nat) : Int)))))), (a2, .inl (cA, 72, .inl (zA (hh)))), (a3, .inl (cA, 72, .inl (zA (rr)))), (a4, .inl (cZ, 6, .inl (zA (cf))))] := hD
                    refine lv_goto (tgt := 76) hx hb dX3_cut_103 (by decide) ?_
                    rw [zupd_zupd] at hP hD
                    exact ih (k - 1) (by omega) (by omega) (by rw [← hk3, show k = (k - 1) + 1 by omega, m_ct, if_pos (by omega), Nat.add_sub_cancel]) (by omega) H locs (hP.sub [0, 1, 2, 3, 4] rfl) (hD.sub [0, 1, 2, 3, 4] (by decide) rfl) hS ls (lv_sub hl [0, 1, 2, 3] rfl)
              exact key_76 _ n (by omega) (by omega) rfl (Nat.lt_succ_self _) H locs (hP.sub [0, 1, 2, 3, 4] rfl) (hD.sub [0, 1, 2, 3, 4] (by decide) rfl) hS ls (lv_sub hl [0, 4, 3, 2] rfl)
            · exact absurd hy (by omega)
    · exact absurd c_19 (by decide)
  · exact absurd c_6 (by decide)

abbrev rm_X3_pointCount : Room := { frames := 1, cells := 0, slots := 0, locals := 22 }
set_option maxHeartbeats 4000000 in
set_option maxRecDepth 100000 in
theorem c_X3_pointCount (l : Launch) (dC : Nat → ClassId) (dI : Nat → Nat → Nat) (m0 a1 a2 a3 a4 a5 a6 a7 a8 a9 a10 a11 : Nat) (tw ab be : Int) (mp mb ml mz : Nat) (cA : ClassId) (j n : Nat) (sf hh rr hs rs : Nat → Int) (hj : j < 6) (hsf : sf j = (n : Int)) (hhs : ∀ k, k < 12 → hh (12 * j + k) = hs k) (hrs : ∀ k, k < 12 → rr (12 * j + k) = rs k) (hn : n ≤ 12) (hH : ∀ j, 0 ≤ hs j ∧ hs j ≤ 400) (hR : ∀ j, 0 ≤ rs j ∧ rs j ≤ 200) : Met l yX3_pointCount (Cond.code yX3_pointCount cX3_pointCount 4 ((Option.some Jvm.ClassFile.FieldType.int)) :: gw) rm_X3_pointCount (PcR [.ref m0, .int (zi ((j : Int)))] (dC, dI) vwCl [(m0, .inr (3, [.int (zi (tw)), .int (zi ((mp : Int))), .ref a1, .ref a2, .ref a3, .ref a4, .ref a5, .ref a6, .int (zi ((mb : Int))), .ref a7, .ref a8, .int (zi ((ml : Int))), .ref a9, .ref a10, .int (zi ((mz : Int))), .ref a11, .long (zl (ab)), .long (zl (be))])), (a1, .inl (cA, 6, .inl (zA (sf)))), (a2, .inl (cA, 72, .inl (zA (hh)))), (a3, .inl (cA, 72, .inl (zA (rr))))] [(cA, .int)]) (RdQ (some (.int (zi ((n + p_co rs n : Nat) : Int))))) 0 0 (fun _ => False) := by
  refine Met.ofW (cc := cX3_pointCount) (maxL := 4) (ret := ((Option.some Jvm.ClassFile.FieldType.int))) (by decide) rfl ?_
  intro p e s m args below meth c s₁ B hml hv
  obtain ⟨hargs, hP, hK⟩ := hv
  have hx := B.exec
  have hb := B.bytes
  have hr := B.returns
  have hts := atoms_spec (ws := Cond.code yX3_pointCount cX3_pointCount 4 ((Option.some Jvm.ClassFile.FieldType.int)) :: gw) B.pre
  have hg : ∀ w ∈ gw, w.before args s = true := fun w h => hts w (List.mem_cons_of_mem _ h)
  have hown : s.vm.findClass RX3 = some m.cls := findClass_of_methodNamed B.named
  have hlocks := B.notSynchronized
  show W p l e rm_X3_pointCount s m args below meth c s.heap [] 0 0 _ _
  have hl := lv_entry ([.ref m0, .int (zi ((j : Int)))]) (n := 4) (Nat.le_of_ble_eq_true rfl)
  rw [show entryFrame m args 4 = entryFrame m ([.ref m0, .int (zi ((j : Int)))] : List Value).toArray 4 by rw [hargs], lg_entry_eq]
  generalize (lg_sl ([.ref m0, .int (zi ((j : Int)))]) ++ List.replicate (4 - (lg_sl ([.ref m0, .int (zi ((j : Int)))])).length) Slot.unset).toArray = ls at hl ⊢
  have hl : lv_has ls 4 [(0, .ref m0), (1, .int (zi ((j : Int))))] := hl
  obtain ⟨QQ, hQQ⟩ : ∃ Q, Q = MQ below (RdQ (some (.int (zi ((n + p_co rs n : Nat) : Int))))) args s 0 0 (fun _ => False) := ⟨_, rfl⟩
  rw [← hQQ]
  refine lv_aload_n hx hb dX3_pointCount_0 rfl (lv_at hl 0 rfl) ?_
  refine va_get (D := (dC, dI)) (ci := 3) (v := .ref a1) (C := RX3) (T := TX3) (N := 18) hx hb hg inX3 hown hK hP 0 rfl rfl 2 (by decide) (hg _ wl_X3_7) (fun _ h9 => h9) rfl dX3_pointCount_1 ?_
  refine lv_iload_n hx hb dX3_pointCount_4 rfl (lv_at hl 1 rfl) ?_
  refine zz_iald hx hb hK hP 1 0 rfl rfl (j) (by omega) (by omega) (by decide) dX3_pointCount_5 ?_
  refine zz_topi (z := (n : Int)) (congrArg zi hsf) ?_
  refine lv_istore_n (lv' := [(2, .int (zi ((n : Int)))), (0, .ref m0), (1, .int (zi ((j : Int))))]) hx hb dX3_pointCount_6 rfl hl (by decide) rfl (fun ls hl => ?_)
  refine lv_iconst (v := zi (0)) hx hb dX3_pointCount_7 rfl ?_
  refine lv_istore_n (lv' := [(3, .int (zi (0))), (2, .int (zi ((n : Int)))), (0, .ref m0), (1, .int (zi ((j : Int))))]) hx hb dX3_pointCount_8 rfl hl (by decide) rfl (fun ls hl => ?_)
  have key_9 : ∀ (n_ : Nat) (k : Nat), k ≤ n → 13 - k < n_ → ∀ (ls : Array Slot), lv_has ls 4 [(3, .int (zi ((k : Int)))), (2, .int (zi (((n + p_co rs k : Nat) : Int)))), (1, .int (zi ((j : Int)))), (0, .ref m0)] → W p l e rm_X3_pointCount s m args below meth c s.heap [] 0 0 QQ (F0 m 9 ls []) := by
    intro n_
    induction n_ with
    | zero => intro k hk1 hm_; exact absurd hm_ (Nat.not_lt_zero _)
    | succ n_ ih =>
      intro k hk1 hm_ ls hl
      refine lv_iload_n hx hb dX3_pointCount_9 rfl (lv_at hl 0 rfl) ?_
      refine lv_aload_n hx hb dX3_pointCount_10 rfl (lv_at hl 3 rfl) ?_
      refine va_get (D := (dC, dI)) (ci := 3) (v := .ref a1) (C := RX3) (T := TX3) (N := 18) hx hb hg inX3 hown hK hP 0 rfl rfl 2 (by decide) (hg _ wl_X3_7) (fun _ h9 => h9) rfl dX3_pointCount_11 ?_
      refine lv_iload_n hx hb dX3_pointCount_14 rfl (lv_at hl 2 rfl) ?_
      refine zz_iald hx hb hK hP 1 0 rfl rfl (j) (by omega) (by omega) (by decide) dX3_pointCount_15 ?_
      refine zz_topi (z := (n : Int)) (congrArg zi hsf) ?_
      refine zz_icmp_ge (tgt := 42) hx hb (by omega) (by omega) dX3_pointCount_16 (by decide) (fun c_16 => ?_) (fun c_16 => ?_)
      · refine lv_iload_n hx hb dX3_pointCount_42 rfl (lv_at hl 1 rfl) ?_
        rw [hQQ]
        exact rd_i hx hb hr hlocks (by rw [show n = k by omega]) dX3_pointCount_43
      · refine lv_iload_n hx hb dX3_pointCount_19 rfl (lv_at hl 1 rfl) ?_
        refine lv_aload_n hx hb dX3_pointCount_20 rfl (lv_at hl 3 rfl) ?_
        refine lv_iload_n hx hb dX3_pointCount_21 rfl (lv_at hl 2 rfl) ?_
        refine lv_iload_n hx hb dX3_pointCount_22 rfl (lv_at hl 0 rfl) ?_
        refine rdV (As := [.int (zi ((j : Int))), .int (zi ((k : Int)))]) (rest := [.int (zi (((n + p_co rs k : Nat) : Int)))]) (n := 2) hx hb hml hown hg (c_X3_radiusAt l dC dI m0 a1 a2 a3 a4 a5 a6 a7 a8 a9 a10 a11 (tw) (ab) (be) mp mb ml mz cA j rr rs (k) hj hrs (by omega)) (gwV wl_X3_67 wm_X3_radiusAt we_X3_radiusAt wi_X3 wc_X3_radiusAt) rfl rfl (by decide +kernel) ⟨Nat.le_of_ble_eq_true rfl, Nat.le_of_ble_eq_true rfl⟩ (hK.sub [0] rfl) (hP.sub [0, 3] rfl) 0 rfl rfl rfl rfl hl.1 rfl (Nat.le_of_ble_eq_true rfl) dX3_pointCount_23 ⟨Nat.zero_le _, Nat.zero_le _⟩ ?_
        have hv_1 := hR (k)
        refine zz_if_le (tgt := 33) hx hb (by omega) dX3_pointCount_26 (by decide) (fun c_26 => ?_) (fun c_26 => ?_)
        · refine lv_iconst (v := zi (0)) hx hb dX3_pointCount_33 rfl ?_
          refine zz_iadd hx hb dX3_pointCount_34 ?_
          refine lv_istore_n (lv' := [(2, .int (zi ((((n + p_co rs k : Nat) : Int)) + (0)))), (3, .int (zi ((k : Int)))), (1, .int (zi ((j : Int)))), (0, .ref m0)]) hx hb dX3_pointCount_35 rfl hl (by decide) rfl (fun ls hl => ?_)
          refine lv_iinc (v := zi (((k : Int)) + (1))) (lv' := [(3, .int (zi (((k : Int)) + (1)))), (2, .int (zi ((((n + p_co rs k : Nat) : Int)) + (0)))), (1, .int (zi ((j : Int)))), (0, .ref m0)]) hx hb dX3_pointCount_36 hl (k := 1) rfl (zi_add _ _) (by decide) rfl (fun ls hl => ?_)
          refine lv_goto (tgt := 9) hx hb dX3_pointCount_39 (by decide) ?_
          have hst : ((n + p_co rs (k + 1) : Nat) : Int) = (((n + p_co rs k : Nat) : Int)) + (0) := by rw [p_co, if_pos (by omega)]; omega
          rw [← hst] at hl
          exact ih (k + 1) (by omega) (by omega) ls (lv_sub hl [0, 1, 2, 3] rfl)
        · refine lv_iconst (v := zi (1)) hx hb dX3_pointCount_29 rfl ?_
          refine lv_goto (tgt := 34) hx hb dX3_pointCount_30 (by decide) ?_
          refine zz_iadd hx hb dX3_pointCount_34 ?_
          refine lv_istore_n (lv' := [(2, .int (zi ((((n + p_co rs k : Nat) : Int)) + (1)))), (3, .int (zi ((k : Int)))), (1, .int (zi ((j : Int)))), (0, .ref m0)]) hx hb dX3_pointCount_35 rfl hl (by decide) rfl (fun ls hl => ?_)
          refine lv_iinc (v := zi (((k : Int)) + (1))) (lv' := [(3, .int (zi (((k : Int)) + (1)))), (2, .int (zi ((((n + p_co rs k : Nat) : Int)) + (1)))), (1, .int (zi ((j : Int)))), (0, .ref m0)]) hx hb dX3_pointCount_36 hl (k := 1) rfl (zi_add _ _) (by decide) rfl (fun ls hl => ?_)
          refine lv_goto (tgt := 9) hx hb dX3_pointCount_39 (by decide) ?_
          have hst : ((n + p_co rs (k + 1) : Nat) : Int) = (((n + p_co rs k : Nat) : Int)) + (1) := by rw [p_co, if_neg (by omega)]; omega
          rw [← hst] at hl
          exact ih (k + 1) (by omega) (by omega) ls (lv_sub hl [0, 1, 2, 3] rfl)
  exact key_9 _ 0 (by omega) (Nat.lt_succ_self _) ls (lv_sub hl [0, 1, 3, 2] rfl)

abbrev rm_X3_drawn : Room := { frames := 2, cells := 0, slots := 0, locals := 45 }
set_option maxHeartbeats 4000000 in
set_option maxRecDepth 100000 in
theorem e_drawn_1 (l : Launch) (dC : Nat → ClassId) (dI : Nat → Nat → Nat) (sz : Nat) (m0 a1 a2 a3 a4 a5 a6 a7 a8 a9 a10 a11 : Nat) (tw ab be : Int) (mp mb ml mz : Nat) (q k what : Int) (hmp : mp ≤ 6) (h_q : -2147483648 ≤ q ∧ q < 2147483648) (hbad : ¬ (0 ≤ q ∧ q < (mp : Int))) : Met l yX3_drawn (Cond.code yX3_drawn cX3_drawn 7 ((Option.some Jvm.ClassFile.FieldType.int)) :: gw) rm_X3_drawn (PcW [.ref m0, .int (zi (q)), .int (zi (k)), .int (zi (what))] (dC, dI) vwCl [(m0, .inr (3, [.int (zi (tw)), .int (zi ((mp : Int))), .ref a1, .ref a2, .ref a3, .ref a4, .ref a5, .ref a6, .int (zi ((mb : Int))), .ref a7, .ref a8, .int (zi ((ml : Int))), .ref a9, .ref a10, .int (zi ((mz : Int))), .ref a11, .long (zl (ab)), .long (zl (be))]))] [] sz) (WrQ (some (.int (zi 0))) (dC, dI) vwCl [(m0, .inr (3, [.int (zi (1)), .int (zi ((mp : Int))), .ref a1, .ref a2, .ref a3, .ref a4, .ref a5, .ref a6, .int (zi ((mb : Int))), .ref a7, .ref a8, .int (zi ((ml : Int))), .ref a9, .ref a10, .int (zi ((mz : Int))), .ref a11, .long (zl (ab)), .long (zl (be))]))] (va_A [(m0, .inr (3, [.int (zi (tw)), .int (zi ((mp : Int))), .ref a1, .ref a2, .ref a3, .ref a4, .ref a5, .ref a6, .int (zi ((mb : Int))), .ref a7, .ref a8, .int (zi ((ml : Int))), .ref a9, .ref a10, .int (zi ((mz : Int))), .ref a11, .long (zl (ab)), .long (zl (be))]))] sz)) 0 0 (va_A [(m0, .inr (3, [.int (zi (tw)), .int (zi ((mp : Int))), .ref a1, .ref a2, .ref a3, .ref a4, .ref a5, .ref a6, .int (zi ((mb : Int))), .ref a7, .ref a8, .int (zi ((ml : Int))), .ref a9, .ref a10, .int (zi ((mz : Int))), .ref a11, .long (zl (ab)), .long (zl (be))]))] sz) := by
  refine Met.ofW (cc := cX3_drawn) (maxL := 7) (ret := ((Option.some Jvm.ClassFile.FieldType.int))) (by decide) rfl ?_
  intro p e s m args below meth c s₁ B hml hv
  obtain ⟨hargs, hsz, hP, hK, hD0⟩ := hv
  have hx := B.exec
  have hb := B.bytes
  have hr := B.returns
  have hts := atoms_spec (ws := Cond.code yX3_drawn cX3_drawn 7 ((Option.some Jvm.ClassFile.FieldType.int)) :: gw) B.pre
  have hg : ∀ w ∈ gw, w.before args s = true := fun w h => hts w (List.mem_cons_of_mem _ h)
  have hown : s.vm.findClass RX3 = some m.cls := findClass_of_methodNamed B.named
  have hlocks := B.notSynchronized
  subst hsz
  have hD := hD0.self (sz := s.heap.size)
  generalize hAe : va_A [(m0, .inr (3, [.int (zi (tw)), .int (zi ((mp : Int))), .ref a1, .ref a2, .ref a3, .ref a4, .ref a5, .ref a6, .int (zi ((mb : Int))), .ref a7, .ref a8, .int (zi ((ml : Int))), .ref a9, .ref a10, .int (zi ((mz : Int))), .ref a11, .long (zl (ab)), .long (zl (be))]))] s.heap.size = A at hD ⊢
  have hA : ∀ q : Nat, s.heap.size ≤ q → A q := fun q h => by rw [← hAe]; exact Or.inr h
  show W p l e rm_X3_drawn s m args below meth c s.heap [] 0 0 _ _
  have hl := lv_entry ([.ref m0, .int (zi (q)), .int (zi (k)), .int (zi (what))]) (n := 7) (Nat.le_of_ble_eq_true rfl)
  rw [show entryFrame m args 7 = entryFrame m ([.ref m0, .int (zi (q)), .int (zi (k)), .int (zi (what))] : List Value).toArray 7 by rw [hargs], lg_entry_eq]
  generalize (lg_sl ([.ref m0, .int (zi (q)), .int (zi (k)), .int (zi (what))]) ++ List.replicate (7 - (lg_sl ([.ref m0, .int (zi (q)), .int (zi (k)), .int (zi (what))])).length) Slot.unset).toArray = ls at hl ⊢
  have hl : lv_has ls 7 [(0, .ref m0), (1, .int (zi (q))), (2, .int (zi (k))), (3, .int (zi (what)))] := hl
  obtain ⟨QQ, hQQ⟩ : ∃ Q, Q = MQ below (WrQ (some (.int (zi 0))) (dC, dI) vwCl [(m0, .inr (3, [.int (zi (1)), .int (zi ((mp : Int))), .ref a1, .ref a2, .ref a3, .ref a4, .ref a5, .ref a6, .int (zi ((mb : Int))), .ref a7, .ref a8, .int (zi ((ml : Int))), .ref a9, .ref a10, .int (zi ((mz : Int))), .ref a11, .long (zl (ab)), .long (zl (be))]))] A) args s 0 0 A := ⟨_, rfl⟩
  rw [← hQQ]
  obtain ⟨H, hHe⟩ : ∃ H : Heap, H = s.heap := ⟨_, rfl⟩
  obtain ⟨locs, hlc⟩ : ∃ x : List Loc, x = [] := ⟨_, rfl⟩
  have hS : va_S A s.heap H locs := by rw [hHe, hlc]; exact va_S.rf
  have hP : va_P (dC, dI) vwCl [(m0, .inr (3, [.int (zi (tw)), .int (zi ((mp : Int))), .ref a1, .ref a2, .ref a3, .ref a4, .ref a5, .ref a6, .int (zi ((mb : Int))), .ref a7, .ref a8, .int (zi ((ml : Int))), .ref a9, .ref a10, .int (zi ((mz : Int))), .ref a11, .long (zl (ab)), .long (zl (be))]))] H := by rw [hHe]; exact hP
  have hD : va_D A [(m0, .inr (3, [.int (zi (tw)), .int (zi ((mp : Int))), .ref a1, .ref a2, .ref a3, .ref a4, .ref a5, .ref a6, .int (zi ((mb : Int))), .ref a7, .ref a8, .int (zi ((ml : Int))), .ref a9, .ref a10, .int (zi ((mz : Int))), .ref a11, .long (zl (ab)), .long (zl (be))]))] := hD
  rw [← hHe, ← hlc]
  refine lv_aload_n hx hb dX3_drawn_0 rfl (lv_at hl 0 rfl) ?_
  refine lv_aload_n hx hb dX3_drawn_1 rfl (lv_at hl 0 rfl) ?_
  refine lv_iload_n hx hb dX3_drawn_2 rfl (lv_at hl 1 rfl) ?_
  refine rdV (As := [.int (zi (q))]) (rest := [.ref m0]) (n := 1) hx hb hml hown hg (c_X3_isProfile l dC dI m0 a1 a2 a3 a4 a5 a6 a7 a8 a9 a10 a11 (tw) (ab) (be) mp mb ml mz (q) hmp (by omega)) (gwV wl_X3_70 wm_X3_isProfile we_X3_isProfile wi_X3 wc_X3_isProfile) rfl rfl (by decide +kernel) ⟨Nat.le_of_ble_eq_true rfl, Nat.le_of_ble_eq_true rfl⟩ (hK.sub [] rfl) (hP.sub [0] rfl) 0 rfl rfl rfl rfl hl.1 rfl (Nat.le_of_ble_eq_true rfl) dX3_drawn_3 ⟨Nat.zero_le _, Nat.zero_le _⟩ ?_
  refine zz_topi (z := 0) (congrArg zi (zb_f (decide_eq_false (by omega)))) ?_
  refine zz_if_eq (tgt := 33) hx hb (by omega) dX3_drawn_6 (by decide) (fun c_6 => ?_) (fun c_6 => ?_)
  · refine lv_iconst (v := zi (1)) hx hb dX3_drawn_33 rfl ?_
    refine lv_goto (tgt := 38) hx hb dX3_drawn_34 (by decide) ?_
    refine lv_iconst (v := zi (0)) hx hb dX3_drawn_38 rfl ?_
    refine lv_iconst (v := zi (0)) hx hb dX3_drawn_39 rfl ?_
    refine wrV (As := [.int (zi (1)), .int (zi (0)), .int (zi (0))]) (rest := []) (n := 3) (ws' := [(m0, .inr (3, [.int (zi (1)), .int (zi ((mp : Int))), .ref a1, .ref a2, .ref a3, .ref a4, .ref a5, .ref a6, .int (zi ((mb : Int))), .ref a7, .ref a8, .int (zi ((ml : Int))), .ref a9, .ref a10, .int (zi ((mz : Int))), .ref a11, .long (zl (ab)), .long (zl (be))]))]) hx hb hml hown hg (c_throwing l dC dI H.size m0 a1 a2 a3 a4 a5 a6 a7 a8 a9 a10 a11 (tw) (ab) (be) mp mb ml mz 1 0 0 (by decide) (by decide) (by decide)) (gwV wl_X3_59 wm_X3_throwing we_X3_throwing wi_X3 wc_X3_throwing) rfl rfl (by decide +kernel) ⟨Nat.le_of_ble_eq_true rfl, Nat.le_of_ble_eq_true rfl⟩ (hK.sub [] rfl) hP hD hS hA [0] rfl (by decide) [(true, 0)] rfl (by decide) rfl 0 rfl rfl rfl rfl hl.1 rfl (Nat.le_of_ble_eq_true rfl) dX3_drawn_40 ⟨Nat.zero_le _, Nat.zero_le _⟩ (fun H locs hP hD hS => ?_)
    refine zz_topi (z := 1) (congrArg zi (by decide)) ?_
    refine zz_if_eq (tgt := 48) hx hb (by omega) dX3_drawn_43 (by decide) (fun c_43 => ?_) (fun c_43 => ?_)
    · exact absurd c_43 (by decide)
    · refine lv_iconst (v := zi (0)) hx hb dX3_drawn_46 rfl ?_
      have hP9 : va_P (dC, dI) vwCl [(m0, .inr (3, [.int (zi (1)), .int (zi ((mp : Int))), .ref a1, .ref a2, .ref a3, .ref a4, .ref a5, .ref a6, .int (zi ((mb : Int))), .ref a7, .ref a8, .int (zi ((ml : Int))), .ref a9, .ref a10, .int (zi ((mz : Int))), .ref a11, .long (zl (ab)), .long (zl (be))]))] H := hP
      rw [hQQ]
      exact wr_i hx hb hr hlocks rfl hP9 hS dX3_drawn_47
  · exact absurd c_6 (by decide)

set_option maxHeartbeats 4000000 in
set_option maxRecDepth 100000 in
theorem e_drawn_2 (l : Launch) (dC : Nat → ClassId) (dI : Nat → Nat → Nat) (sz : Nat) (m0 a1 a2 a3 a4 a5 a6 a7 a8 a9 a10 a11 : Nat) (tw ab be : Int) (mp mb ml mz : Nat) (cA : ClassId) (j n : Nat) (sf hh rr hs rs : Nat → Int) (k what : Int) (hj : j < 6) (hsf : sf j = (n : Int)) (hhs : ∀ k, k < 12 → hh (12 * j + k) = hs k) (hrs : ∀ k, k < 12 → rr (12 * j + k) = rs k) (hn : n ≤ 12) (hH : ∀ j, 0 ≤ hs j ∧ hs j ≤ 400) (hR : ∀ j, 0 ≤ rs j ∧ rs j ≤ 200) (hmp : mp ≤ 6) (hjp : j < mp) (h_k : -2147483648 ≤ k ∧ k < 2147483648) (h_what : -2147483648 ≤ what ∧ what < 2147483648) (hbad : ¬ ((k = -1 ∨ (0 ≤ k ∧ k < ((n + p_co rs n : Nat) : Int))) ∧ (what = 0 ∨ what = 1))) : Met l yX3_drawn (Cond.code yX3_drawn cX3_drawn 7 ((Option.some Jvm.ClassFile.FieldType.int)) :: gw) rm_X3_drawn (PcW [.ref m0, .int (zi ((j : Int))), .int (zi (k)), .int (zi (what))] (dC, dI) vwCl [(m0, .inr (3, [.int (zi (tw)), .int (zi ((mp : Int))), .ref a1, .ref a2, .ref a3, .ref a4, .ref a5, .ref a6, .int (zi ((mb : Int))), .ref a7, .ref a8, .int (zi ((ml : Int))), .ref a9, .ref a10, .int (zi ((mz : Int))), .ref a11, .long (zl (ab)), .long (zl (be))])), (a1, .inl (cA, 6, .inl (zA (sf)))), (a2, .inl (cA, 72, .inl (zA (hh)))), (a3, .inl (cA, 72, .inl (zA (rr))))] [(cA, .int)] sz) (WrQ (some (.int (zi 0))) (dC, dI) vwCl [(m0, .inr (3, [.int (zi (1)), .int (zi ((mp : Int))), .ref a1, .ref a2, .ref a3, .ref a4, .ref a5, .ref a6, .int (zi ((mb : Int))), .ref a7, .ref a8, .int (zi ((ml : Int))), .ref a9, .ref a10, .int (zi ((mz : Int))), .ref a11, .long (zl (ab)), .long (zl (be))])), (a1, .inl (cA, 6, .inl (zA (sf)))), (a2, .inl (cA, 72, .inl (zA (hh)))), (a3, .inl (cA, 72, .inl (zA (rr))))] (va_A [(m0, .inr (3, [.int (zi (tw)), .int (zi ((mp : Int))), .ref a1, .ref a2, .ref a3, .ref a4, .ref a5, .ref a6, .int (zi ((mb : Int))), .ref a7, .ref a8, .int (zi ((ml : Int))), .ref a9, .ref a10, .int (zi ((mz : Int))), .ref a11, .long (zl (ab)), .long (zl (be))])), (a1, .inl (cA, 6, .inl (zA (sf)))), (a2, .inl (cA, 72, .inl (zA (hh)))), (a3, .inl (cA, 72, .inl (zA (rr))))] sz)) 0 0 (va_A [(m0, .inr (3, [.int (zi (tw)), .int (zi ((mp : Int))), .ref a1, .ref a2, .ref a3, .ref a4, .ref a5, .ref a6, .int (zi ((mb : Int))), .ref a7, .ref a8, .int (zi ((ml : Int))), .ref a9, .ref a10, .int (zi ((mz : Int))), .ref a11, .long (zl (ab)), .long (zl (be))])), (a1, .inl (cA, 6, .inl (zA (sf)))), (a2, .inl (cA, 72, .inl (zA (hh)))), (a3, .inl (cA, 72, .inl (zA (rr))))] sz) := by
  refine Met.ofW (cc := cX3_drawn) (maxL := 7) (ret := ((Option.some Jvm.ClassFile.FieldType.int))) (by decide) rfl ?_
  intro p e s m args below meth c s₁ B hml hv
  obtain ⟨hargs, hsz, hP, hK, hD0⟩ := hv
  have hx := B.exec
  have hb := B.bytes
  have hr := B.returns
  have hts := atoms_spec (ws := Cond.code yX3_drawn cX3_drawn 7 ((Option.some Jvm.ClassFile.FieldType.int)) :: gw) B.pre
  have hg : ∀ w ∈ gw, w.before args s = true := fun w h => hts w (List.mem_cons_of_mem _ h)
  have hown : s.vm.findClass RX3 = some m.cls := findClass_of_methodNamed B.named
  have hlocks := B.notSynchronized
  subst hsz
  have hD := hD0.self (sz := s.heap.size)
  generalize hAe : va_A [(m0, .inr (3, [.int (zi (tw)), .int (zi ((mp : Int))), .ref a1, .ref a2, .ref a3, .ref a4, .ref a5, .ref a6, .int (zi ((mb : Int))), .ref a7, .ref a8, .int (zi ((ml : Int))), .ref a9, .ref a10, .int (zi ((mz : Int))), .ref a11, .long (zl (ab)), .long (zl (be))])), (a1, .inl (cA, 6, .inl (zA (sf)))), (a2, .inl (cA, 72, .inl (zA (hh)))), (a3, .inl (cA, 72, .inl (zA (rr))))] s.heap.size = A at hD ⊢
  have hA : ∀ q : Nat, s.heap.size ≤ q → A q := fun q h => by rw [← hAe]; exact Or.inr h
  show W p l e rm_X3_drawn s m args below meth c s.heap [] 0 0 _ _
  have hl := lv_entry ([.ref m0, .int (zi ((j : Int))), .int (zi (k)), .int (zi (what))]) (n := 7) (Nat.le_of_ble_eq_true rfl)
  rw [show entryFrame m args 7 = entryFrame m ([.ref m0, .int (zi ((j : Int))), .int (zi (k)), .int (zi (what))] : List Value).toArray 7 by rw [hargs], lg_entry_eq]
  generalize (lg_sl ([.ref m0, .int (zi ((j : Int))), .int (zi (k)), .int (zi (what))]) ++ List.replicate (7 - (lg_sl ([.ref m0, .int (zi ((j : Int))), .int (zi (k)), .int (zi (what))])).length) Slot.unset).toArray = ls at hl ⊢
  have hl : lv_has ls 7 [(0, .ref m0), (1, .int (zi ((j : Int)))), (2, .int (zi (k))), (3, .int (zi (what)))] := hl
  obtain ⟨QQ, hQQ⟩ : ∃ Q, Q = MQ below (WrQ (some (.int (zi 0))) (dC, dI) vwCl [(m0, .inr (3, [.int (zi (1)), .int (zi ((mp : Int))), .ref a1, .ref a2, .ref a3, .ref a4, .ref a5, .ref a6, .int (zi ((mb : Int))), .ref a7, .ref a8, .int (zi ((ml : Int))), .ref a9, .ref a10, .int (zi ((mz : Int))), .ref a11, .long (zl (ab)), .long (zl (be))])), (a1, .inl (cA, 6, .inl (zA (sf)))), (a2, .inl (cA, 72, .inl (zA (hh)))), (a3, .inl (cA, 72, .inl (zA (rr))))] A) args s 0 0 A := ⟨_, rfl⟩
  rw [← hQQ]
  obtain ⟨H, hHe⟩ : ∃ H : Heap, H = s.heap := ⟨_, rfl⟩
  obtain ⟨locs, hlc⟩ : ∃ x : List Loc, x = [] := ⟨_, rfl⟩
  have hS : va_S A s.heap H locs := by rw [hHe, hlc]; exact va_S.rf
  have hP : va_P (dC, dI) vwCl [(m0, .inr (3, [.int (zi (tw)), .int (zi ((mp : Int))), .ref a1, .ref a2, .ref a3, .ref a4, .ref a5, .ref a6, .int (zi ((mb : Int))), .ref a7, .ref a8, .int (zi ((ml : Int))), .ref a9, .ref a10, .int (zi ((mz : Int))), .ref a11, .long (zl (ab)), .long (zl (be))])), (a1, .inl (cA, 6, .inl (zA (sf)))), (a2, .inl (cA, 72, .inl (zA (hh)))), (a3, .inl (cA, 72, .inl (zA (rr))))] H := by rw [hHe]; exact hP
  have hD : va_D A [(m0, .inr (3, [.int (zi (tw)), .int (zi ((mp : Int))), .ref a1, .ref a2, .ref a3, .ref a4, .ref a5, .ref a6, .int (zi ((mb : Int))), .ref a7, .ref a8, .int (zi ((ml : Int))), .ref a9, .ref a10, .int (zi ((mz : Int))), .ref a11, .long (zl (ab)), .long (zl (be))])), (a1, .inl (cA, 6, .inl (zA (sf)))), (a2, .inl (cA, 72, .inl (zA (hh)))), (a3, .inl (cA, 72, .inl (zA (rr))))] := hD
  rw [← hHe, ← hlc]
  have hpc := p_co_le rs n
  refine lv_aload_n hx hb dX3_drawn_0 rfl (lv_at hl 0 rfl) ?_
  refine lv_aload_n hx hb dX3_drawn_1 rfl (lv_at hl 0 rfl) ?_
  refine lv_iload_n hx hb dX3_drawn_2 rfl (lv_at hl 1 rfl) ?_
  refine rdV (As := [.int (zi ((j : Int)))]) (rest := [.ref m0]) (n := 1) hx hb hml hown hg (c_X3_isProfile l dC dI m0 a1 a2 a3 a4 a5 a6 a7 a8 a9 a10 a11 (tw) (ab) (be) mp mb ml mz ((j : Int)) hmp (by omega)) (gwV wl_X3_70 wm_X3_isProfile we_X3_isProfile wi_X3 wc_X3_isProfile) rfl rfl (by decide +kernel) ⟨Nat.le_of_ble_eq_true rfl, Nat.le_of_ble_eq_true rfl⟩ (hK.sub [] rfl) (hP.sub [0] rfl) 0 rfl rfl rfl rfl hl.1 rfl (Nat.le_of_ble_eq_true rfl) dX3_drawn_3 ⟨Nat.zero_le _, Nat.zero_le _⟩ ?_
  refine zz_topi (z := 1) (congrArg zi (zb_t (decide_eq_true (by omega)))) ?_
  refine zz_if_eq (tgt := 33) hx hb (by omega) dX3_drawn_6 (by decide) (fun c_6 => ?_) (fun c_6 => ?_)
  · exact absurd c_6 (by decide)
  · refine lv_iload_n hx hb dX3_drawn_9 rfl (lv_at hl 2 rfl) ?_
    refine lv_iconst (v := zi (-1)) hx hb dX3_drawn_10 rfl ?_
    refine lv_aload_n hx hb dX3_drawn_11 rfl (lv_at hl 0 rfl) ?_
    refine lv_iload_n hx hb dX3_drawn_12 rfl (lv_at hl 1 rfl) ?_
    refine rdV (As := [.int (zi ((j : Int)))]) (rest := [.int (zi (-1)), .int (zi (k)), .ref m0]) (n := 1) hx hb hml hown hg (c_X3_pointCount l dC dI m0 a1 a2 a3 a4 a5 a6 a7 a8 a9 a10 a11 (tw) (ab) (be) mp mb ml mz cA j n sf hh rr hs rs hj hsf hhs hrs hn hH hR) (gwV wl_X3_131 wm_X3_pointCount we_X3_pointCount wi_X3 wc_X3_pointCount) rfl rfl (by decide +kernel) ⟨Nat.le_of_ble_eq_true rfl, Nat.le_of_ble_eq_true rfl⟩ (hK.sub [0] rfl) (hP.sub [0, 1, 2, 3] rfl) 0 rfl rfl rfl rfl hl.1 rfl (Nat.le_of_ble_eq_true rfl) dX3_drawn_13 ⟨Nat.zero_le _, Nat.zero_le _⟩ ?_
    refine lv_iconst (v := zi (1)) hx hb dX3_drawn_16 rfl ?_
    refine zz_isub hx hb dX3_drawn_17 ?_
    refine rdS (As := [.int (zi (k)), .int (zi (-1)), .int (zi ((((n + p_co rs n : Nat) : Int)) - (1)))]) (rest := [.ref m0]) (n := 3) hx hb hml hown hg (c_X3_in l (k) (-1) ((((n + p_co rs n : Nat) : Int)) - (1)) (by omega) (by omega) (by omega)) (gwS wl_X3_55 wt_X3_in wi_X3 wc_X3_in) rfl rfl (by decide +kernel) ⟨Nat.le_of_ble_eq_true rfl, Nat.le_of_ble_eq_true rfl⟩ rfl hl.1 rfl (Nat.le_of_ble_eq_true rfl) dX3_drawn_18 ⟨Nat.zero_le _, Nat.zero_le _⟩ ?_
    refine zz_zb_eq (tgt := 33) hx hb dX3_drawn_21 (by decide) (fun c_21 => ?_) (fun c_21 => ?_)
    · refine lv_iconst (v := zi (1)) hx hb dX3_drawn_33 rfl ?_
      refine lv_goto (tgt := 38) hx hb dX3_drawn_34 (by decide) ?_
      refine lv_iconst (v := zi (0)) hx hb dX3_drawn_38 rfl ?_
      refine lv_iconst (v := zi (0)) hx hb dX3_drawn_39 rfl ?_
      refine wrV (As := [.int (zi (1)), .int (zi (0)), .int (zi (0))]) (rest := []) (n := 3) (ws' := [(m0, .inr (3, [.int (zi (1)), .int (zi ((mp : Int))), .ref a1, .ref a2, .ref a3, .ref a4, .ref a5, .ref a6, .int (zi ((mb : Int))), .ref a7, .ref a8, .int (zi ((ml : Int))), .ref a9, .ref a10, .int (zi ((mz : Int))), .ref a11, .long (zl (ab)), .long (zl (be))])), (a1, .inl (cA, 6, .inl (zA (sf)))), (a2, .inl (cA, 72, .inl (zA (hh)))), (a3, .inl (cA, 72, .inl (zA (rr))))]) hx hb hml hown hg (c_throwing l dC dI H.size m0 a1 a2 a3 a4 a5 a6 a7 a8 a9 a10 a11 (tw) (ab) (be) mp mb ml mz 1 0 0 (by decide) (by decide) (by decide)) (gwV wl_X3_59 wm_X3_throwing we_X3_throwing wi_X3 wc_X3_throwing) rfl rfl (by decide +kernel) ⟨Nat.le_of_ble_eq_true rfl, Nat.le_of_ble_eq_true rfl⟩ (hK.sub [] rfl) hP hD hS hA [0] rfl (by decide) [(true, 0), (false, 1), (false, 2), (false, 3)] rfl (by decide) rfl 0 rfl rfl rfl rfl hl.1 rfl (Nat.le_of_ble_eq_true rfl) dX3_drawn_40 ⟨Nat.zero_le _, Nat.zero_le _⟩ (fun H locs hP hD hS => ?_)
      refine zz_topi (z := 1) (congrArg zi (by decide)) ?_
      refine zz_if_eq (tgt := 48) hx hb (by omega) dX3_drawn_43 (by decide) (fun c_43 => ?_) (fun c_43 => ?_)
      · exact absurd c_43 (by decide)
      · refine lv_iconst (v := zi (0)) hx hb dX3_drawn_46 rfl ?_
        have hP9 : va_P (dC, dI) vwCl [(m0, .inr (3, [.int (zi (1)), .int (zi ((mp : Int))), .ref a1, .ref a2, .ref a3, .ref a4, .ref a5, .ref a6, .int (zi ((mb : Int))), .ref a7, .ref a8, .int (zi ((ml : Int))), .ref a9, .ref a10, .int (zi ((mz : Int))), .ref a11, .long (zl (ab)), .long (zl (be))])), (a1, .inl (cA, 6, .inl (zA (sf)))), (a2, .inl (cA, 72, .inl (zA (hh)))), (a3, .inl (cA, 72, .inl (zA (rr))))] H := hP
        rw [hQQ]
        exact wr_i hx hb hr hlocks rfl hP9 hS dX3_drawn_47
    · refine lv_iload_n hx hb dX3_drawn_24 rfl (lv_at hl 3 rfl) ?_
      refine lv_iconst (v := zi (0)) hx hb dX3_drawn_25 rfl ?_
      refine lv_iconst (v := zi (1)) hx hb dX3_drawn_26 rfl ?_
      refine rdS (As := [.int (zi (what)), .int (zi (0)), .int (zi (1))]) (rest := [.ref m0]) (n := 3) hx hb hml hown hg (c_X3_in l (what) (0) (1) (by omega) (by omega) (by omega)) (gwS wl_X3_55 wt_X3_in wi_X3 wc_X3_in) rfl rfl (by decide +kernel) ⟨Nat.le_of_ble_eq_true rfl, Nat.le_of_ble_eq_true rfl⟩ rfl hl.1 rfl (Nat.le_of_ble_eq_true rfl) dX3_drawn_27 ⟨Nat.zero_le _, Nat.zero_le _⟩ ?_
      refine zz_zb_ne (tgt := 37) hx hb dX3_drawn_30 (by decide) (fun c_30 => ?_) (fun c_30 => ?_)
      · exact False.elim (by omega)
      · refine lv_iconst (v := zi (1)) hx hb dX3_drawn_33 rfl ?_
        refine lv_goto (tgt := 38) hx hb dX3_drawn_34 (by decide) ?_
        refine lv_iconst (v := zi (0)) hx hb dX3_drawn_38 rfl ?_
        refine lv_iconst (v := zi (0)) hx hb dX3_drawn_39 rfl ?_
        refine wrV (As := [.int (zi (1)), .int (zi (0)), .int (zi (0))]) (rest := []) (n := 3) (ws' := [(m0, .inr (3, [.int (zi (1)), .int (zi ((mp : Int))), .ref a1, .ref a2, .ref a3, .ref a4, .ref a5, .ref a6, .int (zi ((mb : Int))), .ref a7, .ref a8, .int (zi ((ml : Int))), .ref a9, .ref a10, .int (zi ((mz : Int))), .ref a11, .long (zl (ab)), .long (zl (be))])), (a1, .inl (cA, 6, .inl (zA (sf)))), (a2, .inl (cA, 72, .inl (zA (hh)))), (a3, .inl (cA, 72, .inl (zA (rr))))]) hx hb hml hown hg (c_throwing l dC dI H.size m0 a1 a2 a3 a4 a5 a6 a7 a8 a9 a10 a11 (tw) (ab) (be) mp mb ml mz 1 0 0 (by decide) (by decide) (by decide)) (gwV wl_X3_59 wm_X3_throwing we_X3_throwing wi_X3 wc_X3_throwing) rfl rfl (by decide +kernel) ⟨Nat.le_of_ble_eq_true rfl, Nat.le_of_ble_eq_true rfl⟩ (hK.sub [] rfl) hP hD hS hA [0] rfl (by decide) [(true, 0), (false, 1), (false, 2), (false, 3)] rfl (by decide) rfl 0 rfl rfl rfl rfl hl.1 rfl (Nat.le_of_ble_eq_true rfl) dX3_drawn_40 ⟨Nat.zero_le _, Nat.zero_le _⟩ (fun H locs hP hD hS => ?_)
        refine zz_topi (z := 1) (congrArg zi (by decide)) ?_
        refine zz_if_eq (tgt := 48) hx hb (by omega) dX3_drawn_43 (by decide) (fun c_43 => ?_) (fun c_43 => ?_)
        · exact absurd c_43 (by decide)
        · refine lv_iconst (v := zi (0)) hx hb dX3_drawn_46 rfl ?_
          have hP9 : va_P (dC, dI) vwCl [(m0, .inr (3, [.int (zi (1)), .int (zi ((mp : Int))), .ref a1, .ref a2, .ref a3, .ref a4, .ref a5, .ref a6, .int (zi ((mb : Int))), .ref a7, .ref a8, .int (zi ((ml : Int))), .ref a9, .ref a10, .int (zi ((mz : Int))), .ref a11, .long (zl (ab)), .long (zl (be))])), (a1, .inl (cA, 6, .inl (zA (sf)))), (a2, .inl (cA, 72, .inl (zA (hh)))), (a3, .inl (cA, 72, .inl (zA (rr))))] H := hP
          rw [hQQ]
          exact wr_i hx hb hr hlocks rfl hP9 hS dX3_drawn_47

theorem m_fo_lt {n i d : Nat} {rs : Nat → Int} {a : Int} (h : p_fo rs a (n - i) i d = p_fo rs a n 0 0) (h0 : 0 ≤ p_fo rs a n 0 0) : i < n := by
  rcases Nat.lt_or_ge i n with q | q
  · exact q
  · rw [show n - i = 0 by omega, p_fo] at h
    omega
set_option maxHeartbeats 4000000 in
set_option maxRecDepth 100000 in
theorem k_drawn (l : Launch) (dC : Nat → ClassId) (dI : Nat → Nat → Nat) (sz : Nat) (m0 a1 a2 a3 a4 a5 a6 a7 a8 a9 a10 a11 : Nat) (tw ab be : Int) (mp mb ml mz : Nat) (cA : ClassId) (j n : Nat) (sf hh rr hs rs : Nat → Int) (k what : Int) (hj : j < 6) (hsf : sf j = (n : Int)) (hhs : ∀ k, k < 12 → hh (12 * j + k) = hs k) (hrs : ∀ k, k < 12 → rr (12 * j + k) = rs k) (hn : n ≤ 12) (hH : ∀ j, 0 ≤ hs j ∧ hs j ≤ 400) (hR : ∀ j, 0 ≤ rs j ∧ rs j ≤ 200) (hmp : mp ≤ 6) (hjp : j < mp) (h_k : -2147483648 ≤ k ∧ k < 2147483648) (h_what : -2147483648 ≤ what ∧ what < 2147483648) (hwh : what = 0 ∨ what = 1) (hok : k = -1 ∨ (0 ≤ k ∧ k < ((n + p_co rs n : Nat) : Int))) (hfz : (n : Int) ≤ k → 0 ≤ p_fo rs (k - n) n 0 0) : Met l yX3_drawn (Cond.code yX3_drawn cX3_drawn 7 ((Option.some Jvm.ClassFile.FieldType.int)) :: gw) rm_X3_drawn (PcW [.ref m0, .int (zi ((j : Int))), .int (zi (k)), .int (zi (what))] (dC, dI) vwCl [(m0, .inr (3, [.int (zi (tw)), .int (zi ((mp : Int))), .ref a1, .ref a2, .ref a3, .ref a4, .ref a5, .ref a6, .int (zi ((mb : Int))), .ref a7, .ref a8, .int (zi ((ml : Int))), .ref a9, .ref a10, .int (zi ((mz : Int))), .ref a11, .long (zl (ab)), .long (zl (be))])), (a1, .inl (cA, 6, .inl (zA (sf)))), (a2, .inl (cA, 72, .inl (zA (hh)))), (a3, .inl (cA, 72, .inl (zA (rr))))] [(cA, .int)] sz) (WrQ (some (.int (zi (p_drawn n hs rs k what)))) (dC, dI) vwCl [(m0, .inr (3, [.int (zi (0)), .int (zi ((mp : Int))), .ref a1, .ref a2, .ref a3, .ref a4, .ref a5, .ref a6, .int (zi ((mb : Int))), .ref a7, .ref a8, .int (zi ((ml : Int))), .ref a9, .ref a10, .int (zi ((mz : Int))), .ref a11, .long (zl (ab)), .long (zl (be))])), (a1, .inl (cA, 6, .inl (zA (sf)))), (a2, .inl (cA, 72, .inl (zA (hh)))), (a3, .inl (cA, 72, .inl (zA (rr))))] (va_A [(m0, .inr (3, [.int (zi (tw)), .int (zi ((mp : Int))), .ref a1, .ref a2, .ref a3, .ref a4, .ref a5, .ref a6, .int (zi ((mb : Int))), .ref a7, .ref a8, .int (zi ((ml : Int))), .ref a9, .ref a10, .int (zi ((mz : Int))), .ref a11, .long (zl (ab)), .long (zl (be))])), (a1, .inl (cA, 6, .inl (zA (sf)))), (a2, .inl (cA, 72, .inl (zA (hh)))), (a3, .inl (cA, 72, .inl (zA (rr))))] sz)) 0 0 (va_A [(m0, .inr (3, [.int (zi (tw)), .int (zi ((mp : Int))), .ref a1, .ref a2, .ref a3, .ref a4, .ref a5, .ref a6, .int (zi ((mb : Int))), .ref a7, .ref a8, .int (zi ((ml : Int))), .ref a9, .ref a10, .int (zi ((mz : Int))), .ref a11, .long (zl (ab)), .long (zl (be))])), (a1, .inl (cA, 6, .inl (zA (sf)))), (a2, .inl (cA, 72, .inl (zA (hh)))), (a3, .inl (cA, 72, .inl (zA (rr))))] sz) := by
  refine Met.ofW (cc := cX3_drawn) (maxL := 7) (ret := ((Option.some Jvm.ClassFile.FieldType.int))) (by decide) rfl ?_
  intro p e s m args below meth c s₁ B hml hv
  obtain ⟨hargs, hsz, hP, hK, hD0⟩ := hv
  have hx := B.exec
  have hb := B.bytes
  have hr := B.returns
  have hts := atoms_spec (ws := Cond.code yX3_drawn cX3_drawn 7 ((Option.some Jvm.ClassFile.FieldType.int)) :: gw) B.pre
  have hg : ∀ w ∈ gw, w.before args s = true := fun w h => hts w (List.mem_cons_of_mem _ h)
  have hown : s.vm.findClass RX3 = some m.cls := findClass_of_methodNamed B.named
  have hlocks := B.notSynchronized
  subst hsz
  have hD := hD0.self (sz := s.heap.size)
  generalize hAe : va_A [(m0, .inr (3, [.int (zi (tw)), .int (zi ((mp : Int))), .ref a1, .ref a2, .ref a3, .ref a4, .ref a5, .ref a6, .int (zi ((mb : Int))), .ref a7, .ref a8, .int (zi ((ml : Int))), .ref a9, .ref a10, .int (zi ((mz : Int))), .ref a11, .long (zl (ab)), .long (zl (be))])), (a1, .inl (cA, 6, .inl (zA (sf)))), (a2, .inl (cA, 72, .inl (zA (hh)))), (a3, .inl (cA, 72, .inl (zA (rr))))] s.heap.size = A at hD ⊢
  have hA : ∀ q : Nat, s.heap.size ≤ q → A q := fun q h => by rw [← hAe]; exact Or.inr h
  show W p l e rm_X3_drawn s m args below meth c s.heap [] 0 0 _ _
  have hl := lv_entry ([.ref m0, .int (zi ((j : Int))), .int (zi (k)), .int (zi (what))]) (n := 7) (Nat.le_of_ble_eq_true rfl)
  rw [show entryFrame m args 7 = entryFrame m ([.ref m0, .int (zi ((j : Int))), .int (zi (k)), .int (zi (what))] : List Value).toArray 7 by rw [hargs], lg_entry_eq]
  generalize (lg_sl ([.ref m0, .int (zi ((j : Int))), .int (zi (k)), .int (zi (what))]) ++ List.replicate (7 - (lg_sl ([.ref m0, .int (zi ((j : Int))), .int (zi (k)), .int (zi (what))])).length) Slot.unset).toArray = ls at hl ⊢
  have hl : lv_has ls 7 [(0, .ref m0), (1, .int (zi ((j : Int)))), (2, .int (zi (k))), (3, .int (zi (what)))] := hl
  obtain ⟨QQ, hQQ⟩ : ∃ Q, Q = MQ below (WrQ (some (.int (zi (p_drawn n hs rs k what)))) (dC, dI) vwCl [(m0, .inr (3, [.int (zi (0)), .int (zi ((mp : Int))), .ref a1, .ref a2, .ref a3, .ref a4, .ref a5, .ref a6, .int (zi ((mb : Int))), .ref a7, .ref a8, .int (zi ((ml : Int))), .ref a9, .ref a10, .int (zi ((mz : Int))), .ref a11, .long (zl (ab)), .long (zl (be))])), (a1, .inl (cA, 6, .inl (zA (sf)))), (a2, .inl (cA, 72, .inl (zA (hh)))), (a3, .inl (cA, 72, .inl (zA (rr))))] A) args s 0 0 A := ⟨_, rfl⟩
  rw [← hQQ]
  obtain ⟨H, hHe⟩ : ∃ H : Heap, H = s.heap := ⟨_, rfl⟩
  obtain ⟨locs, hlc⟩ : ∃ x : List Loc, x = [] := ⟨_, rfl⟩
  have hS : va_S A s.heap H locs := by rw [hHe, hlc]; exact va_S.rf
  have hP : va_P (dC, dI) vwCl [(m0, .inr (3, [.int (zi (tw)), .int (zi ((mp : Int))), .ref a1, .ref a2, .ref a3, .ref a4, .ref a5, .ref a6, .int (zi ((mb : Int))), .ref a7, .ref a8, .int (zi ((ml : Int))), .ref a9, .ref a10, .int (zi ((mz : Int))), .ref a11, .long (zl (ab)), .long (zl (be))])), (a1, .inl (cA, 6, .inl (zA (sf)))), (a2, .inl (cA, 72, .inl (zA (hh)))), (a3, .inl (cA, 72, .inl (zA (rr))))] H := by rw [hHe]; exact hP
  have hD : va_D A [(m0, .inr (3, [.int (zi (tw)), .int (zi ((mp : Int))), .ref a1, .ref a2, .ref a3, .ref a4, .ref a5, .ref a6, .int (zi ((mb : Int))), .ref a7, .ref a8, .int (zi ((ml : Int))), .ref a9, .ref a10, .int (zi ((mz : Int))), .ref a11, .long (zl (ab)), .long (zl (be))])), (a1, .inl (cA, 6, .inl (zA (sf)))), (a2, .inl (cA, 72, .inl (zA (hh)))), (a3, .inl (cA, 72, .inl (zA (rr))))] := hD
  rw [← hHe, ← hlc]
  have hpc := p_co_le rs n
  refine lv_aload_n hx hb dX3_drawn_0 rfl (lv_at hl 0 rfl) ?_
  refine lv_aload_n hx hb dX3_drawn_1 rfl (lv_at hl 0 rfl) ?_
  refine lv_iload_n hx hb dX3_drawn_2 rfl (lv_at hl 1 rfl) ?_
  refine rdV (As := [.int (zi ((j : Int)))]) (rest := [.ref m0]) (n := 1) hx hb hml hown hg (c_X3_isProfile l dC dI m0 a1 a2 a3 a4 a5 a6 a7 a8 a9 a10 a11 (tw) (ab) (be) mp mb ml mz ((j : Int)) hmp (by omega)) (gwV wl_X3_70 wm_X3_isProfile we_X3_isProfile wi_X3 wc_X3_isProfile) rfl rfl (by decide +kernel) ⟨Nat.le_of_ble_eq_true rfl, Nat.le_of_ble_eq_true rfl⟩ (hK.sub [] rfl) (hP.sub [0] rfl) 0 rfl rfl rfl rfl hl.1 rfl (Nat.le_of_ble_eq_true rfl) dX3_drawn_3 ⟨Nat.zero_le _, Nat.zero_le _⟩ ?_
  refine zz_topi (z := 1) (congrArg zi (zb_t (decide_eq_true (by omega)))) ?_
  refine zz_if_eq (tgt := 33) hx hb (by omega) dX3_drawn_6 (by decide) (fun c_6 => ?_) (fun c_6 => ?_)
  · exact absurd c_6 (by decide)
  · refine lv_iload_n hx hb dX3_drawn_9 rfl (lv_at hl 2 rfl) ?_
    refine lv_iconst (v := zi (-1)) hx hb dX3_drawn_10 rfl ?_
    refine lv_aload_n hx hb dX3_drawn_11 rfl (lv_at hl 0 rfl) ?_
    refine lv_iload_n hx hb dX3_drawn_12 rfl (lv_at hl 1 rfl) ?_
    refine rdV (As := [.int (zi ((j : Int)))]) (rest := [.int (zi (-1)), .int (zi (k)), .ref m0]) (n := 1) hx hb hml hown hg (c_X3_pointCount l dC dI m0 a1 a2 a3 a4 a5 a6 a7 a8 a9 a10 a11 (tw) (ab) (be) mp mb ml mz cA j n sf hh rr hs rs hj hsf hhs hrs hn hH hR) (gwV wl_X3_131 wm_X3_pointCount we_X3_pointCount wi_X3 wc_X3_pointCount) rfl rfl (by decide +kernel) ⟨Nat.le_of_ble_eq_true rfl, Nat.le_of_ble_eq_true rfl⟩ (hK.sub [0] rfl) (hP.sub [0, 1, 2, 3] rfl) 0 rfl rfl rfl rfl hl.1 rfl (Nat.le_of_ble_eq_true rfl) dX3_drawn_13 ⟨Nat.zero_le _, Nat.zero_le _⟩ ?_
    refine lv_iconst (v := zi (1)) hx hb dX3_drawn_16 rfl ?_
    refine zz_isub hx hb dX3_drawn_17 ?_
    refine rdS (As := [.int (zi (k)), .int (zi (-1)), .int (zi ((((n + p_co rs n : Nat) : Int)) - (1)))]) (rest := [.ref m0]) (n := 3) hx hb hml hown hg (c_X3_in l (k) (-1) ((((n + p_co rs n : Nat) : Int)) - (1)) (by omega) (by omega) (by omega)) (gwS wl_X3_55 wt_X3_in wi_X3 wc_X3_in) rfl rfl (by decide +kernel) ⟨Nat.le_of_ble_eq_true rfl, Nat.le_of_ble_eq_true rfl⟩ rfl hl.1 rfl (Nat.le_of_ble_eq_true rfl) dX3_drawn_18 ⟨Nat.zero_le _, Nat.zero_le _⟩ ?_
    refine zz_topi (z := 1) (congrArg zi (zb_t (decide_eq_true (by omega)))) ?_
    refine zz_if_eq (tgt := 33) hx hb (by omega) dX3_drawn_21 (by decide) (fun c_21 => ?_) (fun c_21 => ?_)
    · exact absurd c_21 (by decide)
    · refine lv_iload_n hx hb dX3_drawn_24 rfl (lv_at hl 3 rfl) ?_
      refine lv_iconst (v := zi (0)) hx hb dX3_drawn_25 rfl ?_
      refine lv_iconst (v := zi (1)) hx hb dX3_drawn_26 rfl ?_
      refine rdS (As := [.int (zi (what)), .int (zi (0)), .int (zi (1))]) (rest := [.ref m0]) (n := 3) hx hb hml hown hg (c_X3_in l (what) (0) (1) (by omega) (by omega) (by omega)) (gwS wl_X3_55 wt_X3_in wi_X3 wc_X3_in) rfl rfl (by decide +kernel) ⟨Nat.le_of_ble_eq_true rfl, Nat.le_of_ble_eq_true rfl⟩ rfl hl.1 rfl (Nat.le_of_ble_eq_true rfl) dX3_drawn_27 ⟨Nat.zero_le _, Nat.zero_le _⟩ ?_
      refine zz_topi (z := 1) (congrArg zi (zb_t (decide_eq_true (by omega)))) ?_
      refine zz_if_ne (tgt := 37) hx hb (by omega) dX3_drawn_30 (by decide) (fun c_30 => ?_) (fun c_30 => ?_)
      · refine lv_iconst (v := zi (0)) hx hb dX3_drawn_37 rfl ?_
        refine lv_iconst (v := zi (0)) hx hb dX3_drawn_38 rfl ?_
        refine lv_iconst (v := zi (0)) hx hb dX3_drawn_39 rfl ?_
        refine wrV (As := [.int (zi (0)), .int (zi (0)), .int (zi (0))]) (rest := []) (n := 3) (ws' := [(m0, .inr (3, [.int (zi (0)), .int (zi ((mp : Int))), .ref a1, .ref a2, .ref a3, .ref a4, .ref a5, .ref a6, .int (zi ((mb : Int))), .ref a7, .ref a8, .int (zi ((ml : Int))), .ref a9, .ref a10, .int (zi ((mz : Int))), .ref a11, .long (zl (ab)), .long (zl (be))])), (a1, .inl (cA, 6, .inl (zA (sf)))), (a2, .inl (cA, 72, .inl (zA (hh)))), (a3, .inl (cA, 72, .inl (zA (rr))))]) hx hb hml hown hg (c_throwing l dC dI H.size m0 a1 a2 a3 a4 a5 a6 a7 a8 a9 a10 a11 (tw) (ab) (be) mp mb ml mz 0 0 0 (by decide) (by decide) (by decide)) (gwV wl_X3_59 wm_X3_throwing we_X3_throwing wi_X3 wc_X3_throwing) rfl rfl (by decide +kernel) ⟨Nat.le_of_ble_eq_true rfl, Nat.le_of_ble_eq_true rfl⟩ (hK.sub [] rfl) hP hD hS hA [0] rfl (by decide) [(true, 0), (false, 1), (false, 2), (false, 3)] rfl (by decide) rfl 0 rfl rfl rfl rfl hl.1 rfl (Nat.le_of_ble_eq_true rfl) dX3_drawn_40 ⟨Nat.zero_le _, Nat.zero_le _⟩ (fun H locs hP hD hS => ?_)
        refine zz_topi (z := 0) (congrArg zi (by decide)) ?_
        refine zz_if_eq (tgt := 48) hx hb (by omega) dX3_drawn_43 (by decide) (fun c_43 => ?_) (fun c_43 => ?_)
        · refine lv_iload_n hx hb dX3_drawn_48 rfl (lv_at hl 2 rfl) ?_
          refine lv_iconst (v := zi (-1)) hx hb dX3_drawn_49 rfl ?_
          refine zz_icmp_ne (tgt := 59) hx hb (by omega) (by omega) dX3_drawn_50 (by decide) (fun c_50 => ?_) (fun c_50 => ?_)
          · refine lv_aload_n hx hb dX3_drawn_59 rfl (lv_at hl 0 rfl) ?_
            refine va_get (D := (dC, dI)) (ci := 3) (v := .ref a1) (C := RX3) (T := TX3) (N := 18) hx hb hg inX3 hown hK hP 0 rfl rfl 2 (by decide) (hg _ wl_X3_7) (fun _ h9 => h9) rfl dX3_drawn_60 ?_
            refine lv_iload_n hx hb dX3_drawn_63 rfl (lv_at hl 1 rfl) ?_
            refine zz_iald hx hb hK hP 1 0 rfl rfl (j) (by omega) (by omega) (by decide) dX3_drawn_64 ?_
            refine zz_topi (z := (n : Int)) (congrArg zi hsf) ?_
            refine lv_istore (lv' := [(4, .int (zi ((n : Int)))), (0, .ref m0), (1, .int (zi ((j : Int)))), (2, .int (zi (k))), (3, .int (zi (what)))]) hx hb dX3_drawn_65 hl (by decide) rfl (fun ls hl => ?_)
            refine lv_iload_n hx hb dX3_drawn_67 rfl (lv_at hl 3 rfl) ?_
            refine lv_iload hx hb dX3_drawn_68 (lv_at hl 0 rfl) ?_
            refine zz_icmp_ge (tgt := 104) hx hb (by omega) (by omega) dX3_drawn_70 (by decide) (fun c_70 => ?_) (fun c_70 => ?_)
            · replace hfz := hfz (by omega)
              refine lv_iload_n hx hb dX3_drawn_104 rfl (lv_at hl 3 rfl) ?_
              refine lv_iload hx hb dX3_drawn_105 (lv_at hl 0 rfl) ?_
              refine zz_isub hx hb dX3_drawn_107 ?_
              refine zz_topi (z := k - (n : Int) - ((0 : Nat) : Int)) (congrArg zi (by omega)) ?_
              refine lv_istore (lv' := [(5, .int (zi (k - (n : Int) - ((0 : Nat) : Int)))), (4, .int (zi ((n : Int)))), (0, .ref m0), (1, .int (zi ((j : Int)))), (2, .int (zi (k))), (3, .int (zi (what)))]) hx hb dX3_drawn_108 hl (by decide) rfl (fun ls hl => ?_)
              refine lv_iconst (v := zi (0)) hx hb dX3_drawn_110 rfl ?_
              refine lv_istore (lv' := [(6, .int (zi (0))), (5, .int (zi (k - (n : Int) - ((0 : Nat) : Int)))), (4, .int (zi ((n : Int)))), (0, .ref m0), (1, .int (zi ((j : Int)))), (2, .int (zi (k))), (3, .int (zi (what)))]) hx hb dX3_drawn_111 hl (by decide) rfl (fun ls hl => ?_)
              have key_113 : ∀ (n_ : Nat) (i d : Nat), i < n → (d : Int) ≤ k - (n : Int) → p_fo rs (k - n) (n - i) i d = p_fo rs (k - n) n 0 0 → 13 - i < n_ → ∀ (H : Heap) (locs : List Loc), va_P (dC, dI) vwCl [(m0, .inr (3, [.int (zi (0)), .int (zi ((mp : Int))), .ref a1, .ref a2, .ref a3, .ref a4, .ref a5, .ref a6, .int (zi ((mb : Int))), .ref a7, .ref a8, .int (zi ((ml : Int))), .ref a9, .ref a10, .int (zi ((mz : Int))), .ref a11, .long (zl (ab)), .long (zl (be))])), (a1, .inl (cA, 6, .inl (zA (sf)))), (a2, .inl (cA, 72, .inl (zA (hh)))), (a3, .inl (cA, 72, .inl (zA (rr))))] H → va_D A [(m0, .inr (3, [.int (zi (0)), .int (zi ((mp : Int))), .ref a1, .ref a2, .ref a3, .ref a4, .ref a5, .ref a6, .int (zi ((mb : Int))), .ref a7, .ref a8, .int (zi ((ml : Int))), .ref a9, .ref a10, .int (zi ((mz : Int))), .ref a11, .long (zl (ab)), .long (zl (be))])), (a1, .inl (cA, 6, .inl (zA (sf)))), (a2, .inl (cA, 72, .inl (zA (hh)))), (a3, .inl (cA, 72, .inl (zA (rr))))] → va_S A s.heap H locs → ∀ (ls : Array Slot), lv_has ls 7 [(6, .int (zi ((i : Int)))), (5, .int (zi (k - (n : Int) - ((d : Nat) : Int)))), (3, .int (zi (what))), (2, .int (zi (k))), (1, .int (zi ((j : Int)))), (0, .ref m0)] → W p l e rm_X3_drawn s m args below meth c H locs 0 0 QQ (F0 m 113 ls []) := by
                intro n_
                induction n_ with
                | zero => intro i d hi1 hd1 hfo hm_; exact absurd hm_ (Nat.not_lt_zero _)
                | succ n_ ih =>
                  intro i d hi1 hd1 hfo hm_ H locs hP hD hS ls hl
                  refine lv_aload_n hx hb dX3_drawn_113 rfl (lv_at hl 5 rfl) ?_
                  refine lv_iload_n hx hb dX3_drawn_114 rfl (lv_at hl 4 rfl) ?_
                  refine lv_iload hx hb dX3_drawn_115 (lv_at hl 0 rfl) ?_
                  refine rdV (As := [.int (zi ((j : Int))), .int (zi ((i : Int)))]) (rest := []) (n := 2) hx hb hml hown hg (c_X3_radiusAt l dC dI m0 a1 a2 a3 a4 a5 a6 a7 a8 a9 a10 a11 (0) (ab) (be) mp mb ml mz cA j rr rs (i) hj hrs (by omega)) (gwV wl_X3_67 wm_X3_radiusAt we_X3_radiusAt wi_X3 wc_X3_radiusAt) rfl rfl (by decide +kernel) ⟨Nat.le_of_ble_eq_true rfl, Nat.le_of_ble_eq_true rfl⟩ (hK.sub [0] rfl) (hP.sub [0, 3] rfl) 0 rfl rfl rfl rfl hl.1 rfl (Nat.le_of_ble_eq_true rfl) dX3_drawn_117 ⟨Nat.zero_le _, Nat.zero_le _⟩ ?_
                  have hv_1 := hR (i)
                  refine zz_if_eq (tgt := 128) hx hb (by omega) dX3_drawn_120 (by decide) (fun c_120 => ?_) (fun c_120 => ?_)
                  · refine lv_iload hx hb dX3_drawn_128 (lv_at hl 1 rfl) ?_
                    refine lv_aload_n hx hb dX3_drawn_130 rfl (lv_at hl 5 rfl) ?_
                    refine lv_iload_n hx hb dX3_drawn_131 rfl (lv_at hl 4 rfl) ?_
                    refine lv_iload hx hb dX3_drawn_132 (lv_at hl 0 rfl) ?_
                    refine rdV (As := [.int (zi ((j : Int))), .int (zi ((i : Int)))]) (rest := [.int (zi (k - (n : Int) - ((d : Nat) : Int)))]) (n := 2) hx hb hml hown hg (c_X3_radiusAt l dC dI m0 a1 a2 a3 a4 a5 a6 a7 a8 a9 a10 a11 (0) (ab) (be) mp mb ml mz cA j rr rs (i) hj hrs (by omega)) (gwV wl_X3_67 wm_X3_radiusAt we_X3_radiusAt wi_X3 wc_X3_radiusAt) rfl rfl (by decide +kernel) ⟨Nat.le_of_ble_eq_true rfl, Nat.le_of_ble_eq_true rfl⟩ (hK.sub [0] rfl) (hP.sub [0, 3] rfl) 0 rfl rfl rfl rfl hl.1 rfl (Nat.le_of_ble_eq_true rfl) dX3_drawn_134 ⟨Nat.zero_le _, Nat.zero_le _⟩ ?_
                    have hv_2 := hR (i)
                    refine zz_if_le (tgt := 144) hx hb (by omega) dX3_drawn_137 (by decide) (fun c_137 => ?_) (fun c_137 => ?_)
                    · refine lv_iconst (v := zi (0)) hx hb dX3_drawn_144 rfl ?_
                      refine zz_isub hx hb dX3_drawn_145 ?_
                      refine lv_istore (lv' := [(5, .int (zi ((k - (n : Int) - ((d : Nat) : Int)) - (0)))), (6, .int (zi ((i : Int)))), (3, .int (zi (what))), (2, .int (zi (k))), (1, .int (zi ((j : Int)))), (0, .ref m0)]) hx hb dX3_drawn_146 hl (by decide) rfl (fun ls hl => ?_)
                      refine lv_iinc (v := zi (((i : Int)) + (1))) (lv' := [(6, .int (zi (((i : Int)) + (1)))), (5, .int (zi ((k - (n : Int) - ((d : Nat) : Int)) - (0)))), (3, .int (zi (what))), (2, .int (zi (k))), (1, .int (zi ((j : Int)))), (0, .ref m0)]) hx hb dX3_drawn_148 hl (k := 1) rfl (zi_add _ _) (by decide) rfl (fun ls hl => ?_)
                      refine lv_goto (tgt := 113) hx hb dX3_drawn_151 (by decide) ?_
                      have hst : (k - (n : Int) - ((d : Nat) : Int)) - (0) = k - (n : Int) - ((d : Nat) : Int) := by omega
                      rw [hst] at hl
                      have hf5 : p_fo rs (k - n) (n - (i + 1)) (i + 1) d = p_fo rs (k - n) n 0 0 := by rw [← hfo, show n - i = (n - (i + 1)) + 1 by omega, p_fo, if_pos (by omega)]
                      have hi5 : i + 1 < n := m_fo_lt hf5 hfz
                      exact ih (i + 1) (d) hi5 (by omega) hf5 (by omega) H locs (hP.sub [0, 1, 2, 3] rfl) (hD.sub [0, 1, 2, 3] (by decide) rfl) hS ls (lv_sub hl [0, 1, 2, 3, 4, 5] rfl)
                    · refine lv_iconst (v := zi (1)) hx hb dX3_drawn_140 rfl ?_
                      refine lv_goto (tgt := 145) hx hb dX3_drawn_141 (by decide) ?_
                      refine zz_isub hx hb dX3_drawn_145 ?_
                      refine lv_istore (lv' := [(5, .int (zi ((k - (n : Int) - ((d : Nat) : Int)) - (1)))), (6, .int (zi ((i : Int)))), (3, .int (zi (what))), (2, .int (zi (k))), (1, .int (zi ((j : Int)))), (0, .ref m0)]) hx hb dX3_drawn_146 hl (by decide) rfl (fun ls hl => ?_)
                      refine lv_iinc (v := zi (((i : Int)) + (1))) (lv' := [(6, .int (zi (((i : Int)) + (1)))), (5, .int (zi ((k - (n : Int) - ((d : Nat) : Int)) - (1)))), (3, .int (zi (what))), (2, .int (zi (k))), (1, .int (zi ((j : Int)))), (0, .ref m0)]) hx hb dX3_drawn_148 hl (k := 1) rfl (zi_add _ _) (by decide) rfl (fun ls hl => ?_)
                      refine lv_goto (tgt := 113) hx hb dX3_drawn_151 (by decide) ?_
                      have hst : (k - (n : Int) - ((d : Nat) : Int)) - (1) = k - (n : Int) - ((d + 1 : Nat) : Int) := by omega
                      rw [hst] at hl
                      have hf5 : p_fo rs (k - n) (n - (i + 1)) (i + 1) (d + 1) = p_fo rs (k - n) n 0 0 := by rw [← hfo, show n - i = (n - (i + 1)) + 1 by omega, p_fo, if_neg (by omega), if_neg (by omega)]
                      have hi5 : i + 1 < n := m_fo_lt hf5 hfz
                      exact ih (i + 1) (d + 1) hi5 (by omega) hf5 (by omega) H locs (hP.sub [0, 1, 2, 3] rfl) (hD.sub [0, 1, 2, 3] (by decide) rfl) hS ls (lv_sub hl [0, 1, 2, 3, 4, 5] rfl)
                  · refine lv_iload hx hb dX3_drawn_123 (lv_at hl 1 rfl) ?_
                    refine zz_if_le (tgt := 154) hx hb (by omega) dX3_drawn_125 (by decide) (fun c_125 => ?_) (fun c_125 => ?_)
                    · refine lv_iload_n hx hb dX3_drawn_154 rfl (lv_at hl 2 rfl) ?_
                      refine zz_if_ne (tgt := 168) hx hb (by omega) dX3_drawn_155 (by decide) (fun c_155 => ?_) (fun c_155 => ?_)
                      · refine lv_aload_n hx hb dX3_drawn_168 rfl (lv_at hl 5 rfl) ?_
                        refine lv_iload_n hx hb dX3_drawn_169 rfl (lv_at hl 4 rfl) ?_
                        refine lv_iload hx hb dX3_drawn_170 (lv_at hl 0 rfl) ?_
                        refine rdV (As := [.int (zi ((j : Int))), .int (zi ((i : Int)))]) (rest := []) (n := 2) hx hb hml hown hg (c_X3_height l dC dI m0 a1 a2 a3 a4 a5 a6 a7 a8 a9 a10 a11 (0) (ab) (be) mp mb ml mz cA j hh hs (i) hj hhs (by omega)) (gwV wl_X3_63 wm_X3_height we_X3_height wi_X3 wc_X3_height) rfl rfl (by decide +kernel) ⟨Nat.le_of_ble_eq_true rfl, Nat.le_of_ble_eq_true rfl⟩ (hK.sub [0] rfl) (hP.sub [0, 2] rfl) 0 rfl rfl rfl rfl hl.1 rfl (Nat.le_of_ble_eq_true rfl) dX3_drawn_172 ⟨Nat.zero_le _, Nat.zero_le _⟩ ?_
                        have hv_3 := hH (i)
                        have hff : p_fo rs (k - n) n 0 0 = (i : Int) := by rw [← hfo, show n - i = (n - (i + 1)) + 1 by omega, p_fo, if_neg (by omega), if_pos (by omega)]
                        have hP9 : va_P (dC, dI) vwCl [(m0, .inr (3, [.int (zi (0)), .int (zi ((mp : Int))), .ref a1, .ref a2, .ref a3, .ref a4, .ref a5, .ref a6, .int (zi ((mb : Int))), .ref a7, .ref a8, .int (zi ((ml : Int))), .ref a9, .ref a10, .int (zi ((mz : Int))), .ref a11, .long (zl (ab)), .long (zl (be))])), (a1, .inl (cA, 6, .inl (zA (sf)))), (a2, .inl (cA, 72, .inl (zA (hh)))), (a3, .inl (cA, 72, .inl (zA (rr))))] H := hP
                        rw [hQQ]
                        exact wr_i hx hb hr hlocks (by unfold p_drawn p_drw; rw [if_neg (by omega), if_pos (by omega), if_neg (by omega), hff]; rfl) hP9 hS dX3_drawn_175
                      · refine lv_aload_n hx hb dX3_drawn_158 rfl (lv_at hl 5 rfl) ?_
                        refine lv_iload_n hx hb dX3_drawn_159 rfl (lv_at hl 4 rfl) ?_
                        refine lv_iload hx hb dX3_drawn_160 (lv_at hl 0 rfl) ?_
                        refine rdV (As := [.int (zi ((j : Int))), .int (zi ((i : Int)))]) (rest := []) (n := 2) hx hb hml hown hg (c_X3_radiusAt l dC dI m0 a1 a2 a3 a4 a5 a6 a7 a8 a9 a10 a11 (0) (ab) (be) mp mb ml mz cA j rr rs (i) hj hrs (by omega)) (gwV wl_X3_67 wm_X3_radiusAt we_X3_radiusAt wi_X3 wc_X3_radiusAt) rfl rfl (by decide +kernel) ⟨Nat.le_of_ble_eq_true rfl, Nat.le_of_ble_eq_true rfl⟩ (hK.sub [0] rfl) (hP.sub [0, 3] rfl) 0 rfl rfl rfl rfl hl.1 rfl (Nat.le_of_ble_eq_true rfl) dX3_drawn_162 ⟨Nat.zero_le _, Nat.zero_le _⟩ ?_
                        have hv_4 := hR (i)
                        refine lv_goto (tgt := 175) hx hb dX3_drawn_165 (by decide) ?_
                        have hff : p_fo rs (k - n) n 0 0 = (i : Int) := by rw [← hfo, show n - i = (n - (i + 1)) + 1 by omega, p_fo, if_neg (by omega), if_pos (by omega)]
                        have hP9 : va_P (dC, dI) vwCl [(m0, .inr (3, [.int (zi (0)), .int (zi ((mp : Int))), .ref a1, .ref a2, .ref a3, .ref a4, .ref a5, .ref a6, .int (zi ((mb : Int))), .ref a7, .ref a8, .int (zi ((ml : Int))), .ref a9, .ref a10, .int (zi ((mz : Int))), .ref a11, .long (zl (ab)), .long (zl (be))])), (a1, .inl (cA, 6, .inl (zA (sf)))), (a2, .inl (cA, 72, .inl (zA (hh)))), (a3, .inl (cA, 72, .inl (zA (rr))))] H := hP
                        rw [hQQ]
                        exact wr_i hx hb hr hlocks (by unfold p_drawn p_drw; rw [if_neg (by omega), if_neg (by omega), if_neg (by omega), if_neg (by omega), hff]; rfl) hP9 hS dX3_drawn_175
                    · refine lv_iload hx hb dX3_drawn_128 (lv_at hl 1 rfl) ?_
                      refine lv_aload_n hx hb dX3_drawn_130 rfl (lv_at hl 5 rfl) ?_
                      refine lv_iload_n hx hb dX3_drawn_131 rfl (lv_at hl 4 rfl) ?_
                      refine lv_iload hx hb dX3_drawn_132 (lv_at hl 0 rfl) ?_
                      refine rdV (As := [.int (zi ((j : Int))), .int (zi ((i : Int)))]) (rest := [.int (zi (k - (n : Int) - ((d : Nat) : Int)))]) (n := 2) hx hb hml hown hg (c_X3_radiusAt l dC dI m0 a1 a2 a3 a4 a5 a6 a7 a8 a9 a10 a11 (0) (ab) (be) mp mb ml mz cA j rr rs (i) hj hrs (by omega)) (gwV wl_X3_67 wm_X3_radiusAt we_X3_radiusAt wi_X3 wc_X3_radiusAt) rfl rfl (by decide +kernel) ⟨Nat.le_of_ble_eq_true rfl, Nat.le_of_ble_eq_true rfl⟩ (hK.sub [0] rfl) (hP.sub [0, 3] rfl) 0 rfl rfl rfl rfl hl.1 rfl (Nat.le_of_ble_eq_true rfl) dX3_drawn_134 ⟨Nat.zero_le _, Nat.zero_le _⟩ ?_
                      have hv_5 := hR (i)
                      refine zz_if_le (tgt := 144) hx hb (by omega) dX3_drawn_137 (by decide) (fun c_137 => ?_) (fun c_137 => ?_)
                      · refine lv_iconst (v := zi (0)) hx hb dX3_drawn_144 rfl ?_
                        refine zz_isub hx hb dX3_drawn_145 ?_
                        refine lv_istore (lv' := [(5, .int (zi ((k - (n : Int) - ((d : Nat) : Int)) - (0)))), (6, .int (zi ((i : Int)))), (3, .int (zi (what))), (2, .int (zi (k))), (1, .int (zi ((j : Int)))), (0, .ref m0)]) hx hb dX3_drawn_146 hl (by decide) rfl (fun ls hl => ?_)
                        refine lv_iinc (v := zi (((i : Int)) + (1))) (lv' := [(6, .int (zi (((i : Int)) + (1)))), (5, .int (zi ((k - (n : Int) - ((d : Nat) : Int)) - (0)))), (3, .int (zi (what))), (2, .int (zi (k))), (1, .int (zi ((j : Int)))), (0, .ref m0)]) hx hb dX3_drawn_148 hl (k := 1) rfl (zi_add _ _) (by decide) rfl (fun ls hl => ?_)
                        refine lv_goto (tgt := 113) hx hb dX3_drawn_151 (by decide) ?_
                        have hst : (k - (n : Int) - ((d : Nat) : Int)) - (0) = k - (n : Int) - ((d : Nat) : Int) := by omega
                        rw [hst] at hl
                        have hf5 : p_fo rs (k - n) (n - (i + 1)) (i + 1) d = p_fo rs (k - n) n 0 0 := by rw [← hfo, show n - i = (n - (i + 1)) + 1 by omega, p_fo, if_pos (by omega)]
                        have hi5 : i + 1 < n := m_fo_lt hf5 hfz
                        exact ih (i + 1) (d) hi5 (by omega) hf5 (by omega) H locs (hP.sub [0, 1, 2, 3] rfl) (hD.sub [0, 1, 2, 3] (by decide) rfl) hS ls (lv_sub hl [0, 1, 2, 3, 4, 5] rfl)
                      · refine lv_iconst (v := zi (1)) hx hb dX3_drawn_140 rfl ?_
                        refine lv_goto (tgt := 145) hx hb dX3_drawn_141 (by decide) ?_
                        refine zz_isub hx hb dX3_drawn_145 ?_
                        refine lv_istore (lv' := [(5, .int (zi ((k - (n : Int) - ((d : Nat) : Int)) - (1)))), (6, .int (zi ((i : Int)))), (3, .int (zi (what))), (2, .int (zi (k))), (1, .int (zi ((j : Int)))), (0, .ref m0)]) hx hb dX3_drawn_146 hl (by decide) rfl (fun ls hl => ?_)
                        refine lv_iinc (v := zi (((i : Int)) + (1))) (lv' := [(6, .int (zi (((i : Int)) + (1)))), (5, .int (zi ((k - (n : Int) - ((d : Nat) : Int)) - (1)))), (3, .int (zi (what))), (2, .int (zi (k))), (1, .int (zi ((j : Int)))), (0, .ref m0)]) hx hb dX3_drawn_148 hl (k := 1) rfl (zi_add _ _) (by decide) rfl (fun ls hl => ?_)
                        refine lv_goto (tgt := 113) hx hb dX3_drawn_151 (by decide) ?_
                        have hst : (k - (n : Int) - ((d : Nat) : Int)) - (1) = k - (n : Int) - ((d + 1 : Nat) : Int) := by omega
                        rw [hst] at hl
                        have hf5 : p_fo rs (k - n) (n - (i + 1)) (i + 1) (d + 1) = p_fo rs (k - n) n 0 0 := by rw [← hfo, show n - i = (n - (i + 1)) + 1 by omega, p_fo, if_neg (by omega), if_neg (by omega)]
                        have hi5 : i + 1 < n := m_fo_lt hf5 hfz
                        exact ih (i + 1) (d + 1) hi5 (by omega) hf5 (by omega) H locs (hP.sub [0, 1, 2, 3] rfl) (hD.sub [0, 1, 2, 3] (by decide) rfl) hS ls (lv_sub hl [0, 1, 2, 3, 4, 5] rfl)
              exact key_113 _ 0 0 (m_fo_lt (rs := rs) (a := k - n) (i := 0) (d := 0) rfl hfz) (by omega) rfl (Nat.lt_succ_self _) H locs (hP.sub [0, 1, 2, 3] rfl) (hD.sub [0, 1, 2, 3] (by decide) rfl) hS ls (lv_sub hl [0, 1, 6, 5, 4, 3] rfl)
            · refine lv_iload_n hx hb dX3_drawn_73 rfl (lv_at hl 4 rfl) ?_
              refine zz_if_ne (tgt := 92) hx hb (by omega) dX3_drawn_74 (by decide) (fun c_74 => ?_) (fun c_74 => ?_)
              · refine lv_aload_n hx hb dX3_drawn_92 rfl (lv_at hl 1 rfl) ?_
                refine lv_iload_n hx hb dX3_drawn_93 rfl (lv_at hl 2 rfl) ?_
                refine lv_iload hx hb dX3_drawn_94 (lv_at hl 0 rfl) ?_
                refine lv_iconst (v := zi (1)) hx hb dX3_drawn_96 rfl ?_
                refine zz_isub hx hb dX3_drawn_97 ?_
                refine lv_iload_n hx hb dX3_drawn_98 rfl (lv_at hl 3 rfl) ?_
                refine zz_isub hx hb dX3_drawn_99 ?_
                refine zz_topi (z := ((n - 1 - k.toNat : Nat) : Int)) (congrArg zi (by omega)) ?_
                refine rdV (As := [.int (zi ((j : Int))), .int (zi (((n - 1 - k.toNat : Nat) : Int)))]) (rest := []) (n := 2) hx hb hml hown hg (c_X3_height l dC dI m0 a1 a2 a3 a4 a5 a6 a7 a8 a9 a10 a11 (0) (ab) (be) mp mb ml mz cA j hh hs (n - 1 - k.toNat) hj hhs (by omega)) (gwV wl_X3_63 wm_X3_height we_X3_height wi_X3 wc_X3_height) rfl rfl (by decide +kernel) ⟨Nat.le_of_ble_eq_true rfl, Nat.le_of_ble_eq_true rfl⟩ (hK.sub [0] rfl) (hP.sub [0, 2] rfl) 0 rfl rfl rfl rfl hl.1 rfl (Nat.le_of_ble_eq_true rfl) dX3_drawn_100 ⟨Nat.zero_le _, Nat.zero_le _⟩ ?_
                have hv_6 := hH (n - 1 - k.toNat)
                have hP9 : va_P (dC, dI) vwCl [(m0, .inr (3, [.int (zi (0)), .int (zi ((mp : Int))), .ref a1, .ref a2, .ref a3, .ref a4, .ref a5, .ref a6, .int (zi ((mb : Int))), .ref a7, .ref a8, .int (zi ((ml : Int))), .ref a9, .ref a10, .int (zi ((mz : Int))), .ref a11, .long (zl (ab)), .long (zl (be))])), (a1, .inl (cA, 6, .inl (zA (sf)))), (a2, .inl (cA, 72, .inl (zA (hh)))), (a3, .inl (cA, 72, .inl (zA (rr))))] H := hP
                rw [hQQ]
                exact wr_i hx hb hr hlocks (by unfold p_drawn p_drw; rw [if_neg (by omega), if_pos (by omega), if_pos (by omega), show ((n : Int) - 1 - k).toNat = n - 1 - k.toNat by omega]) hP9 hS dX3_drawn_103
              · refine lv_aload_n hx hb dX3_drawn_77 rfl (lv_at hl 1 rfl) ?_
                refine lv_iload_n hx hb dX3_drawn_78 rfl (lv_at hl 2 rfl) ?_
                refine lv_iload hx hb dX3_drawn_79 (lv_at hl 0 rfl) ?_
                refine lv_iconst (v := zi (1)) hx hb dX3_drawn_81 rfl ?_
                refine zz_isub hx hb dX3_drawn_82 ?_
                refine lv_iload_n hx hb dX3_drawn_83 rfl (lv_at hl 3 rfl) ?_
                refine zz_isub hx hb dX3_drawn_84 ?_
                refine zz_topi (z := ((n - 1 - k.toNat : Nat) : Int)) (congrArg zi (by omega)) ?_
                refine rdV (As := [.int (zi ((j : Int))), .int (zi (((n - 1 - k.toNat : Nat) : Int)))]) (rest := []) (n := 2) hx hb hml hown hg (c_X3_radiusAt l dC dI m0 a1 a2 a3 a4 a5 a6 a7 a8 a9 a10 a11 (0) (ab) (be) mp mb ml mz cA j rr rs (n - 1 - k.toNat) hj hrs (by omega)) (gwV wl_X3_67 wm_X3_radiusAt we_X3_radiusAt wi_X3 wc_X3_radiusAt) rfl rfl (by decide +kernel) ⟨Nat.le_of_ble_eq_true rfl, Nat.le_of_ble_eq_true rfl⟩ (hK.sub [0] rfl) (hP.sub [0, 3] rfl) 0 rfl rfl rfl rfl hl.1 rfl (Nat.le_of_ble_eq_true rfl) dX3_drawn_85 ⟨Nat.zero_le _, Nat.zero_le _⟩ ?_
                have hv_7 := hR (n - 1 - k.toNat)
                refine zz_ineg hx hb dX3_drawn_88 ?_
                refine lv_goto (tgt := 103) hx hb dX3_drawn_89 (by decide) ?_
                have hP9 : va_P (dC, dI) vwCl [(m0, .inr (3, [.int (zi (0)), .int (zi ((mp : Int))), .ref a1, .ref a2, .ref a3, .ref a4, .ref a5, .ref a6, .int (zi ((mb : Int))), .ref a7, .ref a8, .int (zi ((ml : Int))), .ref a9, .ref a10, .int (zi ((mz : Int))), .ref a11, .long (zl (ab)), .long (zl (be))])), (a1, .inl (cA, 6, .inl (zA (sf)))), (a2, .inl (cA, 72, .inl (zA (hh)))), (a3, .inl (cA, 72, .inl (zA (rr))))] H := hP
                rw [hQQ]
                exact wr_i hx hb hr hlocks (by unfold p_drawn p_drw; rw [if_neg (by omega), if_neg (by omega), if_pos (by omega), if_pos (by omega), show ((n : Int) - 1 - k).toNat = n - 1 - k.toNat by omega]) hP9 hS dX3_drawn_103
          · refine lv_aload_n hx hb dX3_drawn_53 rfl (lv_at hl 0 rfl) ?_
            refine lv_iload_n hx hb dX3_drawn_54 rfl (lv_at hl 1 rfl) ?_
            refine rdV (As := [.int (zi ((j : Int)))]) (rest := []) (n := 1) hx hb hml hown hg (c_X3_pointCount l dC dI m0 a1 a2 a3 a4 a5 a6 a7 a8 a9 a10 a11 (0) (ab) (be) mp mb ml mz cA j n sf hh rr hs rs hj hsf hhs hrs hn hH hR) (gwV wl_X3_131 wm_X3_pointCount we_X3_pointCount wi_X3 wc_X3_pointCount) rfl rfl (by decide +kernel) ⟨Nat.le_of_ble_eq_true rfl, Nat.le_of_ble_eq_true rfl⟩ (hK.sub [0] rfl) (hP.sub [0, 1, 2, 3] rfl) 0 rfl rfl rfl rfl hl.1 rfl (Nat.le_of_ble_eq_true rfl) dX3_drawn_55 ⟨Nat.zero_le _, Nat.zero_le _⟩ ?_
            have hP9 : va_P (dC, dI) vwCl [(m0, .inr (3, [.int (zi (0)), .int (zi ((mp : Int))), .ref a1, .ref a2, .ref a3, .ref a4, .ref a5, .ref a6, .int (zi ((mb : Int))), .ref a7, .ref a8, .int (zi ((ml : Int))), .ref a9, .ref a10, .int (zi ((mz : Int))), .ref a11, .long (zl (ab)), .long (zl (be))])), (a1, .inl (cA, 6, .inl (zA (sf)))), (a2, .inl (cA, 72, .inl (zA (hh)))), (a3, .inl (cA, 72, .inl (zA (rr))))] H := hP
            rw [hQQ]
            exact wr_i hx hb hr hlocks (by unfold p_drawn; rw [if_pos (by omega)]; rfl) hP9 hS dX3_drawn_58
        · exact absurd c_43 (by decide)
      · exact absurd c_30 (by decide)

abbrev rm_X3_bound : Room := { frames := 1, cells := 0, slots := 0, locals := 23 }
set_option maxHeartbeats 4000000 in
set_option maxRecDepth 100000 in
theorem e_bound_1 (l : Launch) (dC : Nat → ClassId) (dI : Nat → Nat → Nat) (sz : Nat) (m0 a1 a2 a3 a4 a5 a6 a7 a8 a9 a10 a11 : Nat) (tw ab be : Int) (mp mb ml mz : Nat) (v : Int) (hmp : mp ≤ 6) (h_v : -2147483648 ≤ v ∧ v < 2147483648) (hbm : mb ≤ 10) (hbad : ¬ (0 ≤ v ∧ v ≤ 1000000000)) : Met l yX3_bound (Cond.code yX3_bound cX3_bound 2 ((Option.some Jvm.ClassFile.FieldType.int)) :: gw) rm_X3_bound (PcW [.ref m0, .int (zi (v))] (dC, dI) vwCl [(m0, .inr (3, [.int (zi (tw)), .int (zi ((mp : Int))), .ref a1, .ref a2, .ref a3, .ref a4, .ref a5, .ref a6, .int (zi ((mb : Int))), .ref a7, .ref a8, .int (zi ((ml : Int))), .ref a9, .ref a10, .int (zi ((mz : Int))), .ref a11, .long (zl (ab)), .long (zl (be))]))] [] sz) (WrQ (some (.int (zi 0))) (dC, dI) vwCl [(m0, .inr (3, [.int (zi (1)), .int (zi ((mp : Int))), .ref a1, .ref a2, .ref a3, .ref a4, .ref a5, .ref a6, .int (zi ((mb : Int))), .ref a7, .ref a8, .int (zi ((ml : Int))), .ref a9, .ref a10, .int (zi ((mz : Int))), .ref a11, .long (zl (ab)), .long (zl (be))]))] (va_A [(m0, .inr (3, [.int (zi (tw)), .int (zi ((mp : Int))), .ref a1, .ref a2, .ref a3, .ref a4, .ref a5, .ref a6, .int (zi ((mb : Int))), .ref a7, .ref a8, .int (zi ((ml : Int))), .ref a9, .ref a10, .int (zi ((mz : Int))), .ref a11, .long (zl (ab)), .long (zl (be))]))] sz)) 0 0 (va_A [(m0, .inr (3, [.int (zi (tw)), .int (zi ((mp : Int))), .ref a1, .ref a2, .ref a3, .ref a4, .ref a5, .ref a6, .int (zi ((mb : Int))), .ref a7, .ref a8, .int (zi ((ml : Int))), .ref a9, .ref a10, .int (zi ((mz : Int))), .ref a11, .long (zl (ab)), .long (zl (be))]))] sz) := by
  refine Met.ofW (cc := cX3_bound) (maxL := 2) (ret := ((Option.some Jvm.ClassFile.FieldType.int))) (by decide) rfl ?_
  intro p e s m args below meth c s₁ B hml hv
  obtain ⟨hargs, hsz, hP, hK, hD0⟩ := hv
  have hx := B.exec
  have hb := B.bytes
  have hr := B.returns
  have hts := atoms_spec (ws := Cond.code yX3_bound cX3_bound 2 ((Option.some Jvm.ClassFile.FieldType.int)) :: gw) B.pre
  have hg : ∀ w ∈ gw, w.before args s = true := fun w h => hts w (List.mem_cons_of_mem _ h)
  have hown : s.vm.findClass RX3 = some m.cls := findClass_of_methodNamed B.named
  have hlocks := B.notSynchronized
  subst hsz
  have hD := hD0.self (sz := s.heap.size)
  generalize hAe : va_A [(m0, .inr (3, [.int (zi (tw)), .int (zi ((mp : Int))), .ref a1, .ref a2, .ref a3, .ref a4, .ref a5, .ref a6, .int (zi ((mb : Int))), .ref a7, .ref a8, .int (zi ((ml : Int))), .ref a9, .ref a10, .int (zi ((mz : Int))), .ref a11, .long (zl (ab)), .long (zl (be))]))] s.heap.size = A at hD ⊢
  have hA : ∀ q : Nat, s.heap.size ≤ q → A q := fun q h => by rw [← hAe]; exact Or.inr h
  show W p l e rm_X3_bound s m args below meth c s.heap [] 0 0 _ _
  have hl := lv_entry ([.ref m0, .int (zi (v))]) (n := 2) (Nat.le_of_ble_eq_true rfl)
  rw [show entryFrame m args 2 = entryFrame m ([.ref m0, .int (zi (v))] : List Value).toArray 2 by rw [hargs], lg_entry_eq]
  generalize (lg_sl ([.ref m0, .int (zi (v))]) ++ List.replicate (2 - (lg_sl ([.ref m0, .int (zi (v))])).length) Slot.unset).toArray = ls at hl ⊢
  have hl : lv_has ls 2 [(0, .ref m0), (1, .int (zi (v)))] := hl
  obtain ⟨QQ, hQQ⟩ : ∃ Q, Q = MQ below (WrQ (some (.int (zi 0))) (dC, dI) vwCl [(m0, .inr (3, [.int (zi (1)), .int (zi ((mp : Int))), .ref a1, .ref a2, .ref a3, .ref a4, .ref a5, .ref a6, .int (zi ((mb : Int))), .ref a7, .ref a8, .int (zi ((ml : Int))), .ref a9, .ref a10, .int (zi ((mz : Int))), .ref a11, .long (zl (ab)), .long (zl (be))]))] A) args s 0 0 A := ⟨_, rfl⟩
  rw [← hQQ]
  obtain ⟨H, hHe⟩ : ∃ H : Heap, H = s.heap := ⟨_, rfl⟩
  obtain ⟨locs, hlc⟩ : ∃ x : List Loc, x = [] := ⟨_, rfl⟩
  have hS : va_S A s.heap H locs := by rw [hHe, hlc]; exact va_S.rf
  have hP : va_P (dC, dI) vwCl [(m0, .inr (3, [.int (zi (tw)), .int (zi ((mp : Int))), .ref a1, .ref a2, .ref a3, .ref a4, .ref a5, .ref a6, .int (zi ((mb : Int))), .ref a7, .ref a8, .int (zi ((ml : Int))), .ref a9, .ref a10, .int (zi ((mz : Int))), .ref a11, .long (zl (ab)), .long (zl (be))]))] H := by rw [hHe]; exact hP
  have hD : va_D A [(m0, .inr (3, [.int (zi (tw)), .int (zi ((mp : Int))), .ref a1, .ref a2, .ref a3, .ref a4, .ref a5, .ref a6, .int (zi ((mb : Int))), .ref a7, .ref a8, .int (zi ((ml : Int))), .ref a9, .ref a10, .int (zi ((mz : Int))), .ref a11, .long (zl (ab)), .long (zl (be))]))] := hD
  rw [← hHe, ← hlc]
  refine lv_aload_n hx hb dX3_bound_0 rfl (lv_at hl 0 rfl) ?_
  refine lv_iload_n hx hb dX3_bound_1 rfl (lv_at hl 1 rfl) ?_
  refine lv_iconst (v := zi (0)) hx hb dX3_bound_2 rfl ?_
  refine lv_ldc (v := 1000000000) hx hb hown (hg _ wl_X3_135) dX3_bound_3 ?_
  refine zz_topi (z := 1000000000) (by decide) ?_
  refine rdS (As := [.int (zi (v)), .int (zi (0)), .int (zi (1000000000))]) (rest := [.ref m0]) (n := 3) hx hb hml hown hg (c_X3_in l (v) (0) (1000000000) (by omega) (by omega) (by omega)) (gwS wl_X3_55 wt_X3_in wi_X3 wc_X3_in) rfl rfl (by decide +kernel) ⟨Nat.le_of_ble_eq_true rfl, Nat.le_of_ble_eq_true rfl⟩ rfl hl.1 rfl (Nat.le_of_ble_eq_true rfl) dX3_bound_5 ⟨Nat.zero_le _, Nat.zero_le _⟩ ?_
  refine zz_topi (z := 0) (congrArg zi (zb_f (decide_eq_false (by omega)))) ?_
  refine zz_if_ne (tgt := 15) hx hb (by omega) dX3_bound_8 (by decide) (fun c_8 => ?_) (fun c_8 => ?_)
  · exact absurd c_8 (by decide)
  · refine lv_iconst (v := zi (1)) hx hb dX3_bound_11 rfl ?_
    refine lv_goto (tgt := 16) hx hb dX3_bound_12 (by decide) ?_
    refine lv_aload_n hx hb dX3_bound_16 rfl (lv_at hl 0 rfl) ?_
    refine va_get (D := (dC, dI)) (ci := 3) (v := .int (zi ((mb : Int)))) (C := RX3) (T := TX3) (N := 18) hx hb hg inX3 hown hK hP 0 rfl rfl 8 (by decide) (hg _ wl_X3_136) (fun _ h9 => h9) rfl dX3_bound_17 ?_
    refine lv_bipush (v := zi (10)) hx hb dX3_bound_20 (by decide) ?_
    refine zz_icmp_ne (tgt := 29) hx hb (by omega) (by omega) dX3_bound_22 (by decide) (fun c_22 => ?_) (fun c_22 => ?_)
    · refine lv_iconst (v := zi (0)) hx hb dX3_bound_29 rfl ?_
      refine lv_iconst (v := zi (0)) hx hb dX3_bound_30 rfl ?_
      refine wrV (As := [.int (zi (1)), .int (zi (0)), .int (zi (0))]) (rest := []) (n := 3) (ws' := [(m0, .inr (3, [.int (zi (1)), .int (zi ((mp : Int))), .ref a1, .ref a2, .ref a3, .ref a4, .ref a5, .ref a6, .int (zi ((mb : Int))), .ref a7, .ref a8, .int (zi ((ml : Int))), .ref a9, .ref a10, .int (zi ((mz : Int))), .ref a11, .long (zl (ab)), .long (zl (be))]))]) hx hb hml hown hg (c_throwing l dC dI H.size m0 a1 a2 a3 a4 a5 a6 a7 a8 a9 a10 a11 (tw) (ab) (be) mp mb ml mz 1 0 0 (by decide) (by decide) (by decide)) (gwV wl_X3_59 wm_X3_throwing we_X3_throwing wi_X3 wc_X3_throwing) rfl rfl (by decide +kernel) ⟨Nat.le_of_ble_eq_true rfl, Nat.le_of_ble_eq_true rfl⟩ (hK.sub [] rfl) hP hD hS hA [0] rfl (by decide) [(true, 0)] rfl (by decide) rfl 0 rfl rfl rfl rfl hl.1 rfl (Nat.le_of_ble_eq_true rfl) dX3_bound_31 ⟨Nat.zero_le _, Nat.zero_le _⟩ (fun H locs hP hD hS => ?_)
      refine zz_topi (z := 1) (congrArg zi (by decide)) ?_
      refine zz_if_eq (tgt := 39) hx hb (by omega) dX3_bound_34 (by decide) (fun c_34 => ?_) (fun c_34 => ?_)
      · exact absurd c_34 (by decide)
      · refine lv_iconst (v := zi (0)) hx hb dX3_bound_37 rfl ?_
        have hP9 : va_P (dC, dI) vwCl [(m0, .inr (3, [.int (zi (1)), .int (zi ((mp : Int))), .ref a1, .ref a2, .ref a3, .ref a4, .ref a5, .ref a6, .int (zi ((mb : Int))), .ref a7, .ref a8, .int (zi ((ml : Int))), .ref a9, .ref a10, .int (zi ((mz : Int))), .ref a11, .long (zl (ab)), .long (zl (be))]))] H := hP
        rw [hQQ]
        exact wr_i hx hb hr hlocks rfl hP9 hS dX3_bound_38
    · refine lv_iconst (v := zi (1)) hx hb dX3_bound_25 rfl ?_
      refine lv_goto (tgt := 30) hx hb dX3_bound_26 (by decide) ?_
      refine lv_iconst (v := zi (0)) hx hb dX3_bound_30 rfl ?_
      refine wrV (As := [.int (zi (1)), .int (zi (1)), .int (zi (0))]) (rest := []) (n := 3) (ws' := [(m0, .inr (3, [.int (zi (1)), .int (zi ((mp : Int))), .ref a1, .ref a2, .ref a3, .ref a4, .ref a5, .ref a6, .int (zi ((mb : Int))), .ref a7, .ref a8, .int (zi ((ml : Int))), .ref a9, .ref a10, .int (zi ((mz : Int))), .ref a11, .long (zl (ab)), .long (zl (be))]))]) hx hb hml hown hg (c_throwing l dC dI H.size m0 a1 a2 a3 a4 a5 a6 a7 a8 a9 a10 a11 (tw) (ab) (be) mp mb ml mz 1 1 0 (by decide) (by decide) (by decide)) (gwV wl_X3_59 wm_X3_throwing we_X3_throwing wi_X3 wc_X3_throwing) rfl rfl (by decide +kernel) ⟨Nat.le_of_ble_eq_true rfl, Nat.le_of_ble_eq_true rfl⟩ (hK.sub [] rfl) hP hD hS hA [0] rfl (by decide) [(true, 0)] rfl (by decide) rfl 0 rfl rfl rfl rfl hl.1 rfl (Nat.le_of_ble_eq_true rfl) dX3_bound_31 ⟨Nat.zero_le _, Nat.zero_le _⟩ (fun H locs hP hD hS => ?_)
      refine zz_topi (z := 1) (congrArg zi (by decide)) ?_
      refine zz_if_eq (tgt := 39) hx hb (by omega) dX3_bound_34 (by decide) (fun c_34 => ?_) (fun c_34 => ?_)
      · exact absurd c_34 (by decide)
      · refine lv_iconst (v := zi (0)) hx hb dX3_bound_37 rfl ?_
        have hP9 : va_P (dC, dI) vwCl [(m0, .inr (3, [.int (zi (1)), .int (zi ((mp : Int))), .ref a1, .ref a2, .ref a3, .ref a4, .ref a5, .ref a6, .int (zi ((mb : Int))), .ref a7, .ref a8, .int (zi ((ml : Int))), .ref a9, .ref a10, .int (zi ((mz : Int))), .ref a11, .long (zl (ab)), .long (zl (be))]))] H := hP
        rw [hQQ]
        exact wr_i hx hb hr hlocks rfl hP9 hS dX3_bound_38

set_option maxHeartbeats 4000000 in
set_option maxRecDepth 100000 in
theorem e_bound_2 (l : Launch) (dC : Nat → ClassId) (dI : Nat → Nat → Nat) (sz : Nat) (m0 a1 a2 a3 a4 a5 a6 a7 a8 a9 a10 a11 : Nat) (tw ab be : Int) (mp mb ml mz : Nat) (v : Int) (hmp : mp ≤ 6) (h_v : -2147483648 ≤ v ∧ v < 2147483648) (hok : 0 ≤ v ∧ v ≤ 1000000000) (hbad : mb = 10) : Met l yX3_bound (Cond.code yX3_bound cX3_bound 2 ((Option.some Jvm.ClassFile.FieldType.int)) :: gw) rm_X3_bound (PcW [.ref m0, .int (zi (v))] (dC, dI) vwCl [(m0, .inr (3, [.int (zi (tw)), .int (zi ((mp : Int))), .ref a1, .ref a2, .ref a3, .ref a4, .ref a5, .ref a6, .int (zi ((mb : Int))), .ref a7, .ref a8, .int (zi ((ml : Int))), .ref a9, .ref a10, .int (zi ((mz : Int))), .ref a11, .long (zl (ab)), .long (zl (be))]))] [] sz) (WrQ (some (.int (zi 0))) (dC, dI) vwCl [(m0, .inr (3, [.int (zi (2)), .int (zi ((mp : Int))), .ref a1, .ref a2, .ref a3, .ref a4, .ref a5, .ref a6, .int (zi ((mb : Int))), .ref a7, .ref a8, .int (zi ((ml : Int))), .ref a9, .ref a10, .int (zi ((mz : Int))), .ref a11, .long (zl (ab)), .long (zl (be))]))] (va_A [(m0, .inr (3, [.int (zi (tw)), .int (zi ((mp : Int))), .ref a1, .ref a2, .ref a3, .ref a4, .ref a5, .ref a6, .int (zi ((mb : Int))), .ref a7, .ref a8, .int (zi ((ml : Int))), .ref a9, .ref a10, .int (zi ((mz : Int))), .ref a11, .long (zl (ab)), .long (zl (be))]))] sz)) 0 0 (va_A [(m0, .inr (3, [.int (zi (tw)), .int (zi ((mp : Int))), .ref a1, .ref a2, .ref a3, .ref a4, .ref a5, .ref a6, .int (zi ((mb : Int))), .ref a7, .ref a8, .int (zi ((ml : Int))), .ref a9, .ref a10, .int (zi ((mz : Int))), .ref a11, .long (zl (ab)), .long (zl (be))]))] sz) := by
  refine Met.ofW (cc := cX3_bound) (maxL := 2) (ret := ((Option.some Jvm.ClassFile.FieldType.int))) (by decide) rfl ?_
  intro p e s m args below meth c s₁ B hml hv
  obtain ⟨hargs, hsz, hP, hK, hD0⟩ := hv
  have hx := B.exec
  have hb := B.bytes
  have hr := B.returns
  have hts := atoms_spec (ws := Cond.code yX3_bound cX3_bound 2 ((Option.some Jvm.ClassFile.FieldType.int)) :: gw) B.pre
  have hg : ∀ w ∈ gw, w.before args s = true := fun w h => hts w (List.mem_cons_of_mem _ h)
  have hown : s.vm.findClass RX3 = some m.cls := findClass_of_methodNamed B.named
  have hlocks := B.notSynchronized
  subst hsz
  have hD := hD0.self (sz := s.heap.size)
  generalize hAe : va_A [(m0, .inr (3, [.int (zi (tw)), .int (zi ((mp : Int))), .ref a1, .ref a2, .ref a3, .ref a4, .ref a5, .ref a6, .int (zi ((mb : Int))), .ref a7, .ref a8, .int (zi ((ml : Int))), .ref a9, .ref a10, .int (zi ((mz : Int))), .ref a11, .long (zl (ab)), .long (zl (be))]))] s.heap.size = A at hD ⊢
  have hA : ∀ q : Nat, s.heap.size ≤ q → A q := fun q h => by rw [← hAe]; exact Or.inr h
  show W p l e rm_X3_bound s m args below meth c s.heap [] 0 0 _ _
  have hl := lv_entry ([.ref m0, .int (zi (v))]) (n := 2) (Nat.le_of_ble_eq_true rfl)
  rw [show entryFrame m args 2 = entryFrame m ([.ref m0, .int (zi (v))] : List Value).toArray 2 by rw [hargs], lg_entry_eq]
  generalize (lg_sl ([.ref m0, .int (zi (v))]) ++ List.replicate (2 - (lg_sl ([.ref m0, .int (zi (v))])).length) Slot.unset).toArray = ls at hl ⊢
  have hl : lv_has ls 2 [(0, .ref m0), (1, .int (zi (v)))] := hl
  obtain ⟨QQ, hQQ⟩ : ∃ Q, Q = MQ below (WrQ (some (.int (zi 0))) (dC, dI) vwCl [(m0, .inr (3, [.int (zi (2)), .int (zi ((mp : Int))), .ref a1, .ref a2, .ref a3, .ref a4, .ref a5, .ref a6, .int (zi ((mb : Int))), .ref a7, .ref a8, .int (zi ((ml : Int))), .ref a9, .ref a10, .int (zi ((mz : Int))), .ref a11, .long (zl (ab)), .long (zl (be))]))] A) args s 0 0 A := ⟨_, rfl⟩
  rw [← hQQ]
  obtain ⟨H, hHe⟩ : ∃ H : Heap, H = s.heap := ⟨_, rfl⟩
  obtain ⟨locs, hlc⟩ : ∃ x : List Loc, x = [] := ⟨_, rfl⟩
  have hS : va_S A s.heap H locs := by rw [hHe, hlc]; exact va_S.rf
  have hP : va_P (dC, dI) vwCl [(m0, .inr (3, [.int (zi (tw)), .int (zi ((mp : Int))), .ref a1, .ref a2, .ref a3, .ref a4, .ref a5, .ref a6, .int (zi ((mb : Int))), .ref a7, .ref a8, .int (zi ((ml : Int))), .ref a9, .ref a10, .int (zi ((mz : Int))), .ref a11, .long (zl (ab)), .long (zl (be))]))] H := by rw [hHe]; exact hP
  have hD : va_D A [(m0, .inr (3, [.int (zi (tw)), .int (zi ((mp : Int))), .ref a1, .ref a2, .ref a3, .ref a4, .ref a5, .ref a6, .int (zi ((mb : Int))), .ref a7, .ref a8, .int (zi ((ml : Int))), .ref a9, .ref a10, .int (zi ((mz : Int))), .ref a11, .long (zl (ab)), .long (zl (be))]))] := hD
  rw [← hHe, ← hlc]
  refine lv_aload_n hx hb dX3_bound_0 rfl (lv_at hl 0 rfl) ?_
  refine lv_iload_n hx hb dX3_bound_1 rfl (lv_at hl 1 rfl) ?_
  refine lv_iconst (v := zi (0)) hx hb dX3_bound_2 rfl ?_
  refine lv_ldc (v := 1000000000) hx hb hown (hg _ wl_X3_135) dX3_bound_3 ?_
  refine zz_topi (z := 1000000000) (by decide) ?_
  refine rdS (As := [.int (zi (v)), .int (zi (0)), .int (zi (1000000000))]) (rest := [.ref m0]) (n := 3) hx hb hml hown hg (c_X3_in l (v) (0) (1000000000) (by omega) (by omega) (by omega)) (gwS wl_X3_55 wt_X3_in wi_X3 wc_X3_in) rfl rfl (by decide +kernel) ⟨Nat.le_of_ble_eq_true rfl, Nat.le_of_ble_eq_true rfl⟩ rfl hl.1 rfl (Nat.le_of_ble_eq_true rfl) dX3_bound_5 ⟨Nat.zero_le _, Nat.zero_le _⟩ ?_
  refine zz_topi (z := 1) (congrArg zi (zb_t (decide_eq_true (by omega)))) ?_
  refine zz_if_ne (tgt := 15) hx hb (by omega) dX3_bound_8 (by decide) (fun c_8 => ?_) (fun c_8 => ?_)
  · refine lv_iconst (v := zi (0)) hx hb dX3_bound_15 rfl ?_
    refine lv_aload_n hx hb dX3_bound_16 rfl (lv_at hl 0 rfl) ?_
    refine va_get (D := (dC, dI)) (ci := 3) (v := .int (zi ((mb : Int)))) (C := RX3) (T := TX3) (N := 18) hx hb hg inX3 hown hK hP 0 rfl rfl 8 (by decide) (hg _ wl_X3_136) (fun _ h9 => h9) rfl dX3_bound_17 ?_
    refine lv_bipush (v := zi (10)) hx hb dX3_bound_20 (by decide) ?_
    refine zz_icmp_ne (tgt := 29) hx hb (by omega) (by omega) dX3_bound_22 (by decide) (fun c_22 => ?_) (fun c_22 => ?_)
    · exact False.elim (by omega)
    · refine lv_iconst (v := zi (1)) hx hb dX3_bound_25 rfl ?_
      refine lv_goto (tgt := 30) hx hb dX3_bound_26 (by decide) ?_
      refine lv_iconst (v := zi (0)) hx hb dX3_bound_30 rfl ?_
      refine wrV (As := [.int (zi (0)), .int (zi (1)), .int (zi (0))]) (rest := []) (n := 3) (ws' := [(m0, .inr (3, [.int (zi (2)), .int (zi ((mp : Int))), .ref a1, .ref a2, .ref a3, .ref a4, .ref a5, .ref a6, .int (zi ((mb : Int))), .ref a7, .ref a8, .int (zi ((ml : Int))), .ref a9, .ref a10, .int (zi ((mz : Int))), .ref a11, .long (zl (ab)), .long (zl (be))]))]) hx hb hml hown hg (c_throwing l dC dI H.size m0 a1 a2 a3 a4 a5 a6 a7 a8 a9 a10 a11 (tw) (ab) (be) mp mb ml mz 0 1 0 (by decide) (by decide) (by decide)) (gwV wl_X3_59 wm_X3_throwing we_X3_throwing wi_X3 wc_X3_throwing) rfl rfl (by decide +kernel) ⟨Nat.le_of_ble_eq_true rfl, Nat.le_of_ble_eq_true rfl⟩ (hK.sub [] rfl) hP hD hS hA [0] rfl (by decide) [(true, 0)] rfl (by decide) rfl 0 rfl rfl rfl rfl hl.1 rfl (Nat.le_of_ble_eq_true rfl) dX3_bound_31 ⟨Nat.zero_le _, Nat.zero_le _⟩ (fun H locs hP hD hS => ?_)
      refine zz_topi (z := 1) (congrArg zi (by decide)) ?_
      refine zz_if_eq (tgt := 39) hx hb (by omega) dX3_bound_34 (by decide) (fun c_34 => ?_) (fun c_34 => ?_)
      · exact absurd c_34 (by decide)
      · refine lv_iconst (v := zi (0)) hx hb dX3_bound_37 rfl ?_
        have hP9 : va_P (dC, dI) vwCl [(m0, .inr (3, [.int (zi (2)), .int (zi ((mp : Int))), .ref a1, .ref a2, .ref a3, .ref a4, .ref a5, .ref a6, .int (zi ((mb : Int))), .ref a7, .ref a8, .int (zi ((ml : Int))), .ref a9, .ref a10, .int (zi ((mz : Int))), .ref a11, .long (zl (ab)), .long (zl (be))]))] H := hP
        rw [hQQ]
        exact wr_i hx hb hr hlocks rfl hP9 hS dX3_bound_38
  · exact absurd c_8 (by decide)

set_option maxHeartbeats 4000000 in
set_option maxRecDepth 100000 in
theorem k_bound (l : Launch) (dC : Nat → ClassId) (dI : Nat → Nat → Nat) (sz : Nat) (m0 a1 a2 a3 a4 a5 a6 a7 a8 a9 a10 a11 : Nat) (tw ab be : Int) (mp mb ml mz : Nat) (cA : ClassId) (bs : Nat → Int) (v : Int) (hok : 0 ≤ v ∧ v ≤ 1000000000) (hb9 : mb < 10) : Met l yX3_bound (Cond.code yX3_bound cX3_bound 2 ((Option.some Jvm.ClassFile.FieldType.int)) :: gw) rm_X3_bound (PcW [.ref m0, .int (zi (v))] (dC, dI) vwCl [(m0, .inr (3, [.int (zi (tw)), .int (zi ((mp : Int))), .ref a1, .ref a2, .ref a3, .ref a4, .ref a5, .ref a6, .int (zi ((mb : Int))), .ref a7, .ref a8, .int (zi ((ml : Int))), .ref a9, .ref a10, .int (zi ((mz : Int))), .ref a11, .long (zl (ab)), .long (zl (be))])), (a6, .inl (cA, 10, .inl (zA (bs))))] [(cA, .int)] sz) (WrQ (some (.int (zi ((mb + 1 : Nat) : Int)))) (dC, dI) vwCl [(m0, .inr (3, [.int (zi (0)), .int (zi ((mp : Int))), .ref a1, .ref a2, .ref a3, .ref a4, .ref a5, .ref a6, .int (zi (((mb + 1 : Nat) : Int))), .ref a7, .ref a8, .int (zi ((ml : Int))), .ref a9, .ref a10, .int (zi ((mz : Int))), .ref a11, .long (zl (ab)), .long (zl (be))])), (a6, .inl (cA, 10, .inl (zA (zupd bs (mb) (v)))))] (va_A [(m0, .inr (3, [.int (zi (tw)), .int (zi ((mp : Int))), .ref a1, .ref a2, .ref a3, .ref a4, .ref a5, .ref a6, .int (zi ((mb : Int))), .ref a7, .ref a8, .int (zi ((ml : Int))), .ref a9, .ref a10, .int (zi ((mz : Int))), .ref a11, .long (zl (ab)), .long (zl (be))])), (a6, .inl (cA, 10, .inl (zA (bs))))] sz)) 0 0 (va_A [(m0, .inr (3, [.int (zi (tw)), .int (zi ((mp : Int))), .ref a1, .ref a2, .ref a3, .ref a4, .ref a5, .ref a6, .int (zi ((mb : Int))), .ref a7, .ref a8, .int (zi ((ml : Int))), .ref a9, .ref a10, .int (zi ((mz : Int))), .ref a11, .long (zl (ab)), .long (zl (be))])), (a6, .inl (cA, 10, .inl (zA (bs))))] sz) := by
  refine Met.ofW (cc := cX3_bound) (maxL := 2) (ret := ((Option.some Jvm.ClassFile.FieldType.int))) (by decide) rfl ?_
  intro p e s m args below meth c s₁ B hml hv
  obtain ⟨hargs, hsz, hP, hK, hD0⟩ := hv
  have hx := B.exec
  have hb := B.bytes
  have hr := B.returns
  have hts := atoms_spec (ws := Cond.code yX3_bound cX3_bound 2 ((Option.some Jvm.ClassFile.FieldType.int)) :: gw) B.pre
  have hg : ∀ w ∈ gw, w.before args s = true := fun w h => hts w (List.mem_cons_of_mem _ h)
  have hown : s.vm.findClass RX3 = some m.cls := findClass_of_methodNamed B.named
  have hlocks := B.notSynchronized
  subst hsz
  have hD := hD0.self (sz := s.heap.size)
  generalize hAe : va_A [(m0, .inr (3, [.int (zi (tw)), .int (zi ((mp : Int))), .ref a1, .ref a2, .ref a3, .ref a4, .ref a5, .ref a6, .int (zi ((mb : Int))), .ref a7, .ref a8, .int (zi ((ml : Int))), .ref a9, .ref a10, .int (zi ((mz : Int))), .ref a11, .long (zl (ab)), .long (zl (be))])), (a6, .inl (cA, 10, .inl (zA (bs))))] s.heap.size = A at hD ⊢
  have hA : ∀ q : Nat, s.heap.size ≤ q → A q := fun q h => by rw [← hAe]; exact Or.inr h
  show W p l e rm_X3_bound s m args below meth c s.heap [] 0 0 _ _
  have hl := lv_entry ([.ref m0, .int (zi (v))]) (n := 2) (Nat.le_of_ble_eq_true rfl)
  rw [show entryFrame m args 2 = entryFrame m ([.ref m0, .int (zi (v))] : List Value).toArray 2 by rw [hargs], lg_entry_eq]
  generalize (lg_sl ([.ref m0, .int (zi (v))]) ++ List.replicate (2 - (lg_sl ([.ref m0, .int (zi (v))])).length) Slot.unset).toArray = ls at hl ⊢
  have hl : lv_has ls 2 [(0, .ref m0), (1, .int (zi (v)))] := hl
  obtain ⟨QQ, hQQ⟩ : ∃ Q, Q = MQ below (WrQ (some (.int (zi ((mb + 1 : Nat) : Int)))) (dC, dI) vwCl [(m0, .inr (3, [.int (zi (0)), .int (zi ((mp : Int))), .ref a1, .ref a2, .ref a3, .ref a4, .ref a5, .ref a6, .int (zi (((mb + 1 : Nat) : Int))), .ref a7, .ref a8, .int (zi ((ml : Int))), .ref a9, .ref a10, .int (zi ((mz : Int))), .ref a11, .long (zl (ab)), .long (zl (be))])), (a6, .inl (cA, 10, .inl (zA (zupd bs (mb) (v)))))] A) args s 0 0 A := ⟨_, rfl⟩
  rw [← hQQ]
  obtain ⟨H, hHe⟩ : ∃ H : Heap, H = s.heap := ⟨_, rfl⟩
  obtain ⟨locs, hlc⟩ : ∃ x : List Loc, x = [] := ⟨_, rfl⟩
  have hS : va_S A s.heap H locs := by rw [hHe, hlc]; exact va_S.rf
  have hP : va_P (dC, dI) vwCl [(m0, .inr (3, [.int (zi (tw)), .int (zi ((mp : Int))), .ref a1, .ref a2, .ref a3, .ref a4, .ref a5, .ref a6, .int (zi ((mb : Int))), .ref a7, .ref a8, .int (zi ((ml : Int))), .ref a9, .ref a10, .int (zi ((mz : Int))), .ref a11, .long (zl (ab)), .long (zl (be))])), (a6, .inl (cA, 10, .inl (zA (bs))))] H := by rw [hHe]; exact hP
  have hD : va_D A [(m0, .inr (3, [.int (zi (tw)), .int (zi ((mp : Int))), .ref a1, .ref a2, .ref a3, .ref a4, .ref a5, .ref a6, .int (zi ((mb : Int))), .ref a7, .ref a8, .int (zi ((ml : Int))), .ref a9, .ref a10, .int (zi ((mz : Int))), .ref a11, .long (zl (ab)), .long (zl (be))])), (a6, .inl (cA, 10, .inl (zA (bs))))] := hD
  rw [← hHe, ← hlc]
  refine lv_aload_n hx hb dX3_bound_0 rfl (lv_at hl 0 rfl) ?_
  refine lv_iload_n hx hb dX3_bound_1 rfl (lv_at hl 1 rfl) ?_
  refine lv_iconst (v := zi (0)) hx hb dX3_bound_2 rfl ?_
  refine lv_ldc (v := 1000000000) hx hb hown (hg _ wl_X3_135) dX3_bound_3 ?_
  refine zz_topi (z := 1000000000) (by decide) ?_
  refine rdS (As := [.int (zi (v)), .int (zi (0)), .int (zi (1000000000))]) (rest := [.ref m0]) (n := 3) hx hb hml hown hg (c_X3_in l (v) (0) (1000000000) (by omega) (by omega) (by omega)) (gwS wl_X3_55 wt_X3_in wi_X3 wc_X3_in) rfl rfl (by decide +kernel) ⟨Nat.le_of_ble_eq_true rfl, Nat.le_of_ble_eq_true rfl⟩ rfl hl.1 rfl (Nat.le_of_ble_eq_true rfl) dX3_bound_5 ⟨Nat.zero_le _, Nat.zero_le _⟩ ?_
  refine zz_topi (z := 1) (congrArg zi (zb_t (decide_eq_true (by omega)))) ?_
  refine zz_if_ne (tgt := 15) hx hb (by omega) dX3_bound_8 (by decide) (fun c_8 => ?_) (fun c_8 => ?_)
  · refine lv_iconst (v := zi (0)) hx hb dX3_bound_15 rfl ?_
    refine lv_aload_n hx hb dX3_bound_16 rfl (lv_at hl 0 rfl) ?_
    refine va_get (D := (dC, dI)) (ci := 3) (v := .int (zi ((mb : Int)))) (C := RX3) (T := TX3) (N := 18) hx hb hg inX3 hown hK hP 0 rfl rfl 8 (by decide) (hg _ wl_X3_136) (fun _ h9 => h9) rfl dX3_bound_17 ?_
    refine lv_bipush (v := zi (10)) hx hb dX3_bound_20 (by decide) ?_
    refine zz_icmp_ne (tgt := 29) hx hb (by omega) (by omega) dX3_bound_22 (by decide) (fun c_22 => ?_) (fun c_22 => ?_)
    · refine lv_iconst (v := zi (0)) hx hb dX3_bound_29 rfl ?_
      refine lv_iconst (v := zi (0)) hx hb dX3_bound_30 rfl ?_
      refine wrV (As := [.int (zi (0)), .int (zi (0)), .int (zi (0))]) (rest := []) (n := 3) (ws' := [(m0, .inr (3, [.int (zi (0)), .int (zi ((mp : Int))), .ref a1, .ref a2, .ref a3, .ref a4, .ref a5, .ref a6, .int (zi ((mb : Int))), .ref a7, .ref a8, .int (zi ((ml : Int))), .ref a9, .ref a10, .int (zi ((mz : Int))), .ref a11, .long (zl (ab)), .long (zl (be))])), (a6, .inl (cA, 10, .inl (zA (bs))))]) hx hb hml hown hg (c_throwing l dC dI H.size m0 a1 a2 a3 a4 a5 a6 a7 a8 a9 a10 a11 (tw) (ab) (be) mp mb ml mz 0 0 0 (by decide) (by decide) (by decide)) (gwV wl_X3_59 wm_X3_throwing we_X3_throwing wi_X3 wc_X3_throwing) rfl rfl (by decide +kernel) ⟨Nat.le_of_ble_eq_true rfl, Nat.le_of_ble_eq_true rfl⟩ (hK.sub [] rfl) hP hD hS hA [0] rfl (by decide) [(true, 0), (false, 1)] rfl (by decide) rfl 0 rfl rfl rfl rfl hl.1 rfl (Nat.le_of_ble_eq_true rfl) dX3_bound_31 ⟨Nat.zero_le _, Nat.zero_le _⟩ (fun H locs hP hD hS => ?_)
      refine zz_topi (z := 0) (congrArg zi (by decide)) ?_
      refine zz_if_eq (tgt := 39) hx hb (by omega) dX3_bound_34 (by decide) (fun c_34 => ?_) (fun c_34 => ?_)
      · refine lv_aload_n hx hb dX3_bound_39 rfl (lv_at hl 0 rfl) ?_
        refine va_get (D := (dC, dI)) (ci := 3) (v := .ref a6) (C := RX3) (T := TX3) (N := 18) hx hb hg inX3 hown hK hP 0 rfl rfl 7 (by decide) (hg _ wl_X3_26) (fun _ h9 => h9) rfl dX3_bound_40 ?_
        refine lv_aload_n hx hb dX3_bound_43 rfl (lv_at hl 0 rfl) ?_
        refine va_get (D := (dC, dI)) (ci := 3) (v := .int (zi ((mb : Int)))) (C := RX3) (T := TX3) (N := 18) hx hb hg inX3 hown hK hP 0 rfl rfl 8 (by decide) (hg _ wl_X3_136) (fun _ h9 => h9) rfl dX3_bound_44 ?_
        refine lv_iload_n hx hb dX3_bound_47 rfl (lv_at hl 1 rfl) ?_
        refine zz_iast hx hb hK hP hD hS 1 0 rfl rfl (mb) (by omega) (by omega) (by decide) dX3_bound_48 (fun H locs hP hD hS => ?_)
        have hP : va_P (dC, dI) vwCl [(m0, .inr (3, [.int (zi (0)), .int (zi ((mp : Int))), .ref a1, .ref a2, .ref a3, .ref a4, .ref a5, .ref a6, .int (zi ((mb : Int))), .ref a7, .ref a8, .int (zi ((ml : Int))), .ref a9, .ref a10, .int (zi ((mz : Int))), .ref a11, .long (zl (ab)), .long (zl (be))])), (a6, .inl (cA, 10, .inl (zA (zupd bs (mb) (v)))))] H := hP
        have hD : va_D A [(m0, .inr (3, [.int (zi (0)), .int (zi ((mp : Int))), .ref a1, .ref a2, .ref a3, .ref a4, .ref a5, .ref a6, .int (zi ((mb : Int))), .ref a7, .ref a8, .int (zi ((ml : Int))), .ref a9, .ref a10, .int (zi ((mz : Int))), .ref a11, .long (zl (ab)), .long (zl (be))])), (a6, .inl (cA, 10, .inl (zA (zupd bs (mb) (v)))))] := hD
        refine lv_aload_n hx hb dX3_bound_49 rfl (lv_at hl 0 rfl) ?_
        refine lv_dup hx hb dX3_bound_50 rfl ?_
        refine va_get (D := (dC, dI)) (ci := 3) (v := .int (zi ((mb : Int)))) (C := RX3) (T := TX3) (N := 18) hx hb hg inX3 hown hK hP 0 rfl rfl 8 (by decide) (hg _ wl_X3_136) (fun _ h9 => h9) rfl dX3_bound_51 ?_
        refine lv_iconst (v := zi (1)) hx hb dX3_bound_54 rfl ?_
        refine zz_iadd hx hb dX3_bound_55 ?_
        refine zz_topi (z := ((mb + 1 : Nat) : Int)) (congrArg zi (by push_cast; rfl)) ?_
        refine va_put (D := (dC, dI)) (ci := 3) (v := .int (zi (((mb + 1 : Nat) : Int)))) (ty := .int) (C := RX3) (T := TX3) (N := 18) hx hb hg inX3 tyX3 tyX3_ok nmX3 hown hK hP hD hS 0 rfl rfl 8 (by decide) (hg _ wl_X3_136) (fun _ h9 => h9) rfl (by decide +kernel) rfl rfl (Nat.le_of_ble_eq_true rfl) dX3_bound_56 (fun H locs hP hD hS => ?_)
        have hP : va_P (dC, dI) vwCl [(m0, .inr (3, [.int (zi (0)), .int (zi ((mp : Int))), .ref a1, .ref a2, .ref a3, .ref a4, .ref a5, .ref a6, .int (zi (((mb + 1 : Nat) : Int))), .ref a7, .ref a8, .int (zi ((ml : Int))), .ref a9, .ref a10, .int (zi ((mz : Int))), .ref a11, .long (zl (ab)), .long (zl (be))])), (a6, .inl (cA, 10, .inl (zA (zupd bs (mb) (v)))))] H := hP
        have hD : va_D A [(m0, .inr (3, [.int (zi (0)), .int (zi ((mp : Int))), .ref a1, .ref a2, .ref a3, .ref a4, .ref a5, .ref a6, .int (zi (((mb + 1 : Nat) : Int))), .ref a7, .ref a8, .int (zi ((ml : Int))), .ref a9, .ref a10, .int (zi ((mz : Int))), .ref a11, .long (zl (ab)), .long (zl (be))])), (a6, .inl (cA, 10, .inl (zA (zupd bs (mb) (v)))))] := hD
        refine lv_aload_n hx hb dX3_bound_59 rfl (lv_at hl 0 rfl) ?_
        refine va_get (D := (dC, dI)) (ci := 3) (v := .int (zi (((mb + 1 : Nat) : Int)))) (C := RX3) (T := TX3) (N := 18) hx hb hg inX3 hown hK hP 0 rfl rfl 8 (by decide) (hg _ wl_X3_136) (fun _ h9 => h9) rfl dX3_bound_60 ?_
        have hP9 : va_P (dC, dI) vwCl [(m0, .inr (3, [.int (zi (0)), .int (zi ((mp : Int))), .ref a1, .ref a2, .ref a3, .ref a4, .ref a5, .ref a6, .int (zi (((mb + 1 : Nat) : Int))), .ref a7, .ref a8, .int (zi ((ml : Int))), .ref a9, .ref a10, .int (zi ((mz : Int))), .ref a11, .long (zl (ab)), .long (zl (be))])), (a6, .inl (cA, 10, .inl (zA (zupd bs (mb) (v)))))] H := hP
        rw [hQQ]
        exact wr_i hx hb hr hlocks rfl hP9 hS dX3_bound_63
      · exact absurd c_34 (by decide)
    · exact False.elim (by omega)
  · exact absurd c_8 (by decide)

abbrev rm_X3_rim : Room := { frames := 1, cells := 0, slots := 0, locals := 23 }
set_option maxHeartbeats 4000000 in
set_option maxRecDepth 100000 in
theorem e_rim_1 (l : Launch) (dC : Nat → ClassId) (dI : Nat → Nat → Nat) (sz : Nat) (m0 a1 a2 a3 a4 a5 a6 a7 a8 a9 a10 a11 : Nat) (tw ab be : Int) (mp mb ml mz : Nat) (u v : Int) (hmp : mp ≤ 6) (h_u : -2147483648 ≤ u ∧ u < 2147483648) (h_v : -2147483648 ≤ v ∧ v < 2147483648) (hbm : ml ≤ 20) (hbad : ¬ (-200 ≤ u ∧ u ≤ 200 ∧ -200 ≤ v ∧ v ≤ 200)) : Met l yX3_rim (Cond.code yX3_rim cX3_rim 3 ((Option.some Jvm.ClassFile.FieldType.int)) :: gw) rm_X3_rim (PcW [.ref m0, .int (zi (u)), .int (zi (v))] (dC, dI) vwCl [(m0, .inr (3, [.int (zi (tw)), .int (zi ((mp : Int))), .ref a1, .ref a2, .ref a3, .ref a4, .ref a5, .ref a6, .int (zi ((mb : Int))), .ref a7, .ref a8, .int (zi ((ml : Int))), .ref a9, .ref a10, .int (zi ((mz : Int))), .ref a11, .long (zl (ab)), .long (zl (be))]))] [] sz) (WrQ (some (.int (zi 0))) (dC, dI) vwCl [(m0, .inr (3, [.int (zi (1)), .int (zi ((mp : Int))), .ref a1, .ref a2, .ref a3, .ref a4, .ref a5, .ref a6, .int (zi ((mb : Int))), .ref a7, .ref a8, .int (zi ((ml : Int))), .ref a9, .ref a10, .int (zi ((mz : Int))), .ref a11, .long (zl (ab)), .long (zl (be))]))] (va_A [(m0, .inr (3, [.int (zi (tw)), .int (zi ((mp : Int))), .ref a1, .ref a2, .ref a3, .ref a4, .ref a5, .ref a6, .int (zi ((mb : Int))), .ref a7, .ref a8, .int (zi ((ml : Int))), .ref a9, .ref a10, .int (zi ((mz : Int))), .ref a11, .long (zl (ab)), .long (zl (be))]))] sz)) 0 0 (va_A [(m0, .inr (3, [.int (zi (tw)), .int (zi ((mp : Int))), .ref a1, .ref a2, .ref a3, .ref a4, .ref a5, .ref a6, .int (zi ((mb : Int))), .ref a7, .ref a8, .int (zi ((ml : Int))), .ref a9, .ref a10, .int (zi ((mz : Int))), .ref a11, .long (zl (ab)), .long (zl (be))]))] sz) := by
  refine Met.ofW (cc := cX3_rim) (maxL := 3) (ret := ((Option.some Jvm.ClassFile.FieldType.int))) (by decide) rfl ?_
  intro p e s m args below meth c s₁ B hml hv
  obtain ⟨hargs, hsz, hP, hK, hD0⟩ := hv
  have hx := B.exec
  have hb := B.bytes
  have hr := B.returns
  have hts := atoms_spec (ws := Cond.code yX3_rim cX3_rim 3 ((Option.some Jvm.ClassFile.FieldType.int)) :: gw) B.pre
  have hg : ∀ w ∈ gw, w.before args s = true := fun w h => hts w (List.mem_cons_of_mem _ h)
  have hown : s.vm.findClass RX3 = some m.cls := findClass_of_methodNamed B.named
  have hlocks := B.notSynchronized
  subst hsz
  have hD := hD0.self (sz := s.heap.size)
  generalize hAe : va_A [(m0, .inr (3, [.int (zi (tw)), .int (zi ((mp : Int))), .ref a1, .ref a2, .ref a3, .ref a4, .ref a5, .ref a6, .int (zi ((mb : Int))), .ref a7, .ref a8, .int (zi ((ml : Int))), .ref a9, .ref a10, .int (zi ((mz : Int))), .ref a11, .long (zl (ab)), .long (zl (be))]))] s.heap.size = A at hD ⊢
  have hA : ∀ q : Nat, s.heap.size ≤ q → A q := fun q h => by rw [← hAe]; exact Or.inr h
  show W p l e rm_X3_rim s m args below meth c s.heap [] 0 0 _ _
  have hl := lv_entry ([.ref m0, .int (zi (u)), .int (zi (v))]) (n := 3) (Nat.le_of_ble_eq_true rfl)
  rw [show entryFrame m args 3 = entryFrame m ([.ref m0, .int (zi (u)), .int (zi (v))] : List Value).toArray 3 by rw [hargs], lg_entry_eq]
  generalize (lg_sl ([.ref m0, .int (zi (u)), .int (zi (v))]) ++ List.replicate (3 - (lg_sl ([.ref m0, .int (zi (u)), .int (zi (v))])).length) Slot.unset).toArray = ls at hl ⊢
  have hl : lv_has ls 3 [(0, .ref m0), (1, .int (zi (u))), (2, .int (zi (v)))] := hl
  obtain ⟨QQ, hQQ⟩ : ∃ Q, Q = MQ below (WrQ (some (.int (zi 0))) (dC, dI) vwCl [(m0, .inr (3, [.int (zi (1)), .int (zi ((mp : Int))), .ref a1, .ref a2, .ref a3, .ref a4, .ref a5, .ref a6, .int (zi ((mb : Int))), .ref a7, .ref a8, .int (zi ((ml : Int))), .ref a9, .ref a10, .int (zi ((mz : Int))), .ref a11, .long (zl (ab)), .long (zl (be))]))] A) args s 0 0 A := ⟨_, rfl⟩
  rw [← hQQ]
  obtain ⟨H, hHe⟩ : ∃ H : Heap, H = s.heap := ⟨_, rfl⟩
  obtain ⟨locs, hlc⟩ : ∃ x : List Loc, x = [] := ⟨_, rfl⟩
  have hS : va_S A s.heap H locs := by rw [hHe, hlc]; exact va_S.rf
  have hP : va_P (dC, dI) vwCl [(m0, .inr (3, [.int (zi (tw)), .int (zi ((mp : Int))), .ref a1, .ref a2, .ref a3, .ref a4, .ref a5, .ref a6, .int (zi ((mb : Int))), .ref a7, .ref a8, .int (zi ((ml : Int))), .ref a9, .ref a10, .int (zi ((mz : Int))), .ref a11, .long (zl (ab)), .long (zl (be))]))] H := by rw [hHe]; exact hP
  have hD : va_D A [(m0, .inr (3, [.int (zi (tw)), .int (zi ((mp : Int))), .ref a1, .ref a2, .ref a3, .ref a4, .ref a5, .ref a6, .int (zi ((mb : Int))), .ref a7, .ref a8, .int (zi ((ml : Int))), .ref a9, .ref a10, .int (zi ((mz : Int))), .ref a11, .long (zl (ab)), .long (zl (be))]))] := hD
  rw [← hHe, ← hlc]
  refine lv_aload_n hx hb dX3_rim_0 rfl (lv_at hl 0 rfl) ?_
  refine lv_iload_n hx hb dX3_rim_1 rfl (lv_at hl 1 rfl) ?_
  refine lv_sipush (v := zi (-200)) hx hb dX3_rim_2 (by decide) ?_
  refine lv_sipush (v := zi (200)) hx hb dX3_rim_5 (by decide) ?_
  refine rdS (As := [.int (zi (u)), .int (zi (-200)), .int (zi (200))]) (rest := [.ref m0]) (n := 3) hx hb hml hown hg (c_X3_in l (u) (-200) (200) (by omega) (by omega) (by omega)) (gwS wl_X3_55 wt_X3_in wi_X3 wc_X3_in) rfl rfl (by decide +kernel) ⟨Nat.le_of_ble_eq_true rfl, Nat.le_of_ble_eq_true rfl⟩ rfl hl.1 rfl (Nat.le_of_ble_eq_true rfl) dX3_rim_8 ⟨Nat.zero_le _, Nat.zero_le _⟩ ?_
  refine zz_zb_eq (tgt := 27) hx hb dX3_rim_11 (by decide) (fun c_11 => ?_) (fun c_11 => ?_)
  · refine lv_iconst (v := zi (1)) hx hb dX3_rim_27 rfl ?_
    refine lv_goto (tgt := 32) hx hb dX3_rim_28 (by decide) ?_
    refine lv_aload_n hx hb dX3_rim_32 rfl (lv_at hl 0 rfl) ?_
    refine va_get (D := (dC, dI)) (ci := 3) (v := .int (zi ((ml : Int)))) (C := RX3) (T := TX3) (N := 18) hx hb hg inX3 hown hK hP 0 rfl rfl 11 (by decide) (hg _ wl_X3_139) (fun _ h9 => h9) rfl dX3_rim_33 ?_
    refine lv_bipush (v := zi (20)) hx hb dX3_rim_36 (by decide) ?_
    refine zz_icmp_ne (tgt := 45) hx hb (by omega) (by omega) dX3_rim_38 (by decide) (fun c_38 => ?_) (fun c_38 => ?_)
    · refine lv_iconst (v := zi (0)) hx hb dX3_rim_45 rfl ?_
      refine lv_iconst (v := zi (0)) hx hb dX3_rim_46 rfl ?_
      refine wrV (As := [.int (zi (1)), .int (zi (0)), .int (zi (0))]) (rest := []) (n := 3) (ws' := [(m0, .inr (3, [.int (zi (1)), .int (zi ((mp : Int))), .ref a1, .ref a2, .ref a3, .ref a4, .ref a5, .ref a6, .int (zi ((mb : Int))), .ref a7, .ref a8, .int (zi ((ml : Int))), .ref a9, .ref a10, .int (zi ((mz : Int))), .ref a11, .long (zl (ab)), .long (zl (be))]))]) hx hb hml hown hg (c_throwing l dC dI H.size m0 a1 a2 a3 a4 a5 a6 a7 a8 a9 a10 a11 (tw) (ab) (be) mp mb ml mz 1 0 0 (by decide) (by decide) (by decide)) (gwV wl_X3_59 wm_X3_throwing we_X3_throwing wi_X3 wc_X3_throwing) rfl rfl (by decide +kernel) ⟨Nat.le_of_ble_eq_true rfl, Nat.le_of_ble_eq_true rfl⟩ (hK.sub [] rfl) hP hD hS hA [0] rfl (by decide) [(true, 0)] rfl (by decide) rfl 0 rfl rfl rfl rfl hl.1 rfl (Nat.le_of_ble_eq_true rfl) dX3_rim_47 ⟨Nat.zero_le _, Nat.zero_le _⟩ (fun H locs hP hD hS => ?_)
      refine zz_topi (z := 1) (congrArg zi (by decide)) ?_
      refine zz_if_eq (tgt := 55) hx hb (by omega) dX3_rim_50 (by decide) (fun c_50 => ?_) (fun c_50 => ?_)
      · exact absurd c_50 (by decide)
      · refine lv_iconst (v := zi (0)) hx hb dX3_rim_53 rfl ?_
        have hP9 : va_P (dC, dI) vwCl [(m0, .inr (3, [.int (zi (1)), .int (zi ((mp : Int))), .ref a1, .ref a2, .ref a3, .ref a4, .ref a5, .ref a6, .int (zi ((mb : Int))), .ref a7, .ref a8, .int (zi ((ml : Int))), .ref a9, .ref a10, .int (zi ((mz : Int))), .ref a11, .long (zl (ab)), .long (zl (be))]))] H := hP
        rw [hQQ]
        exact wr_i hx hb hr hlocks rfl hP9 hS dX3_rim_54
    · refine lv_iconst (v := zi (1)) hx hb dX3_rim_41 rfl ?_
      refine lv_goto (tgt := 46) hx hb dX3_rim_42 (by decide) ?_
      refine lv_iconst (v := zi (0)) hx hb dX3_rim_46 rfl ?_
      refine wrV (As := [.int (zi (1)), .int (zi (1)), .int (zi (0))]) (rest := []) (n := 3) (ws' := [(m0, .inr (3, [.int (zi (1)), .int (zi ((mp : Int))), .ref a1, .ref a2, .ref a3, .ref a4, .ref a5, .ref a6, .int (zi ((mb : Int))), .ref a7, .ref a8, .int (zi ((ml : Int))), .ref a9, .ref a10, .int (zi ((mz : Int))), .ref a11, .long (zl (ab)), .long (zl (be))]))]) hx hb hml hown hg (c_throwing l dC dI H.size m0 a1 a2 a3 a4 a5 a6 a7 a8 a9 a10 a11 (tw) (ab) (be) mp mb ml mz 1 1 0 (by decide) (by decide) (by decide)) (gwV wl_X3_59 wm_X3_throwing we_X3_throwing wi_X3 wc_X3_throwing) rfl rfl (by decide +kernel) ⟨Nat.le_of_ble_eq_true rfl, Nat.le_of_ble_eq_true rfl⟩ (hK.sub [] rfl) hP hD hS hA [0] rfl (by decide) [(true, 0)] rfl (by decide) rfl 0 rfl rfl rfl rfl hl.1 rfl (Nat.le_of_ble_eq_true rfl) dX3_rim_47 ⟨Nat.zero_le _, Nat.zero_le _⟩ (fun H locs hP hD hS => ?_)
      refine zz_topi (z := 1) (congrArg zi (by decide)) ?_
      refine zz_if_eq (tgt := 55) hx hb (by omega) dX3_rim_50 (by decide) (fun c_50 => ?_) (fun c_50 => ?_)
      · exact absurd c_50 (by decide)
      · refine lv_iconst (v := zi (0)) hx hb dX3_rim_53 rfl ?_
        have hP9 : va_P (dC, dI) vwCl [(m0, .inr (3, [.int (zi (1)), .int (zi ((mp : Int))), .ref a1, .ref a2, .ref a3, .ref a4, .ref a5, .ref a6, .int (zi ((mb : Int))), .ref a7, .ref a8, .int (zi ((ml : Int))), .ref a9, .ref a10, .int (zi ((mz : Int))), .ref a11, .long (zl (ab)), .long (zl (be))]))] H := hP
        rw [hQQ]
        exact wr_i hx hb hr hlocks rfl hP9 hS dX3_rim_54
  · refine lv_iload_n hx hb dX3_rim_14 rfl (lv_at hl 2 rfl) ?_
    refine lv_sipush (v := zi (-200)) hx hb dX3_rim_15 (by decide) ?_
    refine lv_sipush (v := zi (200)) hx hb dX3_rim_18 (by decide) ?_
    refine rdS (As := [.int (zi (v)), .int (zi (-200)), .int (zi (200))]) (rest := [.ref m0]) (n := 3) hx hb hml hown hg (c_X3_in l (v) (-200) (200) (by omega) (by omega) (by omega)) (gwS wl_X3_55 wt_X3_in wi_X3 wc_X3_in) rfl rfl (by decide +kernel) ⟨Nat.le_of_ble_eq_true rfl, Nat.le_of_ble_eq_true rfl⟩ rfl hl.1 rfl (Nat.le_of_ble_eq_true rfl) dX3_rim_21 ⟨Nat.zero_le _, Nat.zero_le _⟩ ?_
    refine zz_zb_ne (tgt := 31) hx hb dX3_rim_24 (by decide) (fun c_24 => ?_) (fun c_24 => ?_)
    · exact False.elim (by omega)
    · refine lv_iconst (v := zi (1)) hx hb dX3_rim_27 rfl ?_
      refine lv_goto (tgt := 32) hx hb dX3_rim_28 (by decide) ?_
      refine lv_aload_n hx hb dX3_rim_32 rfl (lv_at hl 0 rfl) ?_
      refine va_get (D := (dC, dI)) (ci := 3) (v := .int (zi ((ml : Int)))) (C := RX3) (T := TX3) (N := 18) hx hb hg inX3 hown hK hP 0 rfl rfl 11 (by decide) (hg _ wl_X3_139) (fun _ h9 => h9) rfl dX3_rim_33 ?_
      refine lv_bipush (v := zi (20)) hx hb dX3_rim_36 (by decide) ?_
      refine zz_icmp_ne (tgt := 45) hx hb (by omega) (by omega) dX3_rim_38 (by decide) (fun c_38 => ?_) (fun c_38 => ?_)
      · refine lv_iconst (v := zi (0)) hx hb dX3_rim_45 rfl ?_
        refine lv_iconst (v := zi (0)) hx hb dX3_rim_46 rfl ?_
        refine wrV (As := [.int (zi (1)), .int (zi (0)), .int (zi (0))]) (rest := []) (n := 3) (ws' := [(m0, .inr (3, [.int (zi (1)), .int (zi ((mp : Int))), .ref a1, .ref a2, .ref a3, .ref a4, .ref a5, .ref a6, .int (zi ((mb : Int))), .ref a7, .ref a8, .int (zi ((ml : Int))), .ref a9, .ref a10, .int (zi ((mz : Int))), .ref a11, .long (zl (ab)), .long (zl (be))]))]) hx hb hml hown hg (c_throwing l dC dI H.size m0 a1 a2 a3 a4 a5 a6 a7 a8 a9 a10 a11 (tw) (ab) (be) mp mb ml mz 1 0 0 (by decide) (by decide) (by decide)) (gwV wl_X3_59 wm_X3_throwing we_X3_throwing wi_X3 wc_X3_throwing) rfl rfl (by decide +kernel) ⟨Nat.le_of_ble_eq_true rfl, Nat.le_of_ble_eq_true rfl⟩ (hK.sub [] rfl) hP hD hS hA [0] rfl (by decide) [(true, 0)] rfl (by decide) rfl 0 rfl rfl rfl rfl hl.1 rfl (Nat.le_of_ble_eq_true rfl) dX3_rim_47 ⟨Nat.zero_le _, Nat.zero_le _⟩ (fun H locs hP hD hS => ?_)
        refine zz_topi (z := 1) (congrArg zi (by decide)) ?_
        refine zz_if_eq (tgt := 55) hx hb (by omega) dX3_rim_50 (by decide) (fun c_50 => ?_) (fun c_50 => ?_)
        · exact absurd c_50 (by decide)
        · refine lv_iconst (v := zi (0)) hx hb dX3_rim_53 rfl ?_
          have hP9 : va_P (dC, dI) vwCl [(m0, .inr (3, [.int (zi (1)), .int (zi ((mp : Int))), .ref a1, .ref a2, .ref a3, .ref a4, .ref a5, .ref a6, .int (zi ((mb : Int))), .ref a7, .ref a8, .int (zi ((ml : Int))), .ref a9, .ref a10, .int (zi ((mz : Int))), .ref a11, .long (zl (ab)), .long (zl (be))]))] H := hP
          rw [hQQ]
          exact wr_i hx hb hr hlocks rfl hP9 hS dX3_rim_54
      · refine lv_iconst (v := zi (1)) hx hb dX3_rim_41 rfl ?_
        refine lv_goto (tgt := 46) hx hb dX3_rim_42 (by decide) ?_
        refine lv_iconst (v := zi (0)) hx hb dX3_rim_46 rfl ?_
        refine wrV (As := [.int (zi (1)), .int (zi (1)), .int (zi (0))]) (rest := []) (n := 3) (ws' := [(m0, .inr (3, [.int (zi (1)), .int (zi ((mp : Int))), .ref a1, .ref a2, .ref a3, .ref a4, .ref a5, .ref a6, .int (zi ((mb : Int))), .ref a7, .ref a8, .int (zi ((ml : Int))), .ref a9, .ref a10, .int (zi ((mz : Int))), .ref a11, .long (zl (ab)), .long (zl (be))]))]) hx hb hml hown hg (c_throwing l dC dI H.size m0 a1 a2 a3 a4 a5 a6 a7 a8 a9 a10 a11 (tw) (ab) (be) mp mb ml mz 1 1 0 (by decide) (by decide) (by decide)) (gwV wl_X3_59 wm_X3_throwing we_X3_throwing wi_X3 wc_X3_throwing) rfl rfl (by decide +kernel) ⟨Nat.le_of_ble_eq_true rfl, Nat.le_of_ble_eq_true rfl⟩ (hK.sub [] rfl) hP hD hS hA [0] rfl (by decide) [(true, 0)] rfl (by decide) rfl 0 rfl rfl rfl rfl hl.1 rfl (Nat.le_of_ble_eq_true rfl) dX3_rim_47 ⟨Nat.zero_le _, Nat.zero_le _⟩ (fun H locs hP hD hS => ?_)
        refine zz_topi (z := 1) (congrArg zi (by decide)) ?_
        refine zz_if_eq (tgt := 55) hx hb (by omega) dX3_rim_50 (by decide) (fun c_50 => ?_) (fun c_50 => ?_)
        · exact absurd c_50 (by decide)
        · refine lv_iconst (v := zi (0)) hx hb dX3_rim_53 rfl ?_
          have hP9 : va_P (dC, dI) vwCl [(m0, .inr (3, [.int (zi (1)), .int (zi ((mp : Int))), .ref a1, .ref a2, .ref a3, .ref a4, .ref a5, .ref a6, .int (zi ((mb : Int))), .ref a7, .ref a8, .int (zi ((ml : Int))), .ref a9, .ref a10, .int (zi ((mz : Int))), .ref a11, .long (zl (ab)), .long (zl (be))]))] H := hP
          rw [hQQ]
          exact wr_i hx hb hr hlocks rfl hP9 hS dX3_rim_54

set_option maxHeartbeats 4000000 in
set_option maxRecDepth 100000 in
theorem e_rim_2 (l : Launch) (dC : Nat → ClassId) (dI : Nat → Nat → Nat) (sz : Nat) (m0 a1 a2 a3 a4 a5 a6 a7 a8 a9 a10 a11 : Nat) (tw ab be : Int) (mp mb ml mz : Nat) (u v : Int) (hmp : mp ≤ 6) (h_u : -2147483648 ≤ u ∧ u < 2147483648) (h_v : -2147483648 ≤ v ∧ v < 2147483648) (hok : -200 ≤ u ∧ u ≤ 200 ∧ -200 ≤ v ∧ v ≤ 200) (hbad : ml = 20) : Met l yX3_rim (Cond.code yX3_rim cX3_rim 3 ((Option.some Jvm.ClassFile.FieldType.int)) :: gw) rm_X3_rim (PcW [.ref m0, .int (zi (u)), .int (zi (v))] (dC, dI) vwCl [(m0, .inr (3, [.int (zi (tw)), .int (zi ((mp : Int))), .ref a1, .ref a2, .ref a3, .ref a4, .ref a5, .ref a6, .int (zi ((mb : Int))), .ref a7, .ref a8, .int (zi ((ml : Int))), .ref a9, .ref a10, .int (zi ((mz : Int))), .ref a11, .long (zl (ab)), .long (zl (be))]))] [] sz) (WrQ (some (.int (zi 0))) (dC, dI) vwCl [(m0, .inr (3, [.int (zi (2)), .int (zi ((mp : Int))), .ref a1, .ref a2, .ref a3, .ref a4, .ref a5, .ref a6, .int (zi ((mb : Int))), .ref a7, .ref a8, .int (zi ((ml : Int))), .ref a9, .ref a10, .int (zi ((mz : Int))), .ref a11, .long (zl (ab)), .long (zl (be))]))] (va_A [(m0, .inr (3, [.int (zi (tw)), .int (zi ((mp : Int))), .ref a1, .ref a2, .ref a3, .ref a4, .ref a5, .ref a6, .int (zi ((mb : Int))), .ref a7, .ref a8, .int (zi ((ml : Int))), .ref a9, .ref a10, .int (zi ((mz : Int))), .ref a11, .long (zl (ab)), .long (zl (be))]))] sz)) 0 0 (va_A [(m0, .inr (3, [.int (zi (tw)), .int (zi ((mp : Int))), .ref a1, .ref a2, .ref a3, .ref a4, .ref a5, .ref a6, .int (zi ((mb : Int))), .ref a7, .ref a8, .int (zi ((ml : Int))), .ref a9, .ref a10, .int (zi ((mz : Int))), .ref a11, .long (zl (ab)), .long (zl (be))]))] sz) := by
  refine Met.ofW (cc := cX3_rim) (maxL := 3) (ret := ((Option.some Jvm.ClassFile.FieldType.int))) (by decide) rfl ?_
  intro p e s m args below meth c s₁ B hml hv
  obtain ⟨hargs, hsz, hP, hK, hD0⟩ := hv
  have hx := B.exec
  have hb := B.bytes
  have hr := B.returns
  have hts := atoms_spec (ws := Cond.code yX3_rim cX3_rim 3 ((Option.some Jvm.ClassFile.FieldType.int)) :: gw) B.pre
  have hg : ∀ w ∈ gw, w.before args s = true := fun w h => hts w (List.mem_cons_of_mem _ h)
  have hown : s.vm.findClass RX3 = some m.cls := findClass_of_methodNamed B.named
  have hlocks := B.notSynchronized
  subst hsz
  have hD := hD0.self (sz := s.heap.size)
  generalize hAe : va_A [(m0, .inr (3, [.int (zi (tw)), .int (zi ((mp : Int))), .ref a1, .ref a2, .ref a3, .ref a4, .ref a5, .ref a6, .int (zi ((mb : Int))), .ref a7, .ref a8, .int (zi ((ml : Int))), .ref a9, .ref a10, .int (zi ((mz : Int))), .ref a11, .long (zl (ab)), .long (zl (be))]))] s.heap.size = A at hD ⊢
  have hA : ∀ q : Nat, s.heap.size ≤ q → A q := fun q h => by rw [← hAe]; exact Or.inr h
  show W p l e rm_X3_rim s m args below meth c s.heap [] 0 0 _ _
  have hl := lv_entry ([.ref m0, .int (zi (u)), .int (zi (v))]) (n := 3) (Nat.le_of_ble_eq_true rfl)
  rw [show entryFrame m args 3 = entryFrame m ([.ref m0, .int (zi (u)), .int (zi (v))] : List Value).toArray 3 by rw [hargs], lg_entry_eq]
  generalize (lg_sl ([.ref m0, .int (zi (u)), .int (zi (v))]) ++ List.replicate (3 - (lg_sl ([.ref m0, .int (zi (u)), .int (zi (v))])).length) Slot.unset).toArray = ls at hl ⊢
  have hl : lv_has ls 3 [(0, .ref m0), (1, .int (zi (u))), (2, .int (zi (v)))] := hl
  obtain ⟨QQ, hQQ⟩ : ∃ Q, Q = MQ below (WrQ (some (.int (zi 0))) (dC, dI) vwCl [(m0, .inr (3, [.int (zi (2)), .int (zi ((mp : Int))), .ref a1, .ref a2, .ref a3, .ref a4, .ref a5, .ref a6, .int (zi ((mb : Int))), .ref a7, .ref a8, .int (zi ((ml : Int))), .ref a9, .ref a10, .int (zi ((mz : Int))), .ref a11, .long (zl (ab)), .long (zl (be))]))] A) args s 0 0 A := ⟨_, rfl⟩
  rw [← hQQ]
  obtain ⟨H, hHe⟩ : ∃ H : Heap, H = s.heap := ⟨_, rfl⟩
  obtain ⟨locs, hlc⟩ : ∃ x : List Loc, x = [] := ⟨_, rfl⟩
  have hS : va_S A s.heap H locs := by rw [hHe, hlc]; exact va_S.rf
  have hP : va_P (dC, dI) vwCl [(m0, .inr (3, [.int (zi (tw)), .int (zi ((mp : Int))), .ref a1, .ref a2, .ref a3, .ref a4, .ref a5, .ref a6, .int (zi ((mb : Int))), .ref a7, .ref a8, .int (zi ((ml : Int))), .ref a9, .ref a10, .int (zi ((mz : Int))), .ref a11, .long (zl (ab)), .long (zl (be))]))] H := by rw [hHe]; exact hP
  have hD : va_D A [(m0, .inr (3, [.int (zi (tw)), .int (zi ((mp : Int))), .ref a1, .ref a2, .ref a3, .ref a4, .ref a5, .ref a6, .int (zi ((mb : Int))), .ref a7, .ref a8, .int (zi ((ml : Int))), .ref a9, .ref a10, .int (zi ((mz : Int))), .ref a11, .long (zl (ab)), .long (zl (be))]))] := hD
  rw [← hHe, ← hlc]
  refine lv_aload_n hx hb dX3_rim_0 rfl (lv_at hl 0 rfl) ?_
  refine lv_iload_n hx hb dX3_rim_1 rfl (lv_at hl 1 rfl) ?_
  refine lv_sipush (v := zi (-200)) hx hb dX3_rim_2 (by decide) ?_
  refine lv_sipush (v := zi (200)) hx hb dX3_rim_5 (by decide) ?_
  refine rdS (As := [.int (zi (u)), .int (zi (-200)), .int (zi (200))]) (rest := [.ref m0]) (n := 3) hx hb hml hown hg (c_X3_in l (u) (-200) (200) (by omega) (by omega) (by omega)) (gwS wl_X3_55 wt_X3_in wi_X3 wc_X3_in) rfl rfl (by decide +kernel) ⟨Nat.le_of_ble_eq_true rfl, Nat.le_of_ble_eq_true rfl⟩ rfl hl.1 rfl (Nat.le_of_ble_eq_true rfl) dX3_rim_8 ⟨Nat.zero_le _, Nat.zero_le _⟩ ?_
  refine zz_topi (z := 1) (congrArg zi (zb_t (decide_eq_true (by omega)))) ?_
  refine zz_if_eq (tgt := 27) hx hb (by omega) dX3_rim_11 (by decide) (fun c_11 => ?_) (fun c_11 => ?_)
  · exact absurd c_11 (by decide)
  · refine lv_iload_n hx hb dX3_rim_14 rfl (lv_at hl 2 rfl) ?_
    refine lv_sipush (v := zi (-200)) hx hb dX3_rim_15 (by decide) ?_
    refine lv_sipush (v := zi (200)) hx hb dX3_rim_18 (by decide) ?_
    refine rdS (As := [.int (zi (v)), .int (zi (-200)), .int (zi (200))]) (rest := [.ref m0]) (n := 3) hx hb hml hown hg (c_X3_in l (v) (-200) (200) (by omega) (by omega) (by omega)) (gwS wl_X3_55 wt_X3_in wi_X3 wc_X3_in) rfl rfl (by decide +kernel) ⟨Nat.le_of_ble_eq_true rfl, Nat.le_of_ble_eq_true rfl⟩ rfl hl.1 rfl (Nat.le_of_ble_eq_true rfl) dX3_rim_21 ⟨Nat.zero_le _, Nat.zero_le _⟩ ?_
    refine zz_topi (z := 1) (congrArg zi (zb_t (decide_eq_true (by omega)))) ?_
    refine zz_if_ne (tgt := 31) hx hb (by omega) dX3_rim_24 (by decide) (fun c_24 => ?_) (fun c_24 => ?_)
    · refine lv_iconst (v := zi (0)) hx hb dX3_rim_31 rfl ?_
      refine lv_aload_n hx hb dX3_rim_32 rfl (lv_at hl 0 rfl) ?_
      refine va_get (D := (dC, dI)) (ci := 3) (v := .int (zi ((ml : Int)))) (C := RX3) (T := TX3) (N := 18) hx hb hg inX3 hown hK hP 0 rfl rfl 11 (by decide) (hg _ wl_X3_139) (fun _ h9 => h9) rfl dX3_rim_33 ?_
      refine lv_bipush (v := zi (20)) hx hb dX3_rim_36 (by decide) ?_
      refine zz_icmp_ne (tgt := 45) hx hb (by omega) (by omega) dX3_rim_38 (by decide) (fun c_38 => ?_) (fun c_38 => ?_)
      · exact False.elim (by omega)
      · refine lv_iconst (v := zi (1)) hx hb dX3_rim_41 rfl ?_
        refine lv_goto (tgt := 46) hx hb dX3_rim_42 (by decide) ?_
        refine lv_iconst (v := zi (0)) hx hb dX3_rim_46 rfl ?_
        refine wrV (As := [.int (zi (0)), .int (zi (1)), .int (zi (0))]) (rest := []) (n := 3) (ws' := [(m0, .inr (3, [.int (zi (2)), .int (zi ((mp : Int))), .ref a1, .ref a2, .ref a3, .ref a4, .ref a5, .ref a6, .int (zi ((mb : Int))), .ref a7, .ref a8, .int (zi ((ml : Int))), .ref a9, .ref a10, .int (zi ((mz : Int))), .ref a11, .long (zl (ab)), .long (zl (be))]))]) hx hb hml hown hg (c_throwing l dC dI H.size m0 a1 a2 a3 a4 a5 a6 a7 a8 a9 a10 a11 (tw) (ab) (be) mp mb ml mz 0 1 0 (by decide) (by decide) (by decide)) (gwV wl_X3_59 wm_X3_throwing we_X3_throwing wi_X3 wc_X3_throwing) rfl rfl (by decide +kernel) ⟨Nat.le_of_ble_eq_true rfl, Nat.le_of_ble_eq_true rfl⟩ (hK.sub [] rfl) hP hD hS hA [0] rfl (by decide) [(true, 0)] rfl (by decide) rfl 0 rfl rfl rfl rfl hl.1 rfl (Nat.le_of_ble_eq_true rfl) dX3_rim_47 ⟨Nat.zero_le _, Nat.zero_le _⟩ (fun H locs hP hD hS => ?_)
        refine zz_topi (z := 1) (congrArg zi (by decide)) ?_
        refine zz_if_eq (tgt := 55) hx hb (by omega) dX3_rim_50 (by decide) (fun c_50 => ?_) (fun c_50 => ?_)
        · exact absurd c_50 (by decide)
        · refine lv_iconst (v := zi (0)) hx hb dX3_rim_53 rfl ?_
          have hP9 : va_P (dC, dI) vwCl [(m0, .inr (3, [.int (zi (2)), .int (zi ((mp : Int))), .ref a1, .ref a2, .ref a3, .ref a4, .ref a5, .ref a6, .int (zi ((mb : Int))), .ref a7, .ref a8, .int (zi ((ml : Int))), .ref a9, .ref a10, .int (zi ((mz : Int))), .ref a11, .long (zl (ab)), .long (zl (be))]))] H := hP
          rw [hQQ]
          exact wr_i hx hb hr hlocks rfl hP9 hS dX3_rim_54
    · exact absurd c_24 (by decide)

set_option maxHeartbeats 4000000 in
set_option maxRecDepth 100000 in
theorem k_rim (l : Launch) (dC : Nat → ClassId) (dI : Nat → Nat → Nat) (sz : Nat) (m0 a1 a2 a3 a4 a5 a6 a7 a8 a9 a10 a11 : Nat) (tw ab be : Int) (mp mb ml mz : Nat) (cA : ClassId) (xs ys : Nat → Int) (u v : Int) (hok : -200 ≤ u ∧ u ≤ 200 ∧ -200 ≤ v ∧ v ≤ 200) (hl9 : ml < 20) : Met l yX3_rim (Cond.code yX3_rim cX3_rim 3 ((Option.some Jvm.ClassFile.FieldType.int)) :: gw) rm_X3_rim (PcW [.ref m0, .int (zi (u)), .int (zi (v))] (dC, dI) vwCl [(m0, .inr (3, [.int (zi (tw)), .int (zi ((mp : Int))), .ref a1, .ref a2, .ref a3, .ref a4, .ref a5, .ref a6, .int (zi ((mb : Int))), .ref a7, .ref a8, .int (zi ((ml : Int))), .ref a9, .ref a10, .int (zi ((mz : Int))), .ref a11, .long (zl (ab)), .long (zl (be))])), (a7, .inl (cA, 20, .inl (zA (xs)))), (a8, .inl (cA, 20, .inl (zA (ys))))] [(cA, .int)] sz) (WrQ (some (.int (zi ((ml + 1 : Nat) : Int)))) (dC, dI) vwCl [(m0, .inr (3, [.int (zi (0)), .int (zi ((mp : Int))), .ref a1, .ref a2, .ref a3, .ref a4, .ref a5, .ref a6, .int (zi ((mb : Int))), .ref a7, .ref a8, .int (zi (((ml + 1 : Nat) : Int))), .ref a9, .ref a10, .int (zi ((mz : Int))), .ref a11, .long (zl (ab)), .long (zl (be))])), (a7, .inl (cA, 20, .inl (zA (zupd xs (ml) (u))))), (a8, .inl (cA, 20, .inl (zA (zupd ys (ml) (v)))))] (va_A [(m0, .inr (3, [.int (zi (tw)), .int (zi ((mp : Int))), .ref a1, .ref a2, .ref a3, .ref a4, .ref a5, .ref a6, .int (zi ((mb : Int))), .ref a7, .ref a8, .int (zi ((ml : Int))), .ref a9, .ref a10, .int (zi ((mz : Int))), .ref a11, .long (zl (ab)), .long (zl (be))])), (a7, .inl (cA, 20, .inl (zA (xs)))), (a8, .inl (cA, 20, .inl (zA (ys))))] sz)) 0 0 (va_A [(m0, .inr (3, [.int (zi (tw)), .int (zi ((mp : Int))), .ref a1, .ref a2, .ref a3, .ref a4, .ref a5, .ref a6, .int (zi ((mb : Int))), .ref a7, .ref a8, .int (zi ((ml : Int))), .ref a9, .ref a10, .int (zi ((mz : Int))), .ref a11, .long (zl (ab)), .long (zl (be))])), (a7, .inl (cA, 20, .inl (zA (xs)))), (a8, .inl (cA, 20, .inl (zA (ys))))] sz) := by
  refine Met.ofW (cc := cX3_rim) (maxL := 3) (ret := ((Option.some Jvm.ClassFile.FieldType.int))) (by decide) rfl ?_
  intro p e s m args below meth c s₁ B hml hv
  obtain ⟨hargs, hsz, hP, hK, hD0⟩ := hv
  have hx := B.exec
  have hb := B.bytes
  have hr := B.returns
  have hts := atoms_spec (ws := Cond.code yX3_rim cX3_rim 3 ((Option.some Jvm.ClassFile.FieldType.int)) :: gw) B.pre
  have hg : ∀ w ∈ gw, w.before args s = true := fun w h => hts w (List.mem_cons_of_mem _ h)
  have hown : s.vm.findClass RX3 = some m.cls := findClass_of_methodNamed B.named
  have hlocks := B.notSynchronized
  subst hsz
  have hD := hD0.self (sz := s.heap.size)
  generalize hAe : va_A [(m0, .inr (3, [.int (zi (tw)), .int (zi ((mp : Int))), .ref a1, .ref a2, .ref a3, .ref a4, .ref a5, .ref a6, .int (zi ((mb : Int))), .ref a7, .ref a8, .int (zi ((ml : Int))), .ref a9, .ref a10, .int (zi ((mz : Int))), .ref a11, .long (zl (ab)), .long (zl (be))])), (a7, .inl (cA, 20, .inl (zA (xs)))), (a8, .inl (cA, 20, .inl (zA (ys))))] s.heap.size = A at hD ⊢
  have hA : ∀ q : Nat, s.heap.size ≤ q → A q := fun q h => by rw [← hAe]; exact Or.inr h
  show W p l e rm_X3_rim s m args below meth c s.heap [] 0 0 _ _
  have hl := lv_entry ([.ref m0, .int (zi (u)), .int (zi (v))]) (n := 3) (Nat.le_of_ble_eq_true rfl)
  rw [show entryFrame m args 3 = entryFrame m ([.ref m0, .int (zi (u)), .int (zi (v))] : List Value).toArray 3 by rw [hargs], lg_entry_eq]
  generalize (lg_sl ([.ref m0, .int (zi (u)), .int (zi (v))]) ++ List.replicate (3 - (lg_sl ([.ref m0, .int (zi (u)), .int (zi (v))])).length) Slot.unset).toArray = ls at hl ⊢
  have hl : lv_has ls 3 [(0, .ref m0), (1, .int (zi (u))), (2, .int (zi (v)))] := hl
  obtain ⟨QQ, hQQ⟩ : ∃ Q, Q = MQ below (WrQ (some (.int (zi ((ml + 1 : Nat) : Int)))) (dC, dI) vwCl [(m0, .inr (3, [.int (zi (0)), .int (zi ((mp : Int))), .ref a1, .ref a2, .ref a3, .ref a4, .ref a5, .ref a6, .int (zi ((mb : Int))), .ref a7, .ref a8, .int (zi (((ml + 1 : Nat) : Int))), .ref a9, .ref a10, .int (zi ((mz : Int))), .ref a11, .long (zl (ab)), .long (zl (be))])), (a7, .inl (cA, 20, .inl (zA (zupd xs (ml) (u))))), (a8, .inl (cA, 20, .inl (zA (zupd ys (ml) (v)))))] A) args s 0 0 A := ⟨_, rfl⟩
  rw [← hQQ]
  obtain ⟨H, hHe⟩ : ∃ H : Heap, H = s.heap := ⟨_, rfl⟩
  obtain ⟨locs, hlc⟩ : ∃ x : List Loc, x = [] := ⟨_, rfl⟩
  have hS : va_S A s.heap H locs := by rw [hHe, hlc]; exact va_S.rf
  have hP : va_P (dC, dI) vwCl [(m0, .inr (3, [.int (zi (tw)), .int (zi ((mp : Int))), .ref a1, .ref a2, .ref a3, .ref a4, .ref a5, .ref a6, .int (zi ((mb : Int))), .ref a7, .ref a8, .int (zi ((ml : Int))), .ref a9, .ref a10, .int (zi ((mz : Int))), .ref a11, .long (zl (ab)), .long (zl (be))])), (a7, .inl (cA, 20, .inl (zA (xs)))), (a8, .inl (cA, 20, .inl (zA (ys))))] H := by rw [hHe]; exact hP
  have hD : va_D A [(m0, .inr (3, [.int (zi (tw)), .int (zi ((mp : Int))), .ref a1, .ref a2, .ref a3, .ref a4, .ref a5, .ref a6, .int (zi ((mb : Int))), .ref a7, .ref a8, .int (zi ((ml : Int))), .ref a9, .ref a10, .int (zi ((mz : Int))), .ref a11, .long (zl (ab)), .long (zl (be))])), (a7, .inl (cA, 20, .inl (zA (xs)))), (a8, .inl (cA, 20, .inl (zA (ys))))] := hD
  rw [← hHe, ← hlc]
  refine lv_aload_n hx hb dX3_rim_0 rfl (lv_at hl 0 rfl) ?_
  refine lv_iload_n hx hb dX3_rim_1 rfl (lv_at hl 1 rfl) ?_
  refine lv_sipush (v := zi (-200)) hx hb dX3_rim_2 (by decide) ?_
  refine lv_sipush (v := zi (200)) hx hb dX3_rim_5 (by decide) ?_
  refine rdS (As := [.int (zi (u)), .int (zi (-200)), .int (zi (200))]) (rest := [.ref m0]) (n := 3) hx hb hml hown hg (c_X3_in l (u) (-200) (200) (by omega) (by omega) (by omega)) (gwS wl_X3_55 wt_X3_in wi_X3 wc_X3_in) rfl rfl (by decide +kernel) ⟨Nat.le_of_ble_eq_true rfl, Nat.le_of_ble_eq_true rfl⟩ rfl hl.1 rfl (Nat.le_of_ble_eq_true rfl) dX3_rim_8 ⟨Nat.zero_le _, Nat.zero_le _⟩ ?_
  refine zz_topi (z := 1) (congrArg zi (zb_t (decide_eq_true (by omega)))) ?_
  refine zz_if_eq (tgt := 27) hx hb (by omega) dX3_rim_11 (by decide) (fun c_11 => ?_) (fun c_11 => ?_)
  · exact absurd c_11 (by decide)
  · refine lv_iload_n hx hb dX3_rim_14 rfl (lv_at hl 2 rfl) ?_
    refine lv_sipush (v := zi (-200)) hx hb dX3_rim_15 (by decide) ?_
    refine lv_sipush (v := zi (200)) hx hb dX3_rim_18 (by decide) ?_
    refine rdS (As := [.int (zi (v)), .int (zi (-200)), .int (zi (200))]) (rest := [.ref m0]) (n := 3) hx hb hml hown hg (c_X3_in l (v) (-200) (200) (by omega) (by omega) (by omega)) (gwS wl_X3_55 wt_X3_in wi_X3 wc_X3_in) rfl rfl (by decide +kernel) ⟨Nat.le_of_ble_eq_true rfl, Nat.le_of_ble_eq_true rfl⟩ rfl hl.1 rfl (Nat.le_of_ble_eq_true rfl) dX3_rim_21 ⟨Nat.zero_le _, Nat.zero_le _⟩ ?_
    refine zz_topi (z := 1) (congrArg zi (zb_t (decide_eq_true (by omega)))) ?_
    refine zz_if_ne (tgt := 31) hx hb (by omega) dX3_rim_24 (by decide) (fun c_24 => ?_) (fun c_24 => ?_)
    · refine lv_iconst (v := zi (0)) hx hb dX3_rim_31 rfl ?_
      refine lv_aload_n hx hb dX3_rim_32 rfl (lv_at hl 0 rfl) ?_
      refine va_get (D := (dC, dI)) (ci := 3) (v := .int (zi ((ml : Int)))) (C := RX3) (T := TX3) (N := 18) hx hb hg inX3 hown hK hP 0 rfl rfl 11 (by decide) (hg _ wl_X3_139) (fun _ h9 => h9) rfl dX3_rim_33 ?_
      refine lv_bipush (v := zi (20)) hx hb dX3_rim_36 (by decide) ?_
      refine zz_icmp_ne (tgt := 45) hx hb (by omega) (by omega) dX3_rim_38 (by decide) (fun c_38 => ?_) (fun c_38 => ?_)
      · refine lv_iconst (v := zi (0)) hx hb dX3_rim_45 rfl ?_
        refine lv_iconst (v := zi (0)) hx hb dX3_rim_46 rfl ?_
        refine wrV (As := [.int (zi (0)), .int (zi (0)), .int (zi (0))]) (rest := []) (n := 3) (ws' := [(m0, .inr (3, [.int (zi (0)), .int (zi ((mp : Int))), .ref a1, .ref a2, .ref a3, .ref a4, .ref a5, .ref a6, .int (zi ((mb : Int))), .ref a7, .ref a8, .int (zi ((ml : Int))), .ref a9, .ref a10, .int (zi ((mz : Int))), .ref a11, .long (zl (ab)), .long (zl (be))])), (a7, .inl (cA, 20, .inl (zA (xs)))), (a8, .inl (cA, 20, .inl (zA (ys))))]) hx hb hml hown hg (c_throwing l dC dI H.size m0 a1 a2 a3 a4 a5 a6 a7 a8 a9 a10 a11 (tw) (ab) (be) mp mb ml mz 0 0 0 (by decide) (by decide) (by decide)) (gwV wl_X3_59 wm_X3_throwing we_X3_throwing wi_X3 wc_X3_throwing) rfl rfl (by decide +kernel) ⟨Nat.le_of_ble_eq_true rfl, Nat.le_of_ble_eq_true rfl⟩ (hK.sub [] rfl) hP hD hS hA [0] rfl (by decide) [(true, 0), (false, 1), (false, 2)] rfl (by decide) rfl 0 rfl rfl rfl rfl hl.1 rfl (Nat.le_of_ble_eq_true rfl) dX3_rim_47 ⟨Nat.zero_le _, Nat.zero_le _⟩ (fun H locs hP hD hS => ?_)
        refine zz_topi (z := 0) (congrArg zi (by decide)) ?_
        refine zz_if_eq (tgt := 55) hx hb (by omega) dX3_rim_50 (by decide) (fun c_50 => ?_) (fun c_50 => ?_)
        · refine lv_aload_n hx hb dX3_rim_55 rfl (lv_at hl 0 rfl) ?_
          refine va_get (D := (dC, dI)) (ci := 3) (v := .ref a7) (C := RX3) (T := TX3) (N := 18) hx hb hg inX3 hown hK hP 0 rfl rfl 9 (by decide) (hg _ wl_X3_29) (fun _ h9 => h9) rfl dX3_rim_56 ?_
          refine lv_aload_n hx hb dX3_rim_59 rfl (lv_at hl 0 rfl) ?_
          refine va_get (D := (dC, dI)) (ci := 3) (v := .int (zi ((ml : Int)))) (C := RX3) (T := TX3) (N := 18) hx hb hg inX3 hown hK hP 0 rfl rfl 11 (by decide) (hg _ wl_X3_139) (fun _ h9 => h9) rfl dX3_rim_60 ?_
          refine lv_iload_n hx hb dX3_rim_63 rfl (lv_at hl 1 rfl) ?_
          refine zz_iast hx hb hK hP hD hS 1 0 rfl rfl (ml) (by omega) (by omega) (by decide) dX3_rim_64 (fun H locs hP hD hS => ?_)
          have hP : va_P (dC, dI) vwCl [(m0, .inr (3, [.int (zi (0)), .int (zi ((mp : Int))), .ref a1, .ref a2, .ref a3, .ref a4, .ref a5, .ref a6, .int (zi ((mb : Int))), .ref a7, .ref a8, .int (zi ((ml : Int))), .ref a9, .ref a10, .int (zi ((mz : Int))), .ref a11, .long (zl (ab)), .long (zl (be))])), (a7, .inl (cA, 20, .inl (zA (zupd xs (ml) (u))))), (a8, .inl (cA, 20, .inl (zA (ys))))] H := hP
          have hD : va_D A [(m0, .inr (3, [.int (zi (0)), .int (zi ((mp : Int))), .ref a1, .ref a2, .ref a3, .ref a4, .ref a5, .ref a6, .int (zi ((mb : Int))), .ref a7, .ref a8, .int (zi ((ml : Int))), .ref a9, .ref a10, .int (zi ((mz : Int))), .ref a11, .long (zl (ab)), .long (zl (be))])), (a7, .inl (cA, 20, .inl (zA (zupd xs (ml) (u))))), (a8, .inl (cA, 20, .inl (zA (ys))))] := hD
          refine lv_aload_n hx hb dX3_rim_65 rfl (lv_at hl 0 rfl) ?_
          refine va_get (D := (dC, dI)) (ci := 3) (v := .ref a8) (C := RX3) (T := TX3) (N := 18) hx hb hg inX3 hown hK hP 0 rfl rfl 10 (by decide) (hg _ wl_X3_32) (fun _ h9 => h9) rfl dX3_rim_66 ?_
          refine lv_aload_n hx hb dX3_rim_69 rfl (lv_at hl 0 rfl) ?_
          refine va_get (D := (dC, dI)) (ci := 3) (v := .int (zi ((ml : Int)))) (C := RX3) (T := TX3) (N := 18) hx hb hg inX3 hown hK hP 0 rfl rfl 11 (by decide) (hg _ wl_X3_139) (fun _ h9 => h9) rfl dX3_rim_70 ?_
          refine lv_iload_n hx hb dX3_rim_73 rfl (lv_at hl 2 rfl) ?_
          refine zz_iast hx hb hK hP hD hS 2 0 rfl rfl (ml) (by omega) (by omega) (by decide) dX3_rim_74 (fun H locs hP hD hS => ?_)
          have hP : va_P (dC, dI) vwCl [(m0, .inr (3, [.int (zi (0)), .int (zi ((mp : Int))), .ref a1, .ref a2, .ref a3, .ref a4, .ref a5, .ref a6, .int (zi ((mb : Int))), .ref a7, .ref a8, .int (zi ((ml : Int))), .ref a9, .ref a10, .int (zi ((mz : Int))), .ref a11, .long (zl (ab)), .long (zl (be))])), (a7, .inl (cA, 20, .inl (zA (zupd xs (ml) (u))))), (a8, .inl (cA, 20, .inl (zA (zupd ys (ml) (v)))))] H := hP
          have hD : va_D A [(m0, .inr (3, [.int (zi (0)), .int (zi ((mp : Int))), .ref a1, .ref a2, .ref a3, .ref a4, .ref a5, .ref a6, .int (zi ((mb : Int))), .ref a7, .ref a8, .int (zi ((ml : Int))), .ref a9, .ref a10, .int (zi ((mz : Int))), .ref a11, .long (zl (ab)), .long (zl (be))])), (a7, .inl (cA, 20, .inl (zA (zupd xs (ml) (u))))), (a8, .inl (cA, 20, .inl (zA (zupd ys (ml) (v)))))] := hD
          refine lv_aload_n hx hb dX3_rim_75 rfl (lv_at hl 0 rfl) ?_
          refine lv_dup hx hb dX3_rim_76 rfl ?_
          refine va_get (D := (dC, dI)) (ci := 3) (v := .int (zi ((ml : Int)))) (C := RX3) (T := TX3) (N := 18) hx hb hg inX3 hown hK hP 0 rfl rfl 11 (by decide) (hg _ wl_X3_139) (fun _ h9 => h9) rfl dX3_rim_77 ?_
          refine lv_iconst (v := zi (1)) hx hb dX3_rim_80 rfl ?_
          refine zz_iadd hx hb dX3_rim_81 ?_
          refine zz_topi (z := ((ml + 1 : Nat) : Int)) (congrArg zi (by push_cast; rfl)) ?_
          refine va_put (D := (dC, dI)) (ci := 3) (v := .int (zi (((ml + 1 : Nat) : Int)))) (ty := .int) (C := RX3) (T := TX3) (N := 18) hx hb hg inX3 tyX3 tyX3_ok nmX3 hown hK hP hD hS 0 rfl rfl 11 (by decide) (hg _ wl_X3_139) (fun _ h9 => h9) rfl (by decide +kernel) rfl rfl (Nat.le_of_ble_eq_true rfl) dX3_rim_82 (fun H locs hP hD hS => ?_)
          have hP : va_P (dC, dI) vwCl [(m0, .inr (3, [.int (zi (0)), .int (zi ((mp : Int))), .ref a1, .ref a2, .ref a3, .ref a4, .ref a5, .ref a6, .int (zi ((mb : Int))), .ref a7, .ref a8, .int (zi (((ml + 1 : Nat) : Int))), .ref a9, .ref a10, .int (zi ((mz : Int))), .ref a11, .long (zl (ab)), .long (zl (be))])), (a7, .inl (cA, 20, .inl (zA (zupd xs (ml) (u))))), (a8, .inl (cA, 20, .inl (zA (zupd ys (ml) (v)))))] H := hP
          have hD : va_D A [(m0, .inr (3, [.int (zi (0)), .int (zi ((mp : Int))), .ref a1, .ref a2, .ref a3, .ref a4, .ref a5, .ref a6, .int (zi ((mb : Int))), .ref a7, .ref a8, .int (zi (((ml + 1 : Nat) : Int))), .ref a9, .ref a10, .int (zi ((mz : Int))), .ref a11, .long (zl (ab)), .long (zl (be))])), (a7, .inl (cA, 20, .inl (zA (zupd xs (ml) (u))))), (a8, .inl (cA, 20, .inl (zA (zupd ys (ml) (v)))))] := hD
          refine lv_aload_n hx hb dX3_rim_85 rfl (lv_at hl 0 rfl) ?_
          refine va_get (D := (dC, dI)) (ci := 3) (v := .int (zi (((ml + 1 : Nat) : Int)))) (C := RX3) (T := TX3) (N := 18) hx hb hg inX3 hown hK hP 0 rfl rfl 11 (by decide) (hg _ wl_X3_139) (fun _ h9 => h9) rfl dX3_rim_86 ?_
          have hP9 : va_P (dC, dI) vwCl [(m0, .inr (3, [.int (zi (0)), .int (zi ((mp : Int))), .ref a1, .ref a2, .ref a3, .ref a4, .ref a5, .ref a6, .int (zi ((mb : Int))), .ref a7, .ref a8, .int (zi (((ml + 1 : Nat) : Int))), .ref a9, .ref a10, .int (zi ((mz : Int))), .ref a11, .long (zl (ab)), .long (zl (be))])), (a7, .inl (cA, 20, .inl (zA (zupd xs (ml) (u))))), (a8, .inl (cA, 20, .inl (zA (zupd ys (ml) (v)))))] H := hP
          rw [hQQ]
          exact wr_i hx hb hr hlocks rfl hP9 hS dX3_rim_89
        · exact absurd c_50 (by decide)
      · exact False.elim (by omega)
    · exact absurd c_24 (by decide)

abbrev rm_X3_clear : Room := { frames := 0, cells := 0, slots := 0, locals := 0 }
set_option maxHeartbeats 4000000 in
set_option maxRecDepth 100000 in
theorem k_clear (l : Launch) (dC : Nat → ClassId) (dI : Nat → Nat → Nat) (sz : Nat) (m0 a1 a2 a3 a4 a5 a6 a7 a8 a9 a10 a11 : Nat) (tw ab be : Int) (mp mb ml mz : Nat)  : Met l yX3_clear (Cond.code yX3_clear cX3_clear 2 ((Option.some Jvm.ClassFile.FieldType.int)) :: gw) rm_X3_clear (PcW [.ref m0] (dC, dI) vwCl [(m0, .inr (3, [.int (zi (tw)), .int (zi ((mp : Int))), .ref a1, .ref a2, .ref a3, .ref a4, .ref a5, .ref a6, .int (zi ((mb : Int))), .ref a7, .ref a8, .int (zi ((ml : Int))), .ref a9, .ref a10, .int (zi ((mz : Int))), .ref a11, .long (zl (ab)), .long (zl (be))]))] [] sz) (WrQ (some (.int (zi (ml : Int)))) (dC, dI) vwCl [(m0, .inr (3, [.int (zi (0)), .int (zi ((mp : Int))), .ref a1, .ref a2, .ref a3, .ref a4, .ref a5, .ref a6, .int (zi ((mb : Int))), .ref a7, .ref a8, .int (zi (((0 : Nat) : Int))), .ref a9, .ref a10, .int (zi ((mz : Int))), .ref a11, .long (zl (ab)), .long (zl (be))]))] (va_A [(m0, .inr (3, [.int (zi (tw)), .int (zi ((mp : Int))), .ref a1, .ref a2, .ref a3, .ref a4, .ref a5, .ref a6, .int (zi ((mb : Int))), .ref a7, .ref a8, .int (zi ((ml : Int))), .ref a9, .ref a10, .int (zi ((mz : Int))), .ref a11, .long (zl (ab)), .long (zl (be))]))] sz)) 0 0 (va_A [(m0, .inr (3, [.int (zi (tw)), .int (zi ((mp : Int))), .ref a1, .ref a2, .ref a3, .ref a4, .ref a5, .ref a6, .int (zi ((mb : Int))), .ref a7, .ref a8, .int (zi ((ml : Int))), .ref a9, .ref a10, .int (zi ((mz : Int))), .ref a11, .long (zl (ab)), .long (zl (be))]))] sz) := by
  refine Met.ofW (cc := cX3_clear) (maxL := 2) (ret := ((Option.some Jvm.ClassFile.FieldType.int))) (by decide) rfl ?_
  intro p e s m args below meth c s₁ B hml hv
  obtain ⟨hargs, hsz, hP, hK, hD0⟩ := hv
  have hx := B.exec
  have hb := B.bytes
  have hr := B.returns
  have hts := atoms_spec (ws := Cond.code yX3_clear cX3_clear 2 ((Option.some Jvm.ClassFile.FieldType.int)) :: gw) B.pre
  have hg : ∀ w ∈ gw, w.before args s = true := fun w h => hts w (List.mem_cons_of_mem _ h)
  have hown : s.vm.findClass RX3 = some m.cls := findClass_of_methodNamed B.named
  have hlocks := B.notSynchronized
  subst hsz
  have hD := hD0.self (sz := s.heap.size)
  generalize hAe : va_A [(m0, .inr (3, [.int (zi (tw)), .int (zi ((mp : Int))), .ref a1, .ref a2, .ref a3, .ref a4, .ref a5, .ref a6, .int (zi ((mb : Int))), .ref a7, .ref a8, .int (zi ((ml : Int))), .ref a9, .ref a10, .int (zi ((mz : Int))), .ref a11, .long (zl (ab)), .long (zl (be))]))] s.heap.size = A at hD ⊢
  have hA : ∀ q : Nat, s.heap.size ≤ q → A q := fun q h => by rw [← hAe]; exact Or.inr h
  show W p l e rm_X3_clear s m args below meth c s.heap [] 0 0 _ _
  have hl := lv_entry ([.ref m0]) (n := 2) (Nat.le_of_ble_eq_true rfl)
  rw [show entryFrame m args 2 = entryFrame m ([.ref m0] : List Value).toArray 2 by rw [hargs], lg_entry_eq]
  generalize (lg_sl ([.ref m0]) ++ List.replicate (2 - (lg_sl ([.ref m0])).length) Slot.unset).toArray = ls at hl ⊢
  have hl : lv_has ls 2 [(0, .ref m0)] := hl
  obtain ⟨QQ, hQQ⟩ : ∃ Q, Q = MQ below (WrQ (some (.int (zi (ml : Int)))) (dC, dI) vwCl [(m0, .inr (3, [.int (zi (0)), .int (zi ((mp : Int))), .ref a1, .ref a2, .ref a3, .ref a4, .ref a5, .ref a6, .int (zi ((mb : Int))), .ref a7, .ref a8, .int (zi (((0 : Nat) : Int))), .ref a9, .ref a10, .int (zi ((mz : Int))), .ref a11, .long (zl (ab)), .long (zl (be))]))] A) args s 0 0 A := ⟨_, rfl⟩
  rw [← hQQ]
  obtain ⟨H, hHe⟩ : ∃ H : Heap, H = s.heap := ⟨_, rfl⟩
  obtain ⟨locs, hlc⟩ : ∃ x : List Loc, x = [] := ⟨_, rfl⟩
  have hS : va_S A s.heap H locs := by rw [hHe, hlc]; exact va_S.rf
  have hP : va_P (dC, dI) vwCl [(m0, .inr (3, [.int (zi (tw)), .int (zi ((mp : Int))), .ref a1, .ref a2, .ref a3, .ref a4, .ref a5, .ref a6, .int (zi ((mb : Int))), .ref a7, .ref a8, .int (zi ((ml : Int))), .ref a9, .ref a10, .int (zi ((mz : Int))), .ref a11, .long (zl (ab)), .long (zl (be))]))] H := by rw [hHe]; exact hP
  have hD : va_D A [(m0, .inr (3, [.int (zi (tw)), .int (zi ((mp : Int))), .ref a1, .ref a2, .ref a3, .ref a4, .ref a5, .ref a6, .int (zi ((mb : Int))), .ref a7, .ref a8, .int (zi ((ml : Int))), .ref a9, .ref a10, .int (zi ((mz : Int))), .ref a11, .long (zl (ab)), .long (zl (be))]))] := hD
  rw [← hHe, ← hlc]
  refine lv_aload_n hx hb dX3_clear_0 rfl (lv_at hl 0 rfl) ?_
  refine lv_iconst (v := zi (0)) hx hb dX3_clear_1 rfl ?_
  refine va_put (D := (dC, dI)) (ci := 3) (v := .int (zi (0))) (ty := .int) (C := RX3) (T := TX3) (N := 18) hx hb hg inX3 tyX3 tyX3_ok nmX3 hown hK hP hD hS 0 rfl rfl 0 (by decide) (hg _ wl_X3_48) (fun _ h9 => h9) rfl (by decide +kernel) rfl rfl (Nat.le_of_ble_eq_true rfl) dX3_clear_2 (fun H locs hP hD hS => ?_)
  have hP : va_P (dC, dI) vwCl [(m0, .inr (3, [.int (zi (0)), .int (zi ((mp : Int))), .ref a1, .ref a2, .ref a3, .ref a4, .ref a5, .ref a6, .int (zi ((mb : Int))), .ref a7, .ref a8, .int (zi ((ml : Int))), .ref a9, .ref a10, .int (zi ((mz : Int))), .ref a11, .long (zl (ab)), .long (zl (be))]))] H := hP
  have hD : va_D A [(m0, .inr (3, [.int (zi (0)), .int (zi ((mp : Int))), .ref a1, .ref a2, .ref a3, .ref a4, .ref a5, .ref a6, .int (zi ((mb : Int))), .ref a7, .ref a8, .int (zi ((ml : Int))), .ref a9, .ref a10, .int (zi ((mz : Int))), .ref a11, .long (zl (ab)), .long (zl (be))]))] := hD
  refine lv_aload_n hx hb dX3_clear_5 rfl (lv_at hl 0 rfl) ?_
  refine va_get (D := (dC, dI)) (ci := 3) (v := .int (zi ((ml : Int)))) (C := RX3) (T := TX3) (N := 18) hx hb hg inX3 hown hK hP 0 rfl rfl 11 (by decide) (hg _ wl_X3_139) (fun _ h9 => h9) rfl dX3_clear_6 ?_
  refine lv_istore_n (lv' := [(1, .int (zi ((ml : Int)))), (0, .ref m0)]) hx hb dX3_clear_9 rfl hl (by decide) rfl (fun ls hl => ?_)
  refine lv_aload_n hx hb dX3_clear_10 rfl (lv_at hl 1 rfl) ?_
  refine lv_iconst (v := zi (0)) hx hb dX3_clear_11 rfl ?_
  refine zz_topi (z := ((0 : Nat) : Int)) (congrArg zi rfl) ?_
  refine va_put (D := (dC, dI)) (ci := 3) (v := .int (zi (((0 : Nat) : Int)))) (ty := .int) (C := RX3) (T := TX3) (N := 18) hx hb hg inX3 tyX3 tyX3_ok nmX3 hown hK hP hD hS 0 rfl rfl 11 (by decide) (hg _ wl_X3_139) (fun _ h9 => h9) rfl (by decide +kernel) rfl rfl (Nat.le_of_ble_eq_true rfl) dX3_clear_12 (fun H locs hP hD hS => ?_)
  have hP : va_P (dC, dI) vwCl [(m0, .inr (3, [.int (zi (0)), .int (zi ((mp : Int))), .ref a1, .ref a2, .ref a3, .ref a4, .ref a5, .ref a6, .int (zi ((mb : Int))), .ref a7, .ref a8, .int (zi (((0 : Nat) : Int))), .ref a9, .ref a10, .int (zi ((mz : Int))), .ref a11, .long (zl (ab)), .long (zl (be))]))] H := hP
  have hD : va_D A [(m0, .inr (3, [.int (zi (0)), .int (zi ((mp : Int))), .ref a1, .ref a2, .ref a3, .ref a4, .ref a5, .ref a6, .int (zi ((mb : Int))), .ref a7, .ref a8, .int (zi (((0 : Nat) : Int))), .ref a9, .ref a10, .int (zi ((mz : Int))), .ref a11, .long (zl (ab)), .long (zl (be))]))] := hD
  refine lv_iload_n hx hb dX3_clear_15 rfl (lv_at hl 0 rfl) ?_
  have hP9 : va_P (dC, dI) vwCl [(m0, .inr (3, [.int (zi (0)), .int (zi ((mp : Int))), .ref a1, .ref a2, .ref a3, .ref a4, .ref a5, .ref a6, .int (zi ((mb : Int))), .ref a7, .ref a8, .int (zi (((0 : Nat) : Int))), .ref a9, .ref a10, .int (zi ((mz : Int))), .ref a11, .long (zl (ab)), .long (zl (be))]))] H := hP
  rw [hQQ]
  exact wr_i hx hb hr hlocks rfl hP9 hS dX3_clear_16
