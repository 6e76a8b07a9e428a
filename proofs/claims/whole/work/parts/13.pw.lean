def fr_n (a b u q : Nat) : Nat := a * (q / Nat.gcd u q) + u / Nat.gcd u q * b
def fr_d (b u q : Nat) : Nat := b * (q / Nat.gcd u q)
def fr_add (s : Nat × Nat) (u q : Nat) : Nat × Nat := (fr_n s.1 s.2 u q / Nat.gcd (fr_n s.1 s.2 u q) (fr_d s.2 u q), fr_d s.2 u q / Nat.gcd (fr_n s.1 s.2 u q) (fr_d s.2 u q))
def p_ok (s : Nat × Nat) (u q : Nat) : Prop := 0 < s.2 ∧ fr_n s.1 s.2 u q < 9223372036854775808 ∧ fr_d s.2 u q < 562949953421312
theorem c_fr_add (l : Launch) (dC : Nat → ClassId) (dI : Nat → Nat → Nat) (sz : Nat) (h0 : Nat) (x : Nat × Nat) (u q : Nat) (hq0 : 0 < q) (hu : u < 9223372036854775808) (hq9 : q < 562949953421312) (hok : p_ok x u q) : Met l yX0_add (Cond.code yX0_add cX0_add 11 (Option.none) :: gw) rm_X0_add (PcW [.ref h0, .long (zl (u : Int)), .long (zl (q : Int))] (dC, dI) vwCl [(h0, .inr (0, [.long (zl ((x.1 : Nat) : Int)), .long (zl ((x.2 : Nat) : Int))]))] [] sz) (WrQ none (dC, dI) vwCl [(h0, .inr (0, [.long (zl (((fr_add x u q).1 : Nat) : Int)), .long (zl (((fr_add x u q).2 : Nat) : Int))]))] (va_A [(h0, .inr (0, [.long (zl ((x.1 : Nat) : Int)), .long (zl ((x.2 : Nat) : Int))]))] sz)) 0 0 (va_A [(h0, .inr (0, [.long (zl ((x.1 : Nat) : Int)), .long (zl ((x.2 : Nat) : Int))]))] sz) := c_X0_add l dC dI sz h0 x.1 x.2 u q hok.1 hq0 hu hq9 hok.2.1 hok.2.2
def p_u (hs rs : Nat → Int) (wall low high : Int) (k : Nat) : Nat := ((high - low) * (p_sc hs rs k wall low * p_sc hs rs k wall low + p_sc hs rs k wall low * p_sc hs rs k wall high + p_sc hs rs k wall high * p_sc hs rs k wall high)).toNat
def p_q (hs : Nat → Int) (k : Nat) : Nat := (3 * (hs k - hs (k - 1)) * (hs k - hs (k - 1))).toNat
theorem p_u_in {hs rs : Nat → Int} {wall low high : Int} {k : Nat} (hH : ∀ j, 0 ≤ hs j ∧ hs j ≤ 400) (hR : ∀ j, 0 ≤ rs j ∧ rs j ≤ 200) (hw : 0 ≤ wall) (h1 : hs (k - 1) ≤ low) (h2 : low < high) (h3 : high ≤ hs k) : 0 ≤ (high - low) * (p_sc hs rs k wall low * p_sc hs rs k wall low + p_sc hs rs k wall low * p_sc hs rs k wall high + p_sc hs rs k wall high * p_sc hs rs k wall high) ∧ (high - low) * (p_sc hs rs k wall low * p_sc hs rs k wall low + p_sc hs rs k wall low * p_sc hs rs k wall high + p_sc hs rs k wall high * p_sc hs rs k wall high) ≤ 400 * 19200000000 := by
  have a := hH (k - 1)
  have b := hH k
  have x := p_sc_bd (rs := rs) (hs := hs) (k := k) (wall := wall) (h := low) hR hw h1 (by omega)
  have y := p_sc_bd (rs := rs) (hs := hs) (k := k) (wall := wall) (h := high) hR hw (by omega) h3
  generalize p_sc hs rs k wall low = r at x ⊢
  generalize p_sc hs rs k wall high = t at y ⊢
  have e1 := p_mulb (a := r) (b := r) (A := 80000) (B := 80000) (by omega) (by omega)
  have e2 := p_mulb (a := r) (b := t) (A := 80000) (B := 80000) (by omega) (by omega)
  have e3 := p_mulb (a := t) (b := t) (A := 80000) (B := 80000) (by omega) (by omega)
  exact p_mulb (by omega) (by omega)
theorem p_u_eq {hs rs : Nat → Int} {wall low high : Int} {k : Nat} (hH : ∀ j, 0 ≤ hs j ∧ hs j ≤ 400) (hR : ∀ j, 0 ≤ rs j ∧ rs j ≤ 200) (hw : 0 ≤ wall) (h1 : hs (k - 1) ≤ low) (h2 : low < high) (h3 : high ≤ hs k) : (high - low) * (p_sc hs rs k wall low * p_sc hs rs k wall low + p_sc hs rs k wall low * p_sc hs rs k wall high + p_sc hs rs k wall high * p_sc hs rs k wall high) = ((p_u hs rs wall low high k : Nat) : Int) := (Int.toNat_of_nonneg (p_u_in hH hR hw h1 h2 h3).1).symm
theorem p_u_lt {hs rs : Nat → Int} {wall low high : Int} {k : Nat} (hH : ∀ j, 0 ≤ hs j ∧ hs j ≤ 400) (hR : ∀ j, 0 ≤ rs j ∧ rs j ≤ 200) (hw : 0 ≤ wall) (h1 : hs (k - 1) ≤ low) (h2 : low < high) (h3 : high ≤ hs k) : p_u hs rs wall low high k ≤ 7680000000000 := by
  have h := (p_u_in (k := k) (rs := rs) (wall := wall) hH hR hw h1 h2 h3).2
  rw [p_u_eq hH hR hw h1 h2 h3] at h
  omega
theorem p_q_eq {hs : Nat → Int} {k : Nat} (h : hs (k - 1) ≤ hs k) : 3 * (hs k - hs (k - 1)) * (hs k - hs (k - 1)) = ((p_q hs k : Nat) : Int) := (Int.toNat_of_nonneg (Int.mul_nonneg (by omega) (by omega))).symm
theorem p_q_bd {hs : Nat → Int} {k : Nat} (hH : ∀ j, 0 ≤ hs j ∧ hs j ≤ 400) (h : hs (k - 1) < hs k) : 0 < p_q hs k ∧ p_q hs k ≤ 480000 := by
  have a := hH (k - 1)
  have b := hH k
  have e := p_q_eq (hs := hs) (k := k) (by omega)
  have e1 := p_mulb (a := 3 * (hs k - hs (k - 1))) (b := hs k - hs (k - 1)) (A := 1200) (B := 400) (by omega) (by omega)
  have e2 : 0 < 3 * (hs k - hs (k - 1)) * (hs k - hs (k - 1)) := Int.mul_pos (by omega) (by omega)
  rw [e] at e1 e2
  omega
def p_lo (hs : Nat → Int) (frm : Int) (k : Nat) : Int := max frm (hs (k - 1))
def p_hi (hs : Nat → Int) (to : Int) (k : Nat) : Int := min to (hs k)
def p_step (hs rs : Nat → Int) (wall frm to : Int) (k : Nat) (x : Nat × Nat) : Nat × Nat := if p_lo hs frm k < p_hi hs to k then fr_add x (p_u hs rs wall (p_lo hs frm k) (p_hi hs to k) k) (p_q hs k) else x
def p_sum (hs rs : Nat → Int) (wall frm to : Int) : Nat → Nat × Nat
  | 0 => (0, 1)
  | j + 1 => p_step hs rs wall frm to (j + 1) (p_sum hs rs wall frm to j)
def p_oks (n : Nat) (hs rs : Nat → Int) (wall frm to : Int) : Prop := ∀ j, j + 1 < n → p_lo hs frm (j + 1) < p_hi hs to (j + 1) → p_ok (p_sum hs rs wall frm to j) (p_u hs rs wall (p_lo hs frm (j + 1)) (p_hi hs to (j + 1)) (j + 1)) (p_q hs (j + 1))
abbrev rm_X1_addCorner : Room := { frames := 1, cells := 0, slots := 0, locals := 24 }
set_option maxHeartbeats 4000000 in
set_option maxRecDepth 100000 in
theorem c_X1_addCorner_y (l : Launch) (dC : Nat → ClassId) (dI : Nat → Nat → Nat) (sz : Nat) (h0 h1 h2 : Nat) (cA : ClassId) (n : Nat) (th wc : Int) (hs rs : Nat → Int) (h r : Int) (hn : n ≤ 12) (hH : ∀ j, 0 ≤ hs j ∧ hs j ≤ 400) (hR : ∀ j, 0 ≤ rs j ∧ rs j ≤ 200) (hw : wc = 0 ∨ wc = 1) (hh : 0 ≤ h ∧ h ≤ 400) (hr9 : 0 ≤ r ∧ r ≤ 200)(hcl : wc = 0 ∧ n < 12) (hcf : p_canf n hs rs h r = true) : Met l yX1_addCorner (Cond.code yX1_addCorner cX1_addCorner 3 ((Option.some Jvm.ClassFile.FieldType.boolean)) :: gw) rm_X1_addCorner (PcW [.ref h0, .int (zi (h)), .int (zi (r))] (dC, dI) vwCl [(h0, .inr (1, [.ref h1, .ref h2, .int (zi ((n : Int))), .int (zi (th)), .int (zi (wc))])), (h1, .inl (cA, 12, .inl (zA (hs)))), (h2, .inl (cA, 12, .inl (zA (rs))))] [(cA, .int)] sz) (WrQ (some (.int (zi 1))) (dC, dI) vwCl [(h0, .inr (1, [.ref h1, .ref h2, .int (zi (((n + 1 : Nat) : Int))), .int (zi (th)), .int (zi (wc))])), (h1, .inl (cA, 12, .inl (zA (zupd hs (n) (h))))), (h2, .inl (cA, 12, .inl (zA (zupd rs (n) (r)))))] (va_A [(h0, .inr (1, [.ref h1, .ref h2, .int (zi ((n : Int))), .int (zi (th)), .int (zi (wc))])), (h1, .inl (cA, 12, .inl (zA (hs)))), (h2, .inl (cA, 12, .inl (zA (rs))))] sz)) 0 0 (va_A [(h0, .inr (1, [.ref h1, .ref h2, .int (zi ((n : Int))), .int (zi (th)), .int (zi (wc))])), (h1, .inl (cA, 12, .inl (zA (hs)))), (h2, .inl (cA, 12, .inl (zA (rs))))] sz) := by
  refine Met.ofW (cc := cX1_addCorner) (maxL := 3) (ret := ((Option.some Jvm.ClassFile.FieldType.boolean))) (by decide) rfl ?_
  intro p e s m args below meth c s₁ B hml hv
  obtain ⟨hargs, hsz, hP, hK, hD0⟩ := hv
  have hx := B.exec
  have hb := B.bytes
  have hr := B.returns
  have hts := atoms_spec (ws := Cond.code yX1_addCorner cX1_addCorner 3 ((Option.some Jvm.ClassFile.FieldType.boolean)) :: gw) B.pre
  have hg : ∀ w ∈ gw, w.before args s = true := fun w h => hts w (List.mem_cons_of_mem _ h)
  have hown : s.vm.findClass RX1 = some m.cls := findClass_of_methodNamed B.named
  have hlocks := B.notSynchronized
  subst hsz
  have hD := hD0.self (sz := s.heap.size)
  generalize hAe : va_A [(h0, .inr (1, [.ref h1, .ref h2, .int (zi ((n : Int))), .int (zi (th)), .int (zi (wc))])), (h1, .inl (cA, 12, .inl (zA (hs)))), (h2, .inl (cA, 12, .inl (zA (rs))))] s.heap.size = A at hD ⊢
  have hA : ∀ q : Nat, s.heap.size ≤ q → A q := fun q h => by rw [← hAe]; exact Or.inr h
  show W p l e rm_X1_addCorner s m args below meth c s.heap [] 0 0 _ _
  have hl := lv_entry ([.ref h0, .int (zi (h)), .int (zi (r))]) (n := 3) (Nat.le_of_ble_eq_true rfl)
  rw [show entryFrame m args 3 = entryFrame m ([.ref h0, .int (zi (h)), .int (zi (r))] : List Value).toArray 3 by rw [hargs], lg_entry_eq]
  generalize (lg_sl ([.ref h0, .int (zi (h)), .int (zi (r))]) ++ List.replicate (3 - (lg_sl ([.ref h0, .int (zi (h)), .int (zi (r))])).length) Slot.unset).toArray = ls at hl ⊢
  have hl : lv_has ls 3 [(0, .ref h0), (1, .int (zi (h))), (2, .int (zi (r)))] := hl
  obtain ⟨QQ, hQQ⟩ : ∃ Q, Q = MQ below (WrQ (some (.int (zi 1))) (dC, dI) vwCl [(h0, .inr (1, [.ref h1, .ref h2, .int (zi (((n + 1 : Nat) : Int))), .int (zi (th)), .int (zi (wc))])), (h1, .inl (cA, 12, .inl (zA (zupd hs (n) (h))))), (h2, .inl (cA, 12, .inl (zA (zupd rs (n) (r)))))] A) args s 0 0 A := ⟨_, rfl⟩
  rw [← hQQ]
  obtain ⟨H, hHe⟩ : ∃ H : Heap, H = s.heap := ⟨_, rfl⟩
  obtain ⟨locs, hlc⟩ : ∃ x : List Loc, x = [] := ⟨_, rfl⟩
  have hS : va_S A s.heap H locs := by rw [hHe, hlc]; exact va_S.rf
  have hP : va_P (dC, dI) vwCl [(h0, .inr (1, [.ref h1, .ref h2, .int (zi ((n : Int))), .int (zi (th)), .int (zi (wc))])), (h1, .inl (cA, 12, .inl (zA (hs)))), (h2, .inl (cA, 12, .inl (zA (rs))))] H := by rw [hHe]; exact hP
  have hD : va_D A [(h0, .inr (1, [.ref h1, .ref h2, .int (zi ((n : Int))), .int (zi (th)), .int (zi (wc))])), (h1, .inl (cA, 12, .inl (zA (hs)))), (h2, .inl (cA, 12, .inl (zA (rs))))] := hD
  rw [← hHe, ← hlc]
  refine lv_aload_n hx hb dX1_addCorner_0 rfl (lv_at hl 0 rfl) ?_
  refine rdV (As := []) (rest := []) (n := 0) hx hb hml hown hg (c_X1_isClosed l dC dI h0 h1 h2 cA n th wc hs rs hn hw) (gwV wl_X1_26 wm_X1_isClosed we_X1_isClosed wi_X1 wc_X1_isClosed) rfl rfl (by decide +kernel) ⟨Nat.le_of_ble_eq_true rfl, Nat.le_of_ble_eq_true rfl⟩ (hK.sub [0] rfl) (hP.sub [0, 1, 2] rfl) 0 rfl rfl rfl rfl hl.1 rfl (Nat.le_of_ble_eq_true rfl) dX1_addCorner_1 ⟨Nat.zero_le _, Nat.zero_le _⟩ ?_
  refine zz_topi (z := 0) (congrArg zi (zb_f (by simp; omega))) ?_
  refine zz_if_ne (tgt := 16) hx hb (by omega) dX1_addCorner_4 (by decide) (fun c_4 => ?_) (fun c_4 => ?_)
  · exact (c_4 rfl).elim
  · refine lv_aload_n hx hb dX1_addCorner_7 rfl (lv_at hl 0 rfl) ?_
    refine lv_iload_n hx hb dX1_addCorner_8 rfl (lv_at hl 1 rfl) ?_
    refine lv_iload_n hx hb dX1_addCorner_9 rfl (lv_at hl 2 rfl) ?_
    refine rdV (As := [.int (zi (h)), .int (zi (r))]) (rest := []) (n := 2) hx hb hml hown hg (c_X1_canFollow l dC dI h0 h1 h2 cA n th wc hs rs h r hn hH hR hh hr9) (gwV wl_X1_30 wm_X1_canFollow we_X1_canFollow wi_X1 wc_X1_canFollow) rfl rfl (by decide +kernel) ⟨Nat.le_of_ble_eq_true rfl, Nat.le_of_ble_eq_true rfl⟩ (hK.sub [0] rfl) (hP.sub [0, 1, 2] rfl) 0 rfl rfl rfl rfl hl.1 rfl (Nat.le_of_ble_eq_true rfl) dX1_addCorner_10 ⟨Nat.zero_le _, Nat.zero_le _⟩ ?_
    refine zz_topi (z := 1) (congrArg zi (zb_t hcf)) ?_
    refine zz_if_ne (tgt := 18) hx hb (by omega) dX1_addCorner_13 (by decide) (fun c_13 => ?_) (fun c_13 => ?_)
    · refine lv_aload_n hx hb dX1_addCorner_18 rfl (lv_at hl 0 rfl) ?_
      refine va_get (D := (dC, dI)) (ci := 1) (v := .ref h1) (C := RX1) (T := TX1) (N := 5) hx hb hg inX1 hown hK hP 0 rfl rfl 0 (by decide) (hg _ wl_X1_9) (fun _ h9 => h9) rfl dX1_addCorner_19 ?_
      refine lv_aload_n hx hb dX1_addCorner_22 rfl (lv_at hl 0 rfl) ?_
      refine va_get (D := (dC, dI)) (ci := 1) (v := .int (zi ((n : Int)))) (C := RX1) (T := TX1) (N := 5) hx hb hg inX1 hown hK hP 0 rfl rfl 2 (by decide) (hg _ wl_X1_22) (fun _ h9 => h9) rfl dX1_addCorner_23 ?_
      refine lv_iload_n hx hb dX1_addCorner_26 rfl (lv_at hl 1 rfl) ?_
      refine zz_iast hx hb hK hP hD hS 1 0 rfl rfl (n) (by omega) (by omega) (by decide) dX1_addCorner_27 (fun H locs hP hD hS => ?_)
      have hP : va_P (dC, dI) vwCl [(h0, .inr (1, [.ref h1, .ref h2, .int (zi ((n : Int))), .int (zi (th)), .int (zi (wc))])), (h1, .inl (cA, 12, .inl (zA (zupd hs (n) (h))))), (h2, .inl (cA, 12, .inl (zA (rs))))] H := hP
      have hD : va_D A [(h0, .inr (1, [.ref h1, .ref h2, .int (zi ((n : Int))), .int (zi (th)), .int (zi (wc))])), (h1, .inl (cA, 12, .inl (zA (zupd hs (n) (h))))), (h2, .inl (cA, 12, .inl (zA (rs))))] := hD
      refine lv_aload_n hx hb dX1_addCorner_28 rfl (lv_at hl 0 rfl) ?_
      refine va_get (D := (dC, dI)) (ci := 1) (v := .ref h2) (C := RX1) (T := TX1) (N := 5) hx hb hg inX1 hown hK hP 0 rfl rfl 1 (by decide) (hg _ wl_X1_15) (fun _ h9 => h9) rfl dX1_addCorner_29 ?_
      refine lv_aload_n hx hb dX1_addCorner_32 rfl (lv_at hl 0 rfl) ?_
      refine va_get (D := (dC, dI)) (ci := 1) (v := .int (zi ((n : Int)))) (C := RX1) (T := TX1) (N := 5) hx hb hg inX1 hown hK hP 0 rfl rfl 2 (by decide) (hg _ wl_X1_22) (fun _ h9 => h9) rfl dX1_addCorner_33 ?_
      refine lv_iload_n hx hb dX1_addCorner_36 rfl (lv_at hl 2 rfl) ?_
      refine zz_iast hx hb hK hP hD hS 2 0 rfl rfl (n) (by omega) (by omega) (by decide) dX1_addCorner_37 (fun H locs hP hD hS => ?_)
      have hP : va_P (dC, dI) vwCl [(h0, .inr (1, [.ref h1, .ref h2, .int (zi ((n : Int))), .int (zi (th)), .int (zi (wc))])), (h1, .inl (cA, 12, .inl (zA (zupd hs (n) (h))))), (h2, .inl (cA, 12, .inl (zA (zupd rs (n) (r)))))] H := hP
      have hD : va_D A [(h0, .inr (1, [.ref h1, .ref h2, .int (zi ((n : Int))), .int (zi (th)), .int (zi (wc))])), (h1, .inl (cA, 12, .inl (zA (zupd hs (n) (h))))), (h2, .inl (cA, 12, .inl (zA (zupd rs (n) (r)))))] := hD
      refine lv_aload_n hx hb dX1_addCorner_38 rfl (lv_at hl 0 rfl) ?_
      refine lv_dup hx hb dX1_addCorner_39 rfl ?_
      refine va_get (D := (dC, dI)) (ci := 1) (v := .int (zi ((n : Int)))) (C := RX1) (T := TX1) (N := 5) hx hb hg inX1 hown hK hP 0 rfl rfl 2 (by decide) (hg _ wl_X1_22) (fun _ h9 => h9) rfl dX1_addCorner_40 ?_
      refine lv_iconst (v := zi (1)) hx hb dX1_addCorner_43 rfl ?_
      refine zz_iadd hx hb dX1_addCorner_44 ?_
      refine zz_topi (z := ((n + 1 : Nat) : Int)) (congrArg zi (by push_cast; rfl)) ?_
      refine va_put (D := (dC, dI)) (ci := 1) (v := .int (zi (((n + 1 : Nat) : Int)))) (ty := .int) (C := RX1) (T := TX1) (N := 5) hx hb hg inX1 tyX1 tyX1_ok nmX1 hown hK hP hD hS 0 rfl rfl 2 (by decide) (hg _ wl_X1_22) (fun _ h9 => h9) rfl (by decide +kernel) rfl rfl (Nat.le_of_ble_eq_true rfl) dX1_addCorner_45 (fun H locs hP hD hS => ?_)
      have hP : va_P (dC, dI) vwCl [(h0, .inr (1, [.ref h1, .ref h2, .int (zi (((n + 1 : Nat) : Int))), .int (zi (th)), .int (zi (wc))])), (h1, .inl (cA, 12, .inl (zA (zupd hs (n) (h))))), (h2, .inl (cA, 12, .inl (zA (zupd rs (n) (r)))))] H := hP
      have hD : va_D A [(h0, .inr (1, [.ref h1, .ref h2, .int (zi (((n + 1 : Nat) : Int))), .int (zi (th)), .int (zi (wc))])), (h1, .inl (cA, 12, .inl (zA (zupd hs (n) (h))))), (h2, .inl (cA, 12, .inl (zA (zupd rs (n) (r)))))] := hD
      refine lv_iconst (v := zi (1)) hx hb dX1_addCorner_48 rfl ?_
      have hP9 : va_P (dC, dI) vwCl [(h0, .inr (1, [.ref h1, .ref h2, .int (zi (((n + 1 : Nat) : Int))), .int (zi (th)), .int (zi (wc))])), (h1, .inl (cA, 12, .inl (zA (zupd hs (n) (h))))), (h2, .inl (cA, 12, .inl (zA (zupd rs (n) (r)))))] H := hP
      rw [hQQ]
      exact wr_z hx hb hr hlocks rfl (by first | exact Or.inl rfl | exact Or.inr rfl | omega) hP9 hS dX1_addCorner_49
    · exact absurd c_13 (by decide)

set_option maxHeartbeats 4000000 in
set_option maxRecDepth 100000 in
theorem c_X1_addCorner_n (l : Launch) (dC : Nat → ClassId) (dI : Nat → Nat → Nat) (sz : Nat) (h0 h1 h2 : Nat) (cA : ClassId) (n : Nat) (th wc : Int) (hs rs : Nat → Int) (h r : Int) (hn : n ≤ 12) (hH : ∀ j, 0 ≤ hs j ∧ hs j ≤ 400) (hR : ∀ j, 0 ≤ rs j ∧ rs j ≤ 200) (hw : wc = 0 ∨ wc = 1) (hh : 0 ≤ h ∧ h ≤ 400) (hr9 : 0 ≤ r ∧ r ≤ 200)(hcl : wc = 0 ∧ n < 12) (hcf : p_canf n hs rs h r = false) : Met l yX1_addCorner (Cond.code yX1_addCorner cX1_addCorner 3 ((Option.some Jvm.ClassFile.FieldType.boolean)) :: gw) rm_X1_addCorner (PcW [.ref h0, .int (zi (h)), .int (zi (r))] (dC, dI) vwCl [(h0, .inr (1, [.ref h1, .ref h2, .int (zi ((n : Int))), .int (zi (th)), .int (zi (wc))])), (h1, .inl (cA, 12, .inl (zA (hs)))), (h2, .inl (cA, 12, .inl (zA (rs))))] [(cA, .int)] sz) (WrQ (some (.int (zi 0))) (dC, dI) vwCl [(h0, .inr (1, [.ref h1, .ref h2, .int (zi ((n : Int))), .int (zi (th)), .int (zi (wc))])), (h1, .inl (cA, 12, .inl (zA (hs)))), (h2, .inl (cA, 12, .inl (zA (rs))))] (va_A [(h0, .inr (1, [.ref h1, .ref h2, .int (zi ((n : Int))), .int (zi (th)), .int (zi (wc))])), (h1, .inl (cA, 12, .inl (zA (hs)))), (h2, .inl (cA, 12, .inl (zA (rs))))] sz)) 0 0 (va_A [(h0, .inr (1, [.ref h1, .ref h2, .int (zi ((n : Int))), .int (zi (th)), .int (zi (wc))])), (h1, .inl (cA, 12, .inl (zA (hs)))), (h2, .inl (cA, 12, .inl (zA (rs))))] sz) := by
  refine Met.ofW (cc := cX1_addCorner) (maxL := 3) (ret := ((Option.some Jvm.ClassFile.FieldType.boolean))) (by decide) rfl ?_
  intro p e s m args below meth c s₁ B hml hv
  obtain ⟨hargs, hsz, hP, hK, hD0⟩ := hv
  have hx := B.exec
  have hb := B.bytes
  have hr := B.returns
  have hts := atoms_spec (ws := Cond.code yX1_addCorner cX1_addCorner 3 ((Option.some Jvm.ClassFile.FieldType.boolean)) :: gw) B.pre
  have hg : ∀ w ∈ gw, w.before args s = true := fun w h => hts w (List.mem_cons_of_mem _ h)
  have hown : s.vm.findClass RX1 = some m.cls := findClass_of_methodNamed B.named
  have hlocks := B.notSynchronized
  subst hsz
  have hD := hD0.self (sz := s.heap.size)
  generalize hAe : va_A [(h0, .inr (1, [.ref h1, .ref h2, .int (zi ((n : Int))), .int (zi (th)), .int (zi (wc))])), (h1, .inl (cA, 12, .inl (zA (hs)))), (h2, .inl (cA, 12, .inl (zA (rs))))] s.heap.size = A at hD ⊢
  have hA : ∀ q : Nat, s.heap.size ≤ q → A q := fun q h => by rw [← hAe]; exact Or.inr h
  show W p l e rm_X1_addCorner s m args below meth c s.heap [] 0 0 _ _
  have hl := lv_entry ([.ref h0, .int (zi (h)), .int (zi (r))]) (n := 3) (Nat.le_of_ble_eq_true rfl)
  rw [show entryFrame m args 3 = entryFrame m ([.ref h0, .int (zi (h)), .int (zi (r))] : List Value).toArray 3 by rw [hargs], lg_entry_eq]
  generalize (lg_sl ([.ref h0, .int (zi (h)), .int (zi (r))]) ++ List.replicate (3 - (lg_sl ([.ref h0, .int (zi (h)), .int (zi (r))])).length) Slot.unset).toArray = ls at hl ⊢
  have hl : lv_has ls 3 [(0, .ref h0), (1, .int (zi (h))), (2, .int (zi (r)))] := hl
  obtain ⟨QQ, hQQ⟩ : ∃ Q, Q = MQ below (WrQ (some (.int (zi 0))) (dC, dI) vwCl [(h0, .inr (1, [.ref h1, .ref h2, .int (zi ((n : Int))), .int (zi (th)), .int (zi (wc))])), (h1, .inl (cA, 12, .inl (zA (hs)))), (h2, .inl (cA, 12, .inl (zA (rs))))] A) args s 0 0 A := ⟨_, rfl⟩
  rw [← hQQ]
  obtain ⟨H, hHe⟩ : ∃ H : Heap, H = s.heap := ⟨_, rfl⟩
  obtain ⟨locs, hlc⟩ : ∃ x : List Loc, x = [] := ⟨_, rfl⟩
  have hS : va_S A s.heap H locs := by rw [hHe, hlc]; exact va_S.rf
  have hP : va_P (dC, dI) vwCl [(h0, .inr (1, [.ref h1, .ref h2, .int (zi ((n : Int))), .int (zi (th)), .int (zi (wc))])), (h1, .inl (cA, 12, .inl (zA (hs)))), (h2, .inl (cA, 12, .inl (zA (rs))))] H := by rw [hHe]; exact hP
  have hD : va_D A [(h0, .inr (1, [.ref h1, .ref h2, .int (zi ((n : Int))), .int (zi (th)), .int (zi (wc))])), (h1, .inl (cA, 12, .inl (zA (hs)))), (h2, .inl (cA, 12, .inl (zA (rs))))] := hD
  rw [← hHe, ← hlc]
  refine lv_aload_n hx hb dX1_addCorner_0 rfl (lv_at hl 0 rfl) ?_
  refine rdV (As := []) (rest := []) (n := 0) hx hb hml hown hg (c_X1_isClosed l dC dI h0 h1 h2 cA n th wc hs rs hn hw) (gwV wl_X1_26 wm_X1_isClosed we_X1_isClosed wi_X1 wc_X1_isClosed) rfl rfl (by decide +kernel) ⟨Nat.le_of_ble_eq_true rfl, Nat.le_of_ble_eq_true rfl⟩ (hK.sub [0] rfl) (hP.sub [0, 1, 2] rfl) 0 rfl rfl rfl rfl hl.1 rfl (Nat.le_of_ble_eq_true rfl) dX1_addCorner_1 ⟨Nat.zero_le _, Nat.zero_le _⟩ ?_
  refine zz_topi (z := 0) (congrArg zi (zb_f (by simp; omega))) ?_
  refine zz_if_ne (tgt := 16) hx hb (by omega) dX1_addCorner_4 (by decide) (fun c_4 => ?_) (fun c_4 => ?_)
  · exact (c_4 rfl).elim
  · refine lv_aload_n hx hb dX1_addCorner_7 rfl (lv_at hl 0 rfl) ?_
    refine lv_iload_n hx hb dX1_addCorner_8 rfl (lv_at hl 1 rfl) ?_
    refine lv_iload_n hx hb dX1_addCorner_9 rfl (lv_at hl 2 rfl) ?_
    refine rdV (As := [.int (zi (h)), .int (zi (r))]) (rest := []) (n := 2) hx hb hml hown hg (c_X1_canFollow l dC dI h0 h1 h2 cA n th wc hs rs h r hn hH hR hh hr9) (gwV wl_X1_30 wm_X1_canFollow we_X1_canFollow wi_X1 wc_X1_canFollow) rfl rfl (by decide +kernel) ⟨Nat.le_of_ble_eq_true rfl, Nat.le_of_ble_eq_true rfl⟩ (hK.sub [0] rfl) (hP.sub [0, 1, 2] rfl) 0 rfl rfl rfl rfl hl.1 rfl (Nat.le_of_ble_eq_true rfl) dX1_addCorner_10 ⟨Nat.zero_le _, Nat.zero_le _⟩ ?_
    refine zz_topi (z := 0) (congrArg zi (zb_f hcf)) ?_
    refine zz_if_ne (tgt := 18) hx hb (by omega) dX1_addCorner_13 (by decide) (fun c_13 => ?_) (fun c_13 => ?_)
    · exact (c_13 rfl).elim
    · refine lv_iconst (v := zi (0)) hx hb dX1_addCorner_16 rfl ?_
      have hP9 : va_P (dC, dI) vwCl [(h0, .inr (1, [.ref h1, .ref h2, .int (zi ((n : Int))), .int (zi (th)), .int (zi (wc))])), (h1, .inl (cA, 12, .inl (zA (hs)))), (h2, .inl (cA, 12, .inl (zA (rs))))] H := hP
      rw [hQQ]
      exact wr_z hx hb hr hlocks rfl (by first | exact Or.inl rfl | exact Or.inr rfl | omega) hP9 hS dX1_addCorner_17

abbrev rm_X1_addPiece : Room := { frames := 3, cells := 0, slots := 0, locals := 82 }
set_option maxHeartbeats 4000000 in
set_option maxRecDepth 100000 in
theorem c_X1_addPiece (l : Launch) (dC : Nat → ClassId) (dI : Nat → Nat → Nat) (sz : Nat) (h0 h1 h2 : Nat) (cA : ClassId) (n : Nat) (th wc : Int) (hs rs : Nat → Int) (h3 : Nat) (x : Nat × Nat) (k : Nat) (wall low high : Int) (hn : n ≤ 12) (hH : ∀ j, 0 ≤ hs j ∧ hs j ≤ 400) (hR : ∀ j, 0 ≤ rs j ∧ rs j ≤ 200) (hk : 1 ≤ k ∧ k < 12) (hw : 0 ≤ wall ∧ wall ≤ 50) (hl1 : hs (k - 1) ≤ low) (hl2 : low < high) (hl3 : high ≤ hs k) (hok : p_ok x (p_u hs rs wall low high k) (p_q hs k)) : Met l yX1_addPiece (Cond.code yX1_addPiece cX1_addPiece 12 ((Option.none : Option Jvm.ClassFile.FieldType)) :: gw) rm_X1_addPiece (PcW [.ref h0, .ref h3, .int (zi ((k : Int))), .int (zi (wall)), .int (zi (low)), .int (zi (high))] (dC, dI) vwCl [(h0, .inr (1, [.ref h1, .ref h2, .int (zi ((n : Int))), .int (zi (th)), .int (zi (wc))])), (h1, .inl (cA, 12, .inl (zA (hs)))), (h2, .inl (cA, 12, .inl (zA (rs)))), (h3, .inr (0, [.long (zl ((((x).1 : Nat) : Int))), .long (zl ((((x).2 : Nat) : Int)))]))] [(cA, .int)] sz) (WrQ (none) (dC, dI) vwCl [(h0, .inr (1, [.ref h1, .ref h2, .int (zi ((n : Int))), .int (zi (th)), .int (zi (wc))])), (h1, .inl (cA, 12, .inl (zA (hs)))), (h2, .inl (cA, 12, .inl (zA (rs)))), (h3, .inr (0, [.long (zl ((((fr_add x (p_u hs rs wall low high k) (p_q hs k)).1 : Nat) : Int))), .long (zl ((((fr_add x (p_u hs rs wall low high k) (p_q hs k)).2 : Nat) : Int)))]))] (va_A [(h0, .inr (1, [.ref h1, .ref h2, .int (zi ((n : Int))), .int (zi (th)), .int (zi (wc))])), (h1, .inl (cA, 12, .inl (zA (hs)))), (h2, .inl (cA, 12, .inl (zA (rs)))), (h3, .inr (0, [.long (zl ((((x).1 : Nat) : Int))), .long (zl ((((x).2 : Nat) : Int)))]))] sz)) 0 0 (va_A [(h0, .inr (1, [.ref h1, .ref h2, .int (zi ((n : Int))), .int (zi (th)), .int (zi (wc))])), (h1, .inl (cA, 12, .inl (zA (hs)))), (h2, .inl (cA, 12, .inl (zA (rs)))), (h3, .inr (0, [.long (zl ((((x).1 : Nat) : Int))), .long (zl ((((x).2 : Nat) : Int)))]))] sz) := by
  refine Met.ofW (cc := cX1_addPiece) (maxL := 12) (ret := ((Option.none : Option Jvm.ClassFile.FieldType))) (by decide) rfl ?_
  intro p e s m args below meth c s₁ B hml hv
  obtain ⟨hargs, hsz, hP, hK, hD0⟩ := hv
  have hx := B.exec
  have hb := B.bytes
  have hr := B.returns
  have hts := atoms_spec (ws := Cond.code yX1_addPiece cX1_addPiece 12 ((Option.none : Option Jvm.ClassFile.FieldType)) :: gw) B.pre
  have hg : ∀ w ∈ gw, w.before args s = true := fun w h => hts w (List.mem_cons_of_mem _ h)
  have hown : s.vm.findClass RX1 = some m.cls := findClass_of_methodNamed B.named
  have hlocks := B.notSynchronized
  subst hsz
  have hD := hD0.self (sz := s.heap.size)
  generalize hAe : va_A [(h0, .inr (1, [.ref h1, .ref h2, .int (zi ((n : Int))), .int (zi (th)), .int (zi (wc))])), (h1, .inl (cA, 12, .inl (zA (hs)))), (h2, .inl (cA, 12, .inl (zA (rs)))), (h3, .inr (0, [.long (zl ((((x).1 : Nat) : Int))), .long (zl ((((x).2 : Nat) : Int)))]))] s.heap.size = A at hD ⊢
  have hA : ∀ q : Nat, s.heap.size ≤ q → A q := fun q h => by rw [← hAe]; exact Or.inr h
  show W p l e rm_X1_addPiece s m args below meth c s.heap [] 0 0 _ _
  have hl := lv_entry ([.ref h0, .ref h3, .int (zi ((k : Int))), .int (zi (wall)), .int (zi (low)), .int (zi (high))]) (n := 12) (Nat.le_of_ble_eq_true rfl)
  rw [show entryFrame m args 12 = entryFrame m ([.ref h0, .ref h3, .int (zi ((k : Int))), .int (zi (wall)), .int (zi (low)), .int (zi (high))] : List Value).toArray 12 by rw [hargs], lg_entry_eq]
  generalize (lg_sl ([.ref h0, .ref h3, .int (zi ((k : Int))), .int (zi (wall)), .int (zi (low)), .int (zi (high))]) ++ List.replicate (12 - (lg_sl ([.ref h0, .ref h3, .int (zi ((k : Int))), .int (zi (wall)), .int (zi (low)), .int (zi (high))])).length) Slot.unset).toArray = ls at hl ⊢
  have hl : lv_has ls 12 [(0, .ref h0), (1, .ref h3), (2, .int (zi ((k : Int)))), (3, .int (zi (wall))), (4, .int (zi (low))), (5, .int (zi (high)))] := hl
  obtain ⟨QQ, hQQ⟩ : ∃ Q, Q = MQ below (WrQ (none) (dC, dI) vwCl [(h0, .inr (1, [.ref h1, .ref h2, .int (zi ((n : Int))), .int (zi (th)), .int (zi (wc))])), (h1, .inl (cA, 12, .inl (zA (hs)))), (h2, .inl (cA, 12, .inl (zA (rs)))), (h3, .inr (0, [.long (zl ((((fr_add x (p_u hs rs wall low high k) (p_q hs k)).1 : Nat) : Int))), .long (zl ((((fr_add x (p_u hs rs wall low high k) (p_q hs k)).2 : Nat) : Int)))]))] A) args s 0 0 A := ⟨_, rfl⟩
  rw [← hQQ]
  obtain ⟨H, hHe⟩ : ∃ H : Heap, H = s.heap := ⟨_, rfl⟩
  obtain ⟨locs, hlc⟩ : ∃ x : List Loc, x = [] := ⟨_, rfl⟩
  have hS : va_S A s.heap H locs := by rw [hHe, hlc]; exact va_S.rf
  have hP : va_P (dC, dI) vwCl [(h0, .inr (1, [.ref h1, .ref h2, .int (zi ((n : Int))), .int (zi (th)), .int (zi (wc))])), (h1, .inl (cA, 12, .inl (zA (hs)))), (h2, .inl (cA, 12, .inl (zA (rs)))), (h3, .inr (0, [.long (zl ((((x).1 : Nat) : Int))), .long (zl ((((x).2 : Nat) : Int)))]))] H := by rw [hHe]; exact hP
  have hD : va_D A [(h0, .inr (1, [.ref h1, .ref h2, .int (zi ((n : Int))), .int (zi (th)), .int (zi (wc))])), (h1, .inl (cA, 12, .inl (zA (hs)))), (h2, .inl (cA, 12, .inl (zA (rs)))), (h3, .inr (0, [.long (zl ((((x).1 : Nat) : Int))), .long (zl ((((x).2 : Nat) : Int)))]))] := hD
  rw [← hHe, ← hlc]
  have hqb := p_q_bd (hs := hs) (k := k) hH (by omega)
  have hul := p_u_lt (hs := hs) (rs := rs) (wall := wall) (low := low) (high := high) (k := k) hH hR hw.1 hl1 hl2 hl3
  have hb1 := p_sc_bd (rs := rs) (hs := hs) (k := k) (wall := wall) (h := low) hR hw.1 hl1 (by omega)
  have hb2 := p_sc_bd (rs := rs) (hs := hs) (k := k) (wall := wall) (h := high) hR hw.1 (by omega) hl3
  refine lv_aload_n hx hb dX1_addPiece_0 rfl (lv_at hl 0 rfl) ?_
  refine va_get (D := (dC, dI)) (ci := 1) (v := .ref h1) (C := RX1) (T := TX1) (N := 5) hx hb hg inX1 hown hK hP 0 rfl rfl 0 (by decide) (hg _ wl_X1_9) (fun _ h9 => h9) rfl dX1_addPiece_1 ?_
  refine lv_iload_n hx hb dX1_addPiece_4 rfl (lv_at hl 2 rfl) ?_
  refine zz_iald hx hb hK hP 1 0 rfl rfl (k) (by omega) (by omega) (by decide) dX1_addPiece_5 ?_
  have hv_1 := hH (k)
  refine lv_aload_n hx hb dX1_addPiece_6 rfl (lv_at hl 0 rfl) ?_
  refine va_get (D := (dC, dI)) (ci := 1) (v := .ref h1) (C := RX1) (T := TX1) (N := 5) hx hb hg inX1 hown hK hP 0 rfl rfl 0 (by decide) (hg _ wl_X1_9) (fun _ h9 => h9) rfl dX1_addPiece_7 ?_
  refine lv_iload_n hx hb dX1_addPiece_10 rfl (lv_at hl 2 rfl) ?_
  refine lv_iconst (v := zi (1)) hx hb dX1_addPiece_11 rfl ?_
  refine zz_isub hx hb dX1_addPiece_12 ?_
  refine zz_iald hx hb hK hP 1 0 rfl rfl (k - 1) (by omega) (by omega) (by decide) dX1_addPiece_13 ?_
  have hv_2 := hH (k - 1)
  refine zz_isub hx hb dX1_addPiece_14 ?_
  refine zz_i2l hx hb (by omega) dX1_addPiece_15 ?_
  refine lv_lstore (lv' := [(6, .long (zl ((hs (k)) - (hs (k - 1))))), (0, .ref h0), (1, .ref h3), (2, .int (zi ((k : Int)))), (3, .int (zi (wall))), (4, .int (zi (low))), (5, .int (zi (high)))]) hx hb dX1_addPiece_16 hl (by decide) rfl (fun ls hl => ?_)
  refine lv_aload_n hx hb dX1_addPiece_18 rfl (lv_at hl 1 rfl) ?_
  refine lv_iload_n hx hb dX1_addPiece_19 rfl (lv_at hl 3 rfl) ?_
  refine lv_iload_n hx hb dX1_addPiece_20 rfl (lv_at hl 4 rfl) ?_
  refine lv_iload hx hb dX1_addPiece_21 (lv_at hl 5 rfl) ?_
  refine rdV (As := [.int (zi ((k : Int))), .int (zi (wall)), .int (zi (low))]) (rest := []) (n := 3) hx hb hml hown hg (c_X1_scaledRadius l dC dI h0 h1 h2 cA n th wc hs rs (k) (wall) (low) hn hH hR hk hw) (gwV wl_X1_40 wm_X1_scaledRadius we_X1_scaledRadius wi_X1 wc_X1_scaledRadius) rfl rfl (by decide +kernel) ⟨Nat.le_of_ble_eq_true rfl, Nat.le_of_ble_eq_true rfl⟩ (hK.sub [0] rfl) (hP.sub [0, 1, 2] rfl) 0 rfl rfl rfl rfl hl.1 rfl (Nat.le_of_ble_eq_true rfl) dX1_addPiece_23 ⟨Nat.zero_le _, Nat.zero_le _⟩ ?_
  refine zz_i2l hx hb (by omega) dX1_addPiece_26 ?_
  refine lv_lstore (lv' := [(8, .long (zl (p_sc hs rs (k) (wall) (low)))), (6, .long (zl ((hs (k)) - (hs (k - 1))))), (0, .ref h0), (1, .ref h3), (2, .int (zi ((k : Int)))), (3, .int (zi (wall))), (4, .int (zi (low))), (5, .int (zi (high)))]) hx hb dX1_addPiece_27 hl (by decide) rfl (fun ls hl => ?_)
  refine lv_aload_n hx hb dX1_addPiece_29 rfl (lv_at hl 2 rfl) ?_
  refine lv_iload_n hx hb dX1_addPiece_30 rfl (lv_at hl 4 rfl) ?_
  refine lv_iload_n hx hb dX1_addPiece_31 rfl (lv_at hl 5 rfl) ?_
  refine lv_iload hx hb dX1_addPiece_32 (lv_at hl 7 rfl) ?_
  refine rdV (As := [.int (zi ((k : Int))), .int (zi (wall)), .int (zi (high))]) (rest := []) (n := 3) hx hb hml hown hg (c_X1_scaledRadius l dC dI h0 h1 h2 cA n th wc hs rs (k) (wall) (high) hn hH hR hk hw) (gwV wl_X1_40 wm_X1_scaledRadius we_X1_scaledRadius wi_X1 wc_X1_scaledRadius) rfl rfl (by decide +kernel) ⟨Nat.le_of_ble_eq_true rfl, Nat.le_of_ble_eq_true rfl⟩ (hK.sub [0] rfl) (hP.sub [0, 1, 2] rfl) 0 rfl rfl rfl rfl hl.1 rfl (Nat.le_of_ble_eq_true rfl) dX1_addPiece_34 ⟨Nat.zero_le _, Nat.zero_le _⟩ ?_
  refine zz_i2l hx hb (by omega) dX1_addPiece_37 ?_
  refine lv_lstore (lv' := [(10, .long (zl (p_sc hs rs (k) (wall) (high)))), (8, .long (zl (p_sc hs rs (k) (wall) (low)))), (6, .long (zl ((hs (k)) - (hs (k - 1))))), (0, .ref h0), (1, .ref h3), (2, .int (zi ((k : Int)))), (3, .int (zi (wall))), (4, .int (zi (low))), (5, .int (zi (high)))]) hx hb dX1_addPiece_38 hl (by decide) rfl (fun ls hl => ?_)
  refine lv_aload_n hx hb dX1_addPiece_40 rfl (lv_at hl 4 rfl) ?_
  refine lv_iload hx hb dX1_addPiece_41 (lv_at hl 8 rfl) ?_
  refine lv_iload hx hb dX1_addPiece_43 (lv_at hl 7 rfl) ?_
  refine zz_isub hx hb dX1_addPiece_45 ?_
  refine zz_i2l hx hb (by omega) dX1_addPiece_46 ?_
  refine lv_lload hx hb dX1_addPiece_47 (lv_at hl 1 rfl) ?_
  refine lv_lload hx hb dX1_addPiece_49 (lv_at hl 1 rfl) ?_
  refine zz_lmul hx hb dX1_addPiece_51 ?_
  refine lv_lload hx hb dX1_addPiece_52 (lv_at hl 1 rfl) ?_
  refine lv_lload hx hb dX1_addPiece_54 (lv_at hl 0 rfl) ?_
  refine zz_lmul hx hb dX1_addPiece_56 ?_
  refine zz_ladd hx hb dX1_addPiece_57 ?_
  refine lv_lload hx hb dX1_addPiece_58 (lv_at hl 0 rfl) ?_
  refine lv_lload hx hb dX1_addPiece_60 (lv_at hl 0 rfl) ?_
  refine zz_lmul hx hb dX1_addPiece_62 ?_
  refine zz_ladd hx hb dX1_addPiece_63 ?_
  refine zz_lmul hx hb dX1_addPiece_64 ?_
  refine zz_topl (z := ((p_u hs rs wall low high k : Nat) : Int)) (congrArg zl (p_u_eq hH hR hw.1 hl1 hl2 hl3)) ?_
  refine lv_ldc2 (v := 3) hx hb hown (hg _ wl_X1_67) dX1_addPiece_65 ?_
  refine zz_topl (z := 3) (by decide) ?_
  refine lv_lload hx hb dX1_addPiece_68 (lv_at hl 2 rfl) ?_
  refine zz_lmul hx hb dX1_addPiece_70 ?_
  refine lv_lload hx hb dX1_addPiece_71 (lv_at hl 2 rfl) ?_
  refine zz_lmul hx hb dX1_addPiece_73 ?_
  refine zz_topl (z := ((p_q hs k : Nat) : Int)) (congrArg zl (p_q_eq (by omega))) ?_
  refine wrV (As := [.long (zl (((p_u hs rs wall low high k : Nat) : Int))), .long (zl (((p_q hs k : Nat) : Int)))]) (rest := []) (n := 2) (ws' := [(h0, .inr (1, [.ref h1, .ref h2, .int (zi ((n : Int))), .int (zi (th)), .int (zi (wc))])), (h1, .inl (cA, 12, .inl (zA (hs)))), (h2, .inl (cA, 12, .inl (zA (rs)))), (h3, .inr (0, [.long (zl ((((fr_add x (p_u hs rs wall low high k) (p_q hs k)).1 : Nat) : Int))), .long (zl ((((fr_add x (p_u hs rs wall low high k) (p_q hs k)).2 : Nat) : Int)))]))]) hx hb hml hown hg (c_fr_add l dC dI H.size h3 x (p_u hs rs wall low high k) (p_q hs k) hqb.1 (by omega) (by omega) hok) (gwV wl_X1_69 wm_X0_add we_X0_add wi_X0 wc_X0_add) rfl rfl (by decide +kernel) ⟨Nat.le_of_ble_eq_true rfl, Nat.le_of_ble_eq_true rfl⟩ (hK.sub [] rfl) hP hD hS hA [3] rfl (by decide) [(false, 0), (false, 1), (false, 2), (true, 0)] rfl (by decide) rfl 0 rfl rfl rfl rfl hl.1 rfl (Nat.le_of_ble_eq_true rfl) dX1_addPiece_74 ⟨Nat.zero_le _, Nat.zero_le _⟩ (fun H locs hP hD hS => ?_)
  have hP9 : va_P (dC, dI) vwCl [(h0, .inr (1, [.ref h1, .ref h2, .int (zi ((n : Int))), .int (zi (th)), .int (zi (wc))])), (h1, .inl (cA, 12, .inl (zA (hs)))), (h2, .inl (cA, 12, .inl (zA (rs)))), (h3, .inr (0, [.long (zl ((((fr_add x (p_u hs rs wall low high k) (p_q hs k)).1 : Nat) : Int))), .long (zl ((((fr_add x (p_u hs rs wall low high k) (p_q hs k)).2 : Nat) : Int)))]))] H := hP
  rw [hQQ]
  exact wr_v hx hb hr hlocks hP9 hS dX1_addPiece_77

abbrev rm_X1_addPieces : Room := { frames := 4, cells := 0, slots := 0, locals := 113 }
set_option maxHeartbeats 4000000 in
set_option maxRecDepth 100000 in
theorem c_X1_addPieces (l : Launch) (dC : Nat → ClassId) (dI : Nat → Nat → Nat) (sz : Nat) (h0 h1 h2 : Nat) (cA : ClassId) (n : Nat) (th wc : Int) (hs rs : Nat → Int) (h3 : Nat) (wall frm to : Int) (hn : n ≤ 12) (hH : ∀ j, 0 ≤ hs j ∧ hs j ≤ 400) (hR : ∀ j, 0 ≤ rs j ∧ rs j ≤ 200) (hw : 0 ≤ wall ∧ wall ≤ 50) (hf9 : -2147483648 ≤ frm ∧ frm < 2147483648) (ht9 : -2147483648 ≤ to ∧ to < 2147483648) (hok : p_oks n hs rs wall frm to) : Met l yX1_addPieces (Cond.code yX1_addPieces cX1_addPieces 8 ((Option.none : Option Jvm.ClassFile.FieldType)) :: gw) rm_X1_addPieces (PcW [.ref h0, .ref h3, .int (zi (wall)), .int (zi (frm)), .int (zi (to))] (dC, dI) vwCl [(h0, .inr (1, [.ref h1, .ref h2, .int (zi ((n : Int))), .int (zi (th)), .int (zi (wc))])), (h1, .inl (cA, 12, .inl (zA (hs)))), (h2, .inl (cA, 12, .inl (zA (rs)))), (h3, .inr (0, [.long (zl (((((0, 1)).1 : Nat) : Int))), .long (zl (((((0, 1)).2 : Nat) : Int)))]))] [(cA, .int)] sz) (WrQ (none) (dC, dI) vwCl [(h0, .inr (1, [.ref h1, .ref h2, .int (zi ((n : Int))), .int (zi (th)), .int (zi (wc))])), (h1, .inl (cA, 12, .inl (zA (hs)))), (h2, .inl (cA, 12, .inl (zA (rs)))), (h3, .inr (0, [.long (zl ((((p_sum hs rs wall frm to (n - 1)).1 : Nat) : Int))), .long (zl ((((p_sum hs rs wall frm to (n - 1)).2 : Nat) : Int)))]))] (va_A [(h0, .inr (1, [.ref h1, .ref h2, .int (zi ((n : Int))), .int (zi (th)), .int (zi (wc))])), (h1, .inl (cA, 12, .inl (zA (hs)))), (h2, .inl (cA, 12, .inl (zA (rs)))), (h3, .inr (0, [.long (zl (((((0, 1)).1 : Nat) : Int))), .long (zl (((((0, 1)).2 : Nat) : Int)))]))] sz)) 0 0 (va_A [(h0, .inr (1, [.ref h1, .ref h2, .int (zi ((n : Int))), .int (zi (th)), .int (zi (wc))])), (h1, .inl (cA, 12, .inl (zA (hs)))), (h2, .inl (cA, 12, .inl (zA (rs)))), (h3, .inr (0, [.long (zl (((((0, 1)).1 : Nat) : Int))), .long (zl (((((0, 1)).2 : Nat) : Int)))]))] sz) := by
  refine Met.ofW (cc := cX1_addPieces) (maxL := 8) (ret := ((Option.none : Option Jvm.ClassFile.FieldType))) (by decide) rfl ?_
  intro p e s m args below meth c s₁ B hml hv
  obtain ⟨hargs, hsz, hP, hK, hD0⟩ := hv
  have hx := B.exec
  have hb := B.bytes
  have hr := B.returns
  have hts := atoms_spec (ws := Cond.code yX1_addPieces cX1_addPieces 8 ((Option.none : Option Jvm.ClassFile.FieldType)) :: gw) B.pre
  have hg : ∀ w ∈ gw, w.before args s = true := fun w h => hts w (List.mem_cons_of_mem _ h)
  have hown : s.vm.findClass RX1 = some m.cls := findClass_of_methodNamed B.named
  have hlocks := B.notSynchronized
  subst hsz
  have hD := hD0.self (sz := s.heap.size)
  generalize hAe : va_A [(h0, .inr (1, [.ref h1, .ref h2, .int (zi ((n : Int))), .int (zi (th)), .int (zi (wc))])), (h1, .inl (cA, 12, .inl (zA (hs)))), (h2, .inl (cA, 12, .inl (zA (rs)))), (h3, .inr (0, [.long (zl (((((0, 1)).1 : Nat) : Int))), .long (zl (((((0, 1)).2 : Nat) : Int)))]))] s.heap.size = A at hD ⊢
  have hA : ∀ q : Nat, s.heap.size ≤ q → A q := fun q h => by rw [← hAe]; exact Or.inr h
  show W p l e rm_X1_addPieces s m args below meth c s.heap [] 0 0 _ _
  have hl := lv_entry ([.ref h0, .ref h3, .int (zi (wall)), .int (zi (frm)), .int (zi (to))]) (n := 8) (Nat.le_of_ble_eq_true rfl)
  rw [show entryFrame m args 8 = entryFrame m ([.ref h0, .ref h3, .int (zi (wall)), .int (zi (frm)), .int (zi (to))] : List Value).toArray 8 by rw [hargs], lg_entry_eq]
  generalize (lg_sl ([.ref h0, .ref h3, .int (zi (wall)), .int (zi (frm)), .int (zi (to))]) ++ List.replicate (8 - (lg_sl ([.ref h0, .ref h3, .int (zi (wall)), .int (zi (frm)), .int (zi (to))])).length) Slot.unset).toArray = ls at hl ⊢
  have hl : lv_has ls 8 [(0, .ref h0), (1, .ref h3), (2, .int (zi (wall))), (3, .int (zi (frm))), (4, .int (zi (to)))] := hl
  obtain ⟨QQ, hQQ⟩ : ∃ Q, Q = MQ below (WrQ (none) (dC, dI) vwCl [(h0, .inr (1, [.ref h1, .ref h2, .int (zi ((n : Int))), .int (zi (th)), .int (zi (wc))])), (h1, .inl (cA, 12, .inl (zA (hs)))), (h2, .inl (cA, 12, .inl (zA (rs)))), (h3, .inr (0, [.long (zl ((((p_sum hs rs wall frm to (n - 1)).1 : Nat) : Int))), .long (zl ((((p_sum hs rs wall frm to (n - 1)).2 : Nat) : Int)))]))] A) args s 0 0 A := ⟨_, rfl⟩
  rw [← hQQ]
  obtain ⟨H, hHe⟩ : ∃ H : Heap, H = s.heap := ⟨_, rfl⟩
  obtain ⟨locs, hlc⟩ : ∃ x : List Loc, x = [] := ⟨_, rfl⟩
  have hS : va_S A s.heap H locs := by rw [hHe, hlc]; exact va_S.rf
  have hP : va_P (dC, dI) vwCl [(h0, .inr (1, [.ref h1, .ref h2, .int (zi ((n : Int))), .int (zi (th)), .int (zi (wc))])), (h1, .inl (cA, 12, .inl (zA (hs)))), (h2, .inl (cA, 12, .inl (zA (rs)))), (h3, .inr (0, [.long (zl (((((0, 1)).1 : Nat) : Int))), .long (zl (((((0, 1)).2 : Nat) : Int)))]))] H := by rw [hHe]; exact hP
  have hD : va_D A [(h0, .inr (1, [.ref h1, .ref h2, .int (zi ((n : Int))), .int (zi (th)), .int (zi (wc))])), (h1, .inl (cA, 12, .inl (zA (hs)))), (h2, .inl (cA, 12, .inl (zA (rs)))), (h3, .inr (0, [.long (zl (((((0, 1)).1 : Nat) : Int))), .long (zl (((((0, 1)).2 : Nat) : Int)))]))] := hD
  rw [← hHe, ← hlc]
  refine lv_iconst (v := zi (1)) hx hb dX1_addPieces_0 rfl ?_
  refine lv_istore (lv' := [(5, .int (zi (1))), (0, .ref h0), (1, .ref h3), (2, .int (zi (wall))), (3, .int (zi (frm))), (4, .int (zi (to)))]) hx hb dX1_addPieces_1 hl (by decide) rfl (fun ls hl => ?_)
  have key_3 : ∀ (n_ : Nat) (k : Nat), 1 ≤ k → k ≤ max n 1 → 13 - k < n_ → ∀ (H : Heap) (locs : List Loc), va_P (dC, dI) vwCl [(h0, .inr (1, [.ref h1, .ref h2, .int (zi ((n : Int))), .int (zi (th)), .int (zi (wc))])), (h1, .inl (cA, 12, .inl (zA (hs)))), (h2, .inl (cA, 12, .inl (zA (rs)))), (h3, .inr (0, [.long (zl ((((p_sum hs rs wall frm to (k - 1)).1 : Nat) : Int))), .long (zl ((((p_sum hs rs wall frm to (k - 1)).2 : Nat) : Int)))]))] H → va_D A [(h0, .inr (1, [.ref h1, .ref h2, .int (zi ((n : Int))), .int (zi (th)), .int (zi (wc))])), (h1, .inl (cA, 12, .inl (zA (hs)))), (h2, .inl (cA, 12, .inl (zA (rs)))), (h3, .inr (0, [.long (zl ((((p_sum hs rs wall frm to (k - 1)).1 : Nat) : Int))), .long (zl ((((p_sum hs rs wall frm to (k - 1)).2 : Nat) : Int)))]))] → va_S A s.heap H locs → ∀ (ls : Array Slot), lv_has ls 8 [(5, .int (zi ((k : Int)))), (0, .ref h0), (1, .ref h3), (2, .int (zi (wall))), (3, .int (zi (frm))), (4, .int (zi (to)))] → W p l e rm_X1_addPieces s m args below meth c H locs 0 0 QQ (F0 m 3 ls []) := by
    intro n_
    induction n_ with
    | zero => intro k hk1 hk2 hm_; exact absurd hm_ (Nat.not_lt_zero _)
    | succ n_ ih =>
      intro k hk1 hk2 hm_ H locs hP hD hS ls hl
      refine lv_iload hx hb dX1_addPieces_3 (lv_at hl 0 rfl) ?_
      refine lv_aload_n hx hb dX1_addPieces_5 rfl (lv_at hl 1 rfl) ?_
      refine va_get (D := (dC, dI)) (ci := 1) (v := .int (zi ((n : Int)))) (C := RX1) (T := TX1) (N := 5) hx hb hg inX1 hown hK hP 0 rfl rfl 2 (by decide) (hg _ wl_X1_22) (fun _ h9 => h9) rfl dX1_addPieces_6 ?_
      refine zz_icmp_ge (tgt := 66) hx hb (by omega) (by omega) dX1_addPieces_9 (by decide) (fun c_9 => ?_) (fun c_9 => ?_)
      · have hP9 : va_P (dC, dI) vwCl [(h0, .inr (1, [.ref h1, .ref h2, .int (zi ((n : Int))), .int (zi (th)), .int (zi (wc))])), (h1, .inl (cA, 12, .inl (zA (hs)))), (h2, .inl (cA, 12, .inl (zA (rs)))), (h3, .inr (0, [.long (zl ((((p_sum hs rs wall frm to (n - 1)).1 : Nat) : Int))), .long (zl ((((p_sum hs rs wall frm to (n - 1)).2 : Nat) : Int)))]))] H := by rw [show n - 1 = k - 1 by omega]; exact hP
        rw [hQQ]
        exact wr_v hx hb hr hlocks hP9 hS dX1_addPieces_66
      · refine lv_iload_n hx hb dX1_addPieces_12 rfl (lv_at hl 4 rfl) ?_
        refine lv_aload_n hx hb dX1_addPieces_13 rfl (lv_at hl 1 rfl) ?_
        refine va_get (D := (dC, dI)) (ci := 1) (v := .ref h1) (C := RX1) (T := TX1) (N := 5) hx hb hg inX1 hown hK hP 0 rfl rfl 0 (by decide) (hg _ wl_X1_9) (fun _ h9 => h9) rfl dX1_addPieces_14 ?_
        refine lv_iload hx hb dX1_addPieces_17 (lv_at hl 0 rfl) ?_
        refine lv_iconst (v := zi (1)) hx hb dX1_addPieces_19 rfl ?_
        refine zz_isub hx hb dX1_addPieces_20 ?_
        refine zz_iald hx hb hK hP 1 0 rfl rfl (k - 1) (by omega) (by omega) (by decide) dX1_addPieces_21 ?_
        have hv_1 := hH (k - 1)
        refine va_mmax hx hb (hml.trans hl.1.symm) hown (hg _ wl_X1_34) (hg _ wt_Math_max) (hg _ wi_Math) (hg _ wc_Math_max_II_I) (Nat.le_of_ble_eq_true rfl) (Nat.le_of_ble_eq_true rfl) (Nat.zero_le _) (Nat.zero_le _) dX1_addPieces_22 ?_
        refine zz_topi (z := max (frm) (hs (k - 1))) (zi_max (by omega)) ?_
        refine zz_topi (z := p_lo hs frm k) (congrArg zi rfl) ?_
        refine lv_istore (lv' := [(6, .int (zi (p_lo hs frm k))), (5, .int (zi ((k : Int)))), (0, .ref h0), (1, .ref h3), (2, .int (zi (wall))), (3, .int (zi (frm))), (4, .int (zi (to)))]) hx hb dX1_addPieces_25 hl (by decide) rfl (fun ls hl => ?_)
        refine lv_iload hx hb dX1_addPieces_27 (lv_at hl 6 rfl) ?_
        refine lv_aload_n hx hb dX1_addPieces_29 rfl (lv_at hl 2 rfl) ?_
        refine va_get (D := (dC, dI)) (ci := 1) (v := .ref h1) (C := RX1) (T := TX1) (N := 5) hx hb hg inX1 hown hK hP 0 rfl rfl 0 (by decide) (hg _ wl_X1_9) (fun _ h9 => h9) rfl dX1_addPieces_30 ?_
        refine lv_iload hx hb dX1_addPieces_33 (lv_at hl 1 rfl) ?_
        refine zz_iald hx hb hK hP 1 0 rfl rfl (k) (by omega) (by omega) (by decide) dX1_addPieces_35 ?_
        have hv_2 := hH (k)
        refine va_mmin hx hb (hml.trans hl.1.symm) hown (hg _ wl_X1_60) (hg _ wt_Math_min) (hg _ wi_Math) (hg _ wc_Math_min_II_I) (Nat.le_of_ble_eq_true rfl) (Nat.le_of_ble_eq_true rfl) (Nat.zero_le _) (Nat.zero_le _) dX1_addPieces_36 ?_
        refine zz_topi (z := min (to) (hs (k))) (zi_min (by omega)) ?_
        refine zz_topi (z := p_hi hs to k) (congrArg zi rfl) ?_
        refine lv_istore (lv' := [(7, .int (zi (p_hi hs to k))), (6, .int (zi (p_lo hs frm k))), (5, .int (zi ((k : Int)))), (0, .ref h0), (1, .ref h3), (2, .int (zi (wall))), (3, .int (zi (frm))), (4, .int (zi (to)))]) hx hb dX1_addPieces_39 hl (by decide) rfl (fun ls hl => ?_)
        refine lv_iload hx hb dX1_addPieces_41 (lv_at hl 1 rfl) ?_
        refine lv_iload hx hb dX1_addPieces_43 (lv_at hl 0 rfl) ?_
        refine zz_icmp_ge (tgt := 60) hx hb (by unfold p_lo; omega) (by unfold p_hi; omega) dX1_addPieces_45 (by decide) (fun c_45 => ?_) (fun c_45 => ?_)
        · refine lv_iinc (v := zi (((k : Int)) + (1))) (lv' := [(5, .int (zi (((k : Int)) + (1)))), (7, .int (zi (p_hi hs to k))), (6, .int (zi (p_lo hs frm k))), (0, .ref h0), (1, .ref h3), (2, .int (zi (wall))), (3, .int (zi (frm))), (4, .int (zi (to)))]) hx hb dX1_addPieces_60 hl (k := 2) rfl (zi_add _ _) (by decide) rfl (fun ls hl => ?_)
          refine lv_goto (tgt := 3) hx hb dX1_addPieces_63 (by decide) ?_
          have hst : p_sum hs rs wall frm to (k + 1 - 1) = p_sum hs rs wall frm to (k - 1) := by
            rw [show k + 1 - 1 = (k - 1) + 1 by omega, p_sum, p_step, if_neg (by rw [show k - 1 + 1 = k by omega]; omega)]
          rw [← hst] at hP hD
          exact ih (k + 1) (by omega) (by omega) (by omega) H locs (hP.sub [0, 1, 2, 3] rfl) (hD.sub [0, 1, 2, 3] (by decide) rfl) hS ls (lv_sub hl [0, 3, 4, 5, 6, 7] rfl)
        · have hlh : p_lo hs frm k < p_hi hs to k := by omega
          have hlo1 : hs (k - 1) ≤ p_lo hs frm k := by unfold p_lo; omega
          have hhi1 : p_hi hs to k ≤ hs k := by unfold p_hi; omega
          have hokk : p_ok (p_sum hs rs wall frm to (k - 1)) (p_u hs rs wall (p_lo hs frm k) (p_hi hs to k) k) (p_q hs k) := by
            have := hok (k - 1) (by omega)
            rw [show k - 1 + 1 = k by omega] at this
            exact this hlh
          refine lv_aload_n hx hb dX1_addPieces_48 rfl (lv_at hl 3 rfl) ?_
          refine lv_aload_n hx hb dX1_addPieces_49 rfl (lv_at hl 4 rfl) ?_
          refine lv_iload hx hb dX1_addPieces_50 (lv_at hl 2 rfl) ?_
          refine lv_iload_n hx hb dX1_addPieces_52 rfl (lv_at hl 5 rfl) ?_
          refine lv_iload hx hb dX1_addPieces_53 (lv_at hl 1 rfl) ?_
          refine lv_iload hx hb dX1_addPieces_55 (lv_at hl 0 rfl) ?_
          refine wrV (As := [.ref h3, .int (zi ((k : Int))), .int (zi (wall)), .int (zi (p_lo hs frm k)), .int (zi (p_hi hs to k))]) (rest := []) (n := 5) (ws' := [(h0, .inr (1, [.ref h1, .ref h2, .int (zi ((n : Int))), .int (zi (th)), .int (zi (wc))])), (h1, .inl (cA, 12, .inl (zA (hs)))), (h2, .inl (cA, 12, .inl (zA (rs)))), (h3, .inr (0, [.long (zl ((((fr_add (p_sum hs rs wall frm to (k - 1)) (p_u hs rs wall (p_lo hs frm k) (p_hi hs to k) k) (p_q hs k)).1 : Nat) : Int))), .long (zl ((((fr_add (p_sum hs rs wall frm to (k - 1)) (p_u hs rs wall (p_lo hs frm k) (p_hi hs to k) k) (p_q hs k)).2 : Nat) : Int)))]))]) hx hb hml hown hg (c_X1_addPiece l dC dI H.size h0 h1 h2 cA n th wc hs rs h3 (p_sum hs rs wall frm to (k - 1)) k wall (p_lo hs frm k) (p_hi hs to k) hn hH hR (by omega) hw hlo1 hlh hhi1 hokk) (gwV wl_X1_63 wm_X1_addPiece we_X1_addPiece wi_X1 wc_X1_addPiece) rfl rfl (by decide +kernel) ⟨Nat.le_of_ble_eq_true rfl, Nat.le_of_ble_eq_true rfl⟩ (hK.sub [0] rfl) hP hD hS hA [0, 1, 2, 3] rfl (by decide) [(true, 0), (true, 1), (true, 2), (true, 3)] rfl (by decide) rfl 0 rfl rfl rfl rfl hl.1 rfl (Nat.le_of_ble_eq_true rfl) dX1_addPieces_57 ⟨Nat.zero_le _, Nat.zero_le _⟩ (fun H locs hP hD hS => ?_)
          refine lv_iinc (v := zi (((k : Int)) + (1))) (lv' := [(5, .int (zi (((k : Int)) + (1)))), (7, .int (zi (p_hi hs to k))), (6, .int (zi (p_lo hs frm k))), (0, .ref h0), (1, .ref h3), (2, .int (zi (wall))), (3, .int (zi (frm))), (4, .int (zi (to)))]) hx hb dX1_addPieces_60 hl (k := 2) rfl (zi_add _ _) (by decide) rfl (fun ls hl => ?_)
          refine lv_goto (tgt := 3) hx hb dX1_addPieces_63 (by decide) ?_
          have hst : p_sum hs rs wall frm to (k + 1 - 1) = fr_add (p_sum hs rs wall frm to (k - 1)) (p_u hs rs wall (p_lo hs frm k) (p_hi hs to k) k) (p_q hs k) := by
            rw [show k + 1 - 1 = (k - 1) + 1 by omega, p_sum, p_step, if_pos (by rw [show k - 1 + 1 = k by omega]; exact hlh), show k - 1 + 1 = k by omega]
          rw [← hst] at hP hD
          exact ih (k + 1) (by omega) (by omega) (by omega) H locs (hP.sub [0, 1, 2, 3] rfl) (hD.sub [0, 1, 2, 3] (by decide) rfl) hS ls (lv_sub hl [0, 3, 4, 5, 6, 7] rfl)
  exact key_3 _ 1 (by omega) (by omega) (Nat.lt_succ_self _) H locs (hP.sub [0, 1, 2, 3] rfl) (hD.sub [0, 1, 2, 3] (by decide) rfl) hS ls (lv_sub hl [0, 1, 2, 3, 4, 5] rfl)

abbrev rm_X1_measure : Room := { frames := 5, cells := 0, slots := 0, locals := 140 }
set_option maxHeartbeats 4000000 in
set_option maxRecDepth 100000 in
theorem c_X1_measure (l : Launch) (dC : Nat → ClassId) (dI : Nat → Nat → Nat) (sz : Nat) (h0 h1 h2 : Nat) (cA : ClassId) (n : Nat) (th wc : Int) (hs rs : Nat → Int) (h3 : Nat) (a b : Int) (to : Int) (hn : n ≤ 12) (hH : ∀ j, 0 ≤ hs j ∧ hs j ≤ 400) (hR : ∀ j, 0 ≤ rs j ∧ rs j ≤ 200) (ht9 : -2147483648 ≤ to ∧ to < 2147483648) (hok : p_oks n hs rs 0 0 to) : Met l yX1_measure (Cond.code yX1_measure cX1_measure 3 ((Option.none : Option Jvm.ClassFile.FieldType)) :: gw) rm_X1_measure (PcW [.ref h0, .ref h3, .int (zi (to))] (dC, dI) vwCl [(h0, .inr (1, [.ref h1, .ref h2, .int (zi ((n : Int))), .int (zi (th)), .int (zi (wc))])), (h1, .inl (cA, 12, .inl (zA (hs)))), (h2, .inl (cA, 12, .inl (zA (rs)))), (h3, .inr (0, [.long (zl (a)), .long (zl (b))]))] [(cA, .int)] sz) (WrQ (none) (dC, dI) vwCl [(h0, .inr (1, [.ref h1, .ref h2, .int (zi ((n : Int))), .int (zi (th)), .int (zi (wc))])), (h1, .inl (cA, 12, .inl (zA (hs)))), (h2, .inl (cA, 12, .inl (zA (rs)))), (h3, .inr (0, [.long (zl ((((p_sum hs rs 0 0 to (n - 1)).1 : Nat) : Int))), .long (zl ((((p_sum hs rs 0 0 to (n - 1)).2 : Nat) : Int)))]))] (va_A [(h0, .inr (1, [.ref h1, .ref h2, .int (zi ((n : Int))), .int (zi (th)), .int (zi (wc))])), (h1, .inl (cA, 12, .inl (zA (hs)))), (h2, .inl (cA, 12, .inl (zA (rs)))), (h3, .inr (0, [.long (zl (a)), .long (zl (b))]))] sz)) 0 0 (va_A [(h0, .inr (1, [.ref h1, .ref h2, .int (zi ((n : Int))), .int (zi (th)), .int (zi (wc))])), (h1, .inl (cA, 12, .inl (zA (hs)))), (h2, .inl (cA, 12, .inl (zA (rs)))), (h3, .inr (0, [.long (zl (a)), .long (zl (b))]))] sz) := by
  refine Met.ofW (cc := cX1_measure) (maxL := 3) (ret := ((Option.none : Option Jvm.ClassFile.FieldType))) (by decide) rfl ?_
  intro p e s m args below meth c s₁ B hml hv
  obtain ⟨hargs, hsz, hP, hK, hD0⟩ := hv
  have hx := B.exec
  have hb := B.bytes
  have hr := B.returns
  have hts := atoms_spec (ws := Cond.code yX1_measure cX1_measure 3 ((Option.none : Option Jvm.ClassFile.FieldType)) :: gw) B.pre
  have hg : ∀ w ∈ gw, w.before args s = true := fun w h => hts w (List.mem_cons_of_mem _ h)
  have hown : s.vm.findClass RX1 = some m.cls := findClass_of_methodNamed B.named
  have hlocks := B.notSynchronized
  subst hsz
  have hD := hD0.self (sz := s.heap.size)
  generalize hAe : va_A [(h0, .inr (1, [.ref h1, .ref h2, .int (zi ((n : Int))), .int (zi (th)), .int (zi (wc))])), (h1, .inl (cA, 12, .inl (zA (hs)))), (h2, .inl (cA, 12, .inl (zA (rs)))), (h3, .inr (0, [.long (zl (a)), .long (zl (b))]))] s.heap.size = A at hD ⊢
  have hA : ∀ q : Nat, s.heap.size ≤ q → A q := fun q h => by rw [← hAe]; exact Or.inr h
  show W p l e rm_X1_measure s m args below meth c s.heap [] 0 0 _ _
  have hl := lv_entry ([.ref h0, .ref h3, .int (zi (to))]) (n := 3) (Nat.le_of_ble_eq_true rfl)
  rw [show entryFrame m args 3 = entryFrame m ([.ref h0, .ref h3, .int (zi (to))] : List Value).toArray 3 by rw [hargs], lg_entry_eq]
  generalize (lg_sl ([.ref h0, .ref h3, .int (zi (to))]) ++ List.replicate (3 - (lg_sl ([.ref h0, .ref h3, .int (zi (to))])).length) Slot.unset).toArray = ls at hl ⊢
  have hl : lv_has ls 3 [(0, .ref h0), (1, .ref h3), (2, .int (zi (to)))] := hl
  obtain ⟨QQ, hQQ⟩ : ∃ Q, Q = MQ below (WrQ (none) (dC, dI) vwCl [(h0, .inr (1, [.ref h1, .ref h2, .int (zi ((n : Int))), .int (zi (th)), .int (zi (wc))])), (h1, .inl (cA, 12, .inl (zA (hs)))), (h2, .inl (cA, 12, .inl (zA (rs)))), (h3, .inr (0, [.long (zl ((((p_sum hs rs 0 0 to (n - 1)).1 : Nat) : Int))), .long (zl ((((p_sum hs rs 0 0 to (n - 1)).2 : Nat) : Int)))]))] A) args s 0 0 A := ⟨_, rfl⟩
  rw [← hQQ]
  obtain ⟨H, hHe⟩ : ∃ H : Heap, H = s.heap := ⟨_, rfl⟩
  obtain ⟨locs, hlc⟩ : ∃ x : List Loc, x = [] := ⟨_, rfl⟩
  have hS : va_S A s.heap H locs := by rw [hHe, hlc]; exact va_S.rf
  have hP : va_P (dC, dI) vwCl [(h0, .inr (1, [.ref h1, .ref h2, .int (zi ((n : Int))), .int (zi (th)), .int (zi (wc))])), (h1, .inl (cA, 12, .inl (zA (hs)))), (h2, .inl (cA, 12, .inl (zA (rs)))), (h3, .inr (0, [.long (zl (a)), .long (zl (b))]))] H := by rw [hHe]; exact hP
  have hD : va_D A [(h0, .inr (1, [.ref h1, .ref h2, .int (zi ((n : Int))), .int (zi (th)), .int (zi (wc))])), (h1, .inl (cA, 12, .inl (zA (hs)))), (h2, .inl (cA, 12, .inl (zA (rs)))), (h3, .inr (0, [.long (zl (a)), .long (zl (b))]))] := hD
  rw [← hHe, ← hlc]
  refine lv_aload_n hx hb dX1_measure_0 rfl (lv_at hl 1 rfl) ?_
  refine wrV (As := []) (rest := []) (n := 0) (ws' := [(h0, .inr (1, [.ref h1, .ref h2, .int (zi ((n : Int))), .int (zi (th)), .int (zi (wc))])), (h1, .inl (cA, 12, .inl (zA (hs)))), (h2, .inl (cA, 12, .inl (zA (rs)))), (h3, .inr (0, [.long (zl (((((0, 1)).1 : Nat) : Int))), .long (zl (((((0, 1)).2 : Nat) : Int)))]))]) hx hb hml hown hg (c_X0_clearToZero l dC dI H.size h3 (a) (b)) (gwV wl_X1_48 wm_X0_clearToZero we_X0_clearToZero wi_X0 wc_X0_clearToZero) rfl rfl (by decide +kernel) ⟨Nat.le_of_ble_eq_true rfl, Nat.le_of_ble_eq_true rfl⟩ (hK.sub [] rfl) hP hD hS hA [3] rfl (by decide) [(false, 0), (false, 1), (false, 2), (true, 0)] rfl (by decide) rfl 0 rfl rfl rfl rfl hl.1 rfl (Nat.le_of_ble_eq_true rfl) dX1_measure_1 ⟨Nat.zero_le _, Nat.zero_le _⟩ (fun H locs hP hD hS => ?_)
  refine lv_aload_n hx hb dX1_measure_4 rfl (lv_at hl 0 rfl) ?_
  refine lv_aload_n hx hb dX1_measure_5 rfl (lv_at hl 1 rfl) ?_
  refine lv_iconst (v := zi (0)) hx hb dX1_measure_6 rfl ?_
  refine lv_iconst (v := zi (0)) hx hb dX1_measure_7 rfl ?_
  refine lv_iload_n hx hb dX1_measure_8 rfl (lv_at hl 2 rfl) ?_
  refine wrV (As := [.ref h3, .int (zi (0)), .int (zi (0)), .int (zi (to))]) (rest := []) (n := 4) (ws' := [(h0, .inr (1, [.ref h1, .ref h2, .int (zi ((n : Int))), .int (zi (th)), .int (zi (wc))])), (h1, .inl (cA, 12, .inl (zA (hs)))), (h2, .inl (cA, 12, .inl (zA (rs)))), (h3, .inr (0, [.long (zl ((((p_sum hs rs (0) (0) (to) (n - 1)).1 : Nat) : Int))), .long (zl ((((p_sum hs rs (0) (0) (to) (n - 1)).2 : Nat) : Int)))]))]) hx hb hml hown hg (c_X1_addPieces l dC dI H.size h0 h1 h2 cA n th wc hs rs h3 (0) (0) (to) hn hH hR (by decide) (by decide) ht9 hok) (gwV wl_X1_53 wm_X1_addPieces we_X1_addPieces wi_X1 wc_X1_addPieces) rfl rfl (by decide +kernel) ⟨Nat.le_of_ble_eq_true rfl, Nat.le_of_ble_eq_true rfl⟩ (hK.sub [0] rfl) hP hD hS hA [0, 1, 2, 3] rfl (by decide) [(true, 0), (true, 1), (true, 2), (true, 3)] rfl (by decide) rfl 0 rfl rfl rfl rfl hl.1 rfl (Nat.le_of_ble_eq_true rfl) dX1_measure_9 ⟨Nat.zero_le _, Nat.zero_le _⟩ (fun H locs hP hD hS => ?_)
  have hP9 : va_P (dC, dI) vwCl [(h0, .inr (1, [.ref h1, .ref h2, .int (zi ((n : Int))), .int (zi (th)), .int (zi (wc))])), (h1, .inl (cA, 12, .inl (zA (hs)))), (h2, .inl (cA, 12, .inl (zA (rs)))), (h3, .inr (0, [.long (zl ((((p_sum hs rs 0 0 to (n - 1)).1 : Nat) : Int))), .long (zl ((((p_sum hs rs 0 0 to (n - 1)).2 : Nat) : Int)))]))] H := hP
  rw [hQQ]
  exact wr_v hx hb hr hlocks hP9 hS dX1_measure_12

abbrev rm_X1_measureHeld : Room := { frames := 5, cells := 0, slots := 0, locals := 140 }
set_option maxHeartbeats 4000000 in
set_option maxRecDepth 100000 in
theorem c_X1_measureHeld (l : Launch) (dC : Nat → ClassId) (dI : Nat → Nat → Nat) (sz : Nat) (h0 h1 h2 : Nat) (cA : ClassId) (n : Nat) (th wc : Int) (hs rs : Nat → Int) (h3 : Nat) (a b : Int) (to : Int) (hn : n ≤ 12) (hH : ∀ j, 0 ≤ hs j ∧ hs j ≤ 400) (hR : ∀ j, 0 ≤ rs j ∧ rs j ≤ 200) (hth : 0 ≤ th ∧ th ≤ 50) (ht9 : -2147483648 ≤ to ∧ to < 2147483648) (hok : p_oks n hs rs th (hs 0 + th) to) : Met l yX1_measureHeld (Cond.code yX1_measureHeld cX1_measureHeld 3 ((Option.none : Option Jvm.ClassFile.FieldType)) :: gw) rm_X1_measureHeld (PcW [.ref h0, .ref h3, .int (zi (to))] (dC, dI) vwCl [(h0, .inr (1, [.ref h1, .ref h2, .int (zi ((n : Int))), .int (zi (th)), .int (zi (wc))])), (h1, .inl (cA, 12, .inl (zA (hs)))), (h2, .inl (cA, 12, .inl (zA (rs)))), (h3, .inr (0, [.long (zl (a)), .long (zl (b))]))] [(cA, .int)] sz) (WrQ (none) (dC, dI) vwCl [(h0, .inr (1, [.ref h1, .ref h2, .int (zi ((n : Int))), .int (zi (th)), .int (zi (wc))])), (h1, .inl (cA, 12, .inl (zA (hs)))), (h2, .inl (cA, 12, .inl (zA (rs)))), (h3, .inr (0, [.long (zl ((((p_sum hs rs th (hs 0 + th) to (n - 1)).1 : Nat) : Int))), .long (zl ((((p_sum hs rs th (hs 0 + th) to (n - 1)).2 : Nat) : Int)))]))] (va_A [(h0, .inr (1, [.ref h1, .ref h2, .int (zi ((n : Int))), .int (zi (th)), .int (zi (wc))])), (h1, .inl (cA, 12, .inl (zA (hs)))), (h2, .inl (cA, 12, .inl (zA (rs)))), (h3, .inr (0, [.long (zl (a)), .long (zl (b))]))] sz)) 0 0 (va_A [(h0, .inr (1, [.ref h1, .ref h2, .int (zi ((n : Int))), .int (zi (th)), .int (zi (wc))])), (h1, .inl (cA, 12, .inl (zA (hs)))), (h2, .inl (cA, 12, .inl (zA (rs)))), (h3, .inr (0, [.long (zl (a)), .long (zl (b))]))] sz) := by
  refine Met.ofW (cc := cX1_measureHeld) (maxL := 3) (ret := ((Option.none : Option Jvm.ClassFile.FieldType))) (by decide) rfl ?_
  intro p e s m args below meth c s₁ B hml hv
  obtain ⟨hargs, hsz, hP, hK, hD0⟩ := hv
  have hx := B.exec
  have hb := B.bytes
  have hr := B.returns
  have hts := atoms_spec (ws := Cond.code yX1_measureHeld cX1_measureHeld 3 ((Option.none : Option Jvm.ClassFile.FieldType)) :: gw) B.pre
  have hg : ∀ w ∈ gw, w.before args s = true := fun w h => hts w (List.mem_cons_of_mem _ h)
  have hown : s.vm.findClass RX1 = some m.cls := findClass_of_methodNamed B.named
  have hlocks := B.notSynchronized
  subst hsz
  have hD := hD0.self (sz := s.heap.size)
  generalize hAe : va_A [(h0, .inr (1, [.ref h1, .ref h2, .int (zi ((n : Int))), .int (zi (th)), .int (zi (wc))])), (h1, .inl (cA, 12, .inl (zA (hs)))), (h2, .inl (cA, 12, .inl (zA (rs)))), (h3, .inr (0, [.long (zl (a)), .long (zl (b))]))] s.heap.size = A at hD ⊢
  have hA : ∀ q : Nat, s.heap.size ≤ q → A q := fun q h => by rw [← hAe]; exact Or.inr h
  show W p l e rm_X1_measureHeld s m args below meth c s.heap [] 0 0 _ _
  have hl := lv_entry ([.ref h0, .ref h3, .int (zi (to))]) (n := 3) (Nat.le_of_ble_eq_true rfl)
  rw [show entryFrame m args 3 = entryFrame m ([.ref h0, .ref h3, .int (zi (to))] : List Value).toArray 3 by rw [hargs], lg_entry_eq]
  generalize (lg_sl ([.ref h0, .ref h3, .int (zi (to))]) ++ List.replicate (3 - (lg_sl ([.ref h0, .ref h3, .int (zi (to))])).length) Slot.unset).toArray = ls at hl ⊢
  have hl : lv_has ls 3 [(0, .ref h0), (1, .ref h3), (2, .int (zi (to)))] := hl
  obtain ⟨QQ, hQQ⟩ : ∃ Q, Q = MQ below (WrQ (none) (dC, dI) vwCl [(h0, .inr (1, [.ref h1, .ref h2, .int (zi ((n : Int))), .int (zi (th)), .int (zi (wc))])), (h1, .inl (cA, 12, .inl (zA (hs)))), (h2, .inl (cA, 12, .inl (zA (rs)))), (h3, .inr (0, [.long (zl ((((p_sum hs rs th (hs 0 + th) to (n - 1)).1 : Nat) : Int))), .long (zl ((((p_sum hs rs th (hs 0 + th) to (n - 1)).2 : Nat) : Int)))]))] A) args s 0 0 A := ⟨_, rfl⟩
  rw [← hQQ]
  obtain ⟨H, hHe⟩ : ∃ H : Heap, H = s.heap := ⟨_, rfl⟩
  obtain ⟨locs, hlc⟩ : ∃ x : List Loc, x = [] := ⟨_, rfl⟩
  have hS : va_S A s.heap H locs := by rw [hHe, hlc]; exact va_S.rf
  have hP : va_P (dC, dI) vwCl [(h0, .inr (1, [.ref h1, .ref h2, .int (zi ((n : Int))), .int (zi (th)), .int (zi (wc))])), (h1, .inl (cA, 12, .inl (zA (hs)))), (h2, .inl (cA, 12, .inl (zA (rs)))), (h3, .inr (0, [.long (zl (a)), .long (zl (b))]))] H := by rw [hHe]; exact hP
  have hD : va_D A [(h0, .inr (1, [.ref h1, .ref h2, .int (zi ((n : Int))), .int (zi (th)), .int (zi (wc))])), (h1, .inl (cA, 12, .inl (zA (hs)))), (h2, .inl (cA, 12, .inl (zA (rs)))), (h3, .inr (0, [.long (zl (a)), .long (zl (b))]))] := hD
  rw [← hHe, ← hlc]
  refine lv_aload_n hx hb dX1_measureHeld_0 rfl (lv_at hl 1 rfl) ?_
  refine wrV (As := []) (rest := []) (n := 0) (ws' := [(h0, .inr (1, [.ref h1, .ref h2, .int (zi ((n : Int))), .int (zi (th)), .int (zi (wc))])), (h1, .inl (cA, 12, .inl (zA (hs)))), (h2, .inl (cA, 12, .inl (zA (rs)))), (h3, .inr (0, [.long (zl (((((0, 1)).1 : Nat) : Int))), .long (zl (((((0, 1)).2 : Nat) : Int)))]))]) hx hb hml hown hg (c_X0_clearToZero l dC dI H.size h3 (a) (b)) (gwV wl_X1_48 wm_X0_clearToZero we_X0_clearToZero wi_X0 wc_X0_clearToZero) rfl rfl (by decide +kernel) ⟨Nat.le_of_ble_eq_true rfl, Nat.le_of_ble_eq_true rfl⟩ (hK.sub [] rfl) hP hD hS hA [3] rfl (by decide) [(false, 0), (false, 1), (false, 2), (true, 0)] rfl (by decide) rfl 0 rfl rfl rfl rfl hl.1 rfl (Nat.le_of_ble_eq_true rfl) dX1_measureHeld_1 ⟨Nat.zero_le _, Nat.zero_le _⟩ (fun H locs hP hD hS => ?_)
  refine lv_aload_n hx hb dX1_measureHeld_4 rfl (lv_at hl 0 rfl) ?_
  refine va_get (D := (dC, dI)) (ci := 1) (v := .int (zi ((n : Int)))) (C := RX1) (T := TX1) (N := 5) hx hb hg inX1 hown hK hP 0 rfl rfl 2 (by decide) (hg _ wl_X1_22) (fun _ h9 => h9) rfl dX1_measureHeld_5 ?_
  refine zz_if_le (tgt := 32) hx hb (by omega) dX1_measureHeld_8 (by decide) (fun c_8 => ?_) (fun c_8 => ?_)
  · have hP9 : va_P (dC, dI) vwCl [(h0, .inr (1, [.ref h1, .ref h2, .int (zi ((n : Int))), .int (zi (th)), .int (zi (wc))])), (h1, .inl (cA, 12, .inl (zA (hs)))), (h2, .inl (cA, 12, .inl (zA (rs)))), (h3, .inr (0, [.long (zl ((((p_sum hs rs th (hs 0 + th) to (n - 1)).1 : Nat) : Int))), .long (zl ((((p_sum hs rs th (hs 0 + th) to (n - 1)).2 : Nat) : Int)))]))] H := by rw [show n - 1 = 0 by omega, p_sum]; exact hP
    rw [hQQ]
    exact wr_v hx hb hr hlocks hP9 hS dX1_measureHeld_32
  · refine lv_aload_n hx hb dX1_measureHeld_11 rfl (lv_at hl 0 rfl) ?_
    refine lv_aload_n hx hb dX1_measureHeld_12 rfl (lv_at hl 1 rfl) ?_
    refine lv_aload_n hx hb dX1_measureHeld_13 rfl (lv_at hl 0 rfl) ?_
    refine va_get (D := (dC, dI)) (ci := 1) (v := .int (zi (th))) (C := RX1) (T := TX1) (N := 5) hx hb hg inX1 hown hK hP 0 rfl rfl 3 (by decide) (hg _ wl_X1_57) (fun _ h9 => h9) rfl dX1_measureHeld_14 ?_
    refine lv_aload_n hx hb dX1_measureHeld_17 rfl (lv_at hl 0 rfl) ?_
    refine va_get (D := (dC, dI)) (ci := 1) (v := .ref h1) (C := RX1) (T := TX1) (N := 5) hx hb hg inX1 hown hK hP 0 rfl rfl 0 (by decide) (hg _ wl_X1_9) (fun _ h9 => h9) rfl dX1_measureHeld_18 ?_
    refine lv_iconst (v := zi (0)) hx hb dX1_measureHeld_21 rfl ?_
    refine zz_iald hx hb hK hP 1 0 rfl rfl (0) (by omega) (by omega) (by decide) dX1_measureHeld_22 ?_
    have hv_1 := hH (0)
    refine lv_aload_n hx hb dX1_measureHeld_23 rfl (lv_at hl 0 rfl) ?_
    refine va_get (D := (dC, dI)) (ci := 1) (v := .int (zi (th))) (C := RX1) (T := TX1) (N := 5) hx hb hg inX1 hown hK hP 0 rfl rfl 3 (by decide) (hg _ wl_X1_57) (fun _ h9 => h9) rfl dX1_measureHeld_24 ?_
    refine zz_iadd hx hb dX1_measureHeld_27 ?_
    refine lv_iload_n hx hb dX1_measureHeld_28 rfl (lv_at hl 2 rfl) ?_
    refine wrV (As := [.ref h3, .int (zi (th)), .int (zi ((hs (0)) + (th))), .int (zi (to))]) (rest := []) (n := 4) (ws' := [(h0, .inr (1, [.ref h1, .ref h2, .int (zi ((n : Int))), .int (zi (th)), .int (zi (wc))])), (h1, .inl (cA, 12, .inl (zA (hs)))), (h2, .inl (cA, 12, .inl (zA (rs)))), (h3, .inr (0, [.long (zl ((((p_sum hs rs (th) ((hs (0)) + (th)) (to) (n - 1)).1 : Nat) : Int))), .long (zl ((((p_sum hs rs (th) ((hs (0)) + (th)) (to) (n - 1)).2 : Nat) : Int)))]))]) hx hb hml hown hg (c_X1_addPieces l dC dI H.size h0 h1 h2 cA n th wc hs rs h3 (th) ((hs (0)) + (th)) (to) hn hH hR hth (by omega) ht9 hok) (gwV wl_X1_53 wm_X1_addPieces we_X1_addPieces wi_X1 wc_X1_addPieces) rfl rfl (by decide +kernel) ⟨Nat.le_of_ble_eq_true rfl, Nat.le_of_ble_eq_true rfl⟩ (hK.sub [0] rfl) hP hD hS hA [0, 1, 2, 3] rfl (by decide) [(true, 0), (true, 1), (true, 2), (true, 3)] rfl (by decide) rfl 0 rfl rfl rfl rfl hl.1 rfl (Nat.le_of_ble_eq_true rfl) dX1_measureHeld_29 ⟨Nat.zero_le _, Nat.zero_le _⟩ (fun H locs hP hD hS => ?_)
    have hP9 : va_P (dC, dI) vwCl [(h0, .inr (1, [.ref h1, .ref h2, .int (zi ((n : Int))), .int (zi (th)), .int (zi (wc))])), (h1, .inl (cA, 12, .inl (zA (hs)))), (h2, .inl (cA, 12, .inl (zA (rs)))), (h3, .inr (0, [.long (zl ((((p_sum hs rs th (hs 0 + th) to (n - 1)).1 : Nat) : Int))), .long (zl ((((p_sum hs rs th (hs 0 + th) to (n - 1)).2 : Nat) : Int)))]))] H := hP
    rw [hQQ]
    exact wr_v hx hb hr hlocks hP9 hS dX1_measureHeld_32

abbrev rm_X1_cutAt : Room := { frames := 3, cells := 0, slots := 0, locals := 73 }
set_option maxHeartbeats 4000000 in
set_option maxRecDepth 100000 in
theorem c_X1_cutAt_n (l : Launch) (dC : Nat → ClassId) (dI : Nat → Nat → Nat) (sz : Nat) (h0 h1 h2 : Nat) (cA : ClassId) (n : Nat) (th wc : Int) (hs rs : Nat → Int) (h : Int) (hn : n ≤ 12) (hH : ∀ j, 0 ≤ hs j ∧ hs j ≤ 400) (hR : ∀ j, 0 ≤ rs j ∧ rs j ≤ 200) (hw : wc = 0 ∨ wc = 1) (hh : -2147483648 ≤ h ∧ h < 2147483648) (hy : wc = 1 ∨ n = 0 ∨ h ≤ hs 0 ∨ hs (n - 1) ≤ h) : Met l yX1_cutAt (Cond.code yX1_cutAt cX1_cutAt 4 ((Option.some Jvm.ClassFile.FieldType.boolean)) :: gw) rm_X1_cutAt (PcW [.ref h0, .int (zi (h))] (dC, dI) vwCl [(h0, .inr (1, [.ref h1, .ref h2, .int (zi ((n : Int))), .int (zi (th)), .int (zi (wc))])), (h1, .inl (cA, 12, .inl (zA (hs)))), (h2, .inl (cA, 12, .inl (zA (rs))))] [(cA, .int)] sz) (WrQ (some (.int (zi 0))) (dC, dI) vwCl [(h0, .inr (1, [.ref h1, .ref h2, .int (zi ((n : Int))), .int (zi (th)), .int (zi (wc))])), (h1, .inl (cA, 12, .inl (zA (hs)))), (h2, .inl (cA, 12, .inl (zA (rs))))] (va_A [(h0, .inr (1, [.ref h1, .ref h2, .int (zi ((n : Int))), .int (zi (th)), .int (zi (wc))])), (h1, .inl (cA, 12, .inl (zA (hs)))), (h2, .inl (cA, 12, .inl (zA (rs))))] sz)) 0 0 (va_A [(h0, .inr (1, [.ref h1, .ref h2, .int (zi ((n : Int))), .int (zi (th)), .int (zi (wc))])), (h1, .inl (cA, 12, .inl (zA (hs)))), (h2, .inl (cA, 12, .inl (zA (rs))))] sz) := by
  refine Met.ofW (cc := cX1_cutAt) (maxL := 4) (ret := ((Option.some Jvm.ClassFile.FieldType.boolean))) (by decide) rfl ?_
  intro p e s m args below meth c s₁ B hml hv
  obtain ⟨hargs, hsz, hP, hK, hD0⟩ := hv
  have hx := B.exec
  have hb := B.bytes
  have hr := B.returns
  have hts := atoms_spec (ws := Cond.code yX1_cutAt cX1_cutAt 4 ((Option.some Jvm.ClassFile.FieldType.boolean)) :: gw) B.pre
  have hg : ∀ w ∈ gw, w.before args s = true := fun w h => hts w (List.mem_cons_of_mem _ h)
  have hown : s.vm.findClass RX1 = some m.cls := findClass_of_methodNamed B.named
  have hlocks := B.notSynchronized
  subst hsz
  have hD := hD0.self (sz := s.heap.size)
  generalize hAe : va_A [(h0, .inr (1, [.ref h1, .ref h2, .int (zi ((n : Int))), .int (zi (th)), .int (zi (wc))])), (h1, .inl (cA, 12, .inl (zA (hs)))), (h2, .inl (cA, 12, .inl (zA (rs))))] s.heap.size = A at hD ⊢
  have hA : ∀ q : Nat, s.heap.size ≤ q → A q := fun q h => by rw [← hAe]; exact Or.inr h
  show W p l e rm_X1_cutAt s m args below meth c s.heap [] 0 0 _ _
  have hl := lv_entry ([.ref h0, .int (zi (h))]) (n := 4) (Nat.le_of_ble_eq_true rfl)
  rw [show entryFrame m args 4 = entryFrame m ([.ref h0, .int (zi (h))] : List Value).toArray 4 by rw [hargs], lg_entry_eq]
  generalize (lg_sl ([.ref h0, .int (zi (h))]) ++ List.replicate (4 - (lg_sl ([.ref h0, .int (zi (h))])).length) Slot.unset).toArray = ls at hl ⊢
  have hl : lv_has ls 4 [(0, .ref h0), (1, .int (zi (h)))] := hl
  obtain ⟨QQ, hQQ⟩ : ∃ Q, Q = MQ below (WrQ (some (.int (zi 0))) (dC, dI) vwCl [(h0, .inr (1, [.ref h1, .ref h2, .int (zi ((n : Int))), .int (zi (th)), .int (zi (wc))])), (h1, .inl (cA, 12, .inl (zA (hs)))), (h2, .inl (cA, 12, .inl (zA (rs))))] A) args s 0 0 A := ⟨_, rfl⟩
  rw [← hQQ]
  obtain ⟨H, hHe⟩ : ∃ H : Heap, H = s.heap := ⟨_, rfl⟩
  obtain ⟨locs, hlc⟩ : ∃ x : List Loc, x = [] := ⟨_, rfl⟩
  have hS : va_S A s.heap H locs := by rw [hHe, hlc]; exact va_S.rf
  have hP : va_P (dC, dI) vwCl [(h0, .inr (1, [.ref h1, .ref h2, .int (zi ((n : Int))), .int (zi (th)), .int (zi (wc))])), (h1, .inl (cA, 12, .inl (zA (hs)))), (h2, .inl (cA, 12, .inl (zA (rs))))] H := by rw [hHe]; exact hP
  have hD : va_D A [(h0, .inr (1, [.ref h1, .ref h2, .int (zi ((n : Int))), .int (zi (th)), .int (zi (wc))])), (h1, .inl (cA, 12, .inl (zA (hs)))), (h2, .inl (cA, 12, .inl (zA (rs))))] := hD
  rw [← hHe, ← hlc]
  refine lv_aload_n hx hb dX1_cutAt_0 rfl (lv_at hl 0 rfl) ?_
  refine va_get (D := (dC, dI)) (ci := 1) (v := .int (zi (wc))) (C := RX1) (T := TX1) (N := 5) hx hb hg inX1 hown hK hP 0 rfl rfl 4 (by decide) (hg _ wl_X1_18) (fun _ h9 => h9) rfl dX1_cutAt_1 ?_
  refine zz_if_ne (tgt := 39) hx hb (by omega) dX1_cutAt_4 (by decide) (fun c_4 => ?_) (fun c_4 => ?_)
  · refine lv_iconst (v := zi (0)) hx hb dX1_cutAt_39 rfl ?_
    have hP9 : va_P (dC, dI) vwCl [(h0, .inr (1, [.ref h1, .ref h2, .int (zi ((n : Int))), .int (zi (th)), .int (zi (wc))])), (h1, .inl (cA, 12, .inl (zA (hs)))), (h2, .inl (cA, 12, .inl (zA (rs))))] H := hP
    rw [hQQ]
    exact wr_z hx hb hr hlocks rfl (by first | exact Or.inl rfl | exact Or.inr rfl | omega) hP9 hS dX1_cutAt_40
  · refine lv_aload_n hx hb dX1_cutAt_7 rfl (lv_at hl 0 rfl) ?_
    refine va_get (D := (dC, dI)) (ci := 1) (v := .int (zi ((n : Int)))) (C := RX1) (T := TX1) (N := 5) hx hb hg inX1 hown hK hP 0 rfl rfl 2 (by decide) (hg _ wl_X1_22) (fun _ h9 => h9) rfl dX1_cutAt_8 ?_
    refine zz_if_eq (tgt := 39) hx hb (by omega) dX1_cutAt_11 (by decide) (fun c_11 => ?_) (fun c_11 => ?_)
    · refine lv_iconst (v := zi (0)) hx hb dX1_cutAt_39 rfl ?_
      have hP9 : va_P (dC, dI) vwCl [(h0, .inr (1, [.ref h1, .ref h2, .int (zi ((n : Int))), .int (zi (th)), .int (zi (wc))])), (h1, .inl (cA, 12, .inl (zA (hs)))), (h2, .inl (cA, 12, .inl (zA (rs))))] H := hP
      rw [hQQ]
      exact wr_z hx hb hr hlocks rfl (by first | exact Or.inl rfl | exact Or.inr rfl | omega) hP9 hS dX1_cutAt_40
    · refine lv_iload_n hx hb dX1_cutAt_14 rfl (lv_at hl 1 rfl) ?_
      refine lv_aload_n hx hb dX1_cutAt_15 rfl (lv_at hl 0 rfl) ?_
      refine va_get (D := (dC, dI)) (ci := 1) (v := .ref h1) (C := RX1) (T := TX1) (N := 5) hx hb hg inX1 hown hK hP 0 rfl rfl 0 (by decide) (hg _ wl_X1_9) (fun _ h9 => h9) rfl dX1_cutAt_16 ?_
      refine lv_iconst (v := zi (0)) hx hb dX1_cutAt_19 rfl ?_
      refine zz_iald hx hb hK hP 1 0 rfl rfl (0) (by omega) (by omega) (by decide) dX1_cutAt_20 ?_
      have hv_1 := hH (0)
      refine zz_icmp_le (tgt := 39) hx hb (by omega) (by omega) dX1_cutAt_21 (by decide) (fun c_21 => ?_) (fun c_21 => ?_)
      · refine lv_iconst (v := zi (0)) hx hb dX1_cutAt_39 rfl ?_
        have hP9 : va_P (dC, dI) vwCl [(h0, .inr (1, [.ref h1, .ref h2, .int (zi ((n : Int))), .int (zi (th)), .int (zi (wc))])), (h1, .inl (cA, 12, .inl (zA (hs)))), (h2, .inl (cA, 12, .inl (zA (rs))))] H := hP
        rw [hQQ]
        exact wr_z hx hb hr hlocks rfl (by first | exact Or.inl rfl | exact Or.inr rfl | omega) hP9 hS dX1_cutAt_40
      · refine lv_iload_n hx hb dX1_cutAt_24 rfl (lv_at hl 1 rfl) ?_
        refine lv_aload_n hx hb dX1_cutAt_25 rfl (lv_at hl 0 rfl) ?_
        refine va_get (D := (dC, dI)) (ci := 1) (v := .ref h1) (C := RX1) (T := TX1) (N := 5) hx hb hg inX1 hown hK hP 0 rfl rfl 0 (by decide) (hg _ wl_X1_9) (fun _ h9 => h9) rfl dX1_cutAt_26 ?_
        refine lv_aload_n hx hb dX1_cutAt_29 rfl (lv_at hl 0 rfl) ?_
        refine va_get (D := (dC, dI)) (ci := 1) (v := .int (zi ((n : Int)))) (C := RX1) (T := TX1) (N := 5) hx hb hg inX1 hown hK hP 0 rfl rfl 2 (by decide) (hg _ wl_X1_22) (fun _ h9 => h9) rfl dX1_cutAt_30 ?_
        refine lv_iconst (v := zi (1)) hx hb dX1_cutAt_33 rfl ?_
        refine zz_isub hx hb dX1_cutAt_34 ?_
        refine zz_iald hx hb hK hP 1 0 rfl rfl (n - 1) (by omega) (by omega) (by decide) dX1_cutAt_35 ?_
        have hv_2 := hH (n - 1)
        refine zz_icmp_lt (tgt := 41) hx hb (by omega) (by omega) dX1_cutAt_36 (by decide) (fun c_36 => ?_) (fun c_36 => ?_)
        · exact absurd hy (by omega)
        · refine lv_iconst (v := zi (0)) hx hb dX1_cutAt_39 rfl ?_
          have hP9 : va_P (dC, dI) vwCl [(h0, .inr (1, [.ref h1, .ref h2, .int (zi ((n : Int))), .int (zi (th)), .int (zi (wc))])), (h1, .inl (cA, 12, .inl (zA (hs)))), (h2, .inl (cA, 12, .inl (zA (rs))))] H := hP
          rw [hQQ]
          exact wr_z hx hb hr hlocks rfl (by first | exact Or.inl rfl | exact Or.inr rfl | omega) hP9 hS dX1_cutAt_40

set_option maxHeartbeats 4000000 in
set_option maxRecDepth 100000 in
theorem c_X1_cutAt_a (l : Launch) (dC : Nat → ClassId) (dI : Nat → Nat → Nat) (sz : Nat) (h0 h1 h2 : Nat) (cA : ClassId) (n : Nat) (th wc : Int) (hs rs : Nat → Int) (h : Int) (hn : n ≤ 12) (hH : ∀ j, 0 ≤ hs j ∧ hs j ≤ 400) (hR : ∀ j, 0 ≤ rs j ∧ rs j ≤ 200) (hw : wc = 0 ∨ wc = 1) (hh : -2147483648 ≤ h ∧ h < 2147483648) (hy : wc = 0 ∧ 0 < n ∧ hs 0 < h ∧ h < hs (n - 1)) (hc1 : 0 < p_cu hs h n ∧ p_cu hs h n < 12 ∧ hs (p_cu hs h n - 1) ≠ h) : Met l yX1_cutAt (Cond.code yX1_cutAt cX1_cutAt 4 ((Option.some Jvm.ClassFile.FieldType.boolean)) :: gw) rm_X1_cutAt (PcW [.ref h0, .int (zi (h))] (dC, dI) vwCl [(h0, .inr (1, [.ref h1, .ref h2, .int (zi ((n : Int))), .int (zi (th)), .int (zi (wc))])), (h1, .inl (cA, 12, .inl (zA (hs)))), (h2, .inl (cA, 12, .inl (zA (rs))))] [(cA, .int)] sz) (WrQ (some (.int (zi 1))) (dC, dI) vwCl [(h0, .inr (1, [.ref h1, .ref h2, .int (zi (((p_cu hs h n + 1 : Nat) : Int))), .int (zi (th)), .int (zi (1))])), (h1, .inl (cA, 12, .inl (zA (zupd hs (p_cu hs h n) (h))))), (h2, .inl (cA, 12, .inl (zA (zupd rs (p_cu hs h n) (p_radius n hs rs (h))))))] (va_A [(h0, .inr (1, [.ref h1, .ref h2, .int (zi ((n : Int))), .int (zi (th)), .int (zi (wc))])), (h1, .inl (cA, 12, .inl (zA (hs)))), (h2, .inl (cA, 12, .inl (zA (rs))))] sz)) 0 0 (va_A [(h0, .inr (1, [.ref h1, .ref h2, .int (zi ((n : Int))), .int (zi (th)), .int (zi (wc))])), (h1, .inl (cA, 12, .inl (zA (hs)))), (h2, .inl (cA, 12, .inl (zA (rs))))] sz) := by
  refine Met.ofW (cc := cX1_cutAt) (maxL := 4) (ret := ((Option.some Jvm.ClassFile.FieldType.boolean))) (by decide) rfl ?_
  intro p e s m args below meth c s₁ B hml hv
  obtain ⟨hargs, hsz, hP, hK, hD0⟩ := hv
  have hx := B.exec
  have hb := B.bytes
  have hr := B.returns
  have hts := atoms_spec (ws := Cond.code yX1_cutAt cX1_cutAt 4 ((Option.some Jvm.ClassFile.FieldType.boolean)) :: gw) B.pre
  have hg : ∀ w ∈ gw, w.before args s = true := fun w h => hts w (List.mem_cons_of_mem _ h)
  have hown : s.vm.findClass RX1 = some m.cls := findClass_of_methodNamed B.named
  have hlocks := B.notSynchronized
  subst hsz
  have hD := hD0.self (sz := s.heap.size)
  generalize hAe : va_A [(h0, .inr (1, [.ref h1, .ref h2, .int (zi ((n : Int))), .int (zi (th)), .int (zi (wc))])), (h1, .inl (cA, 12, .inl (zA (hs)))), (h2, .inl (cA, 12, .inl (zA (rs))))] s.heap.size = A at hD ⊢
  have hA : ∀ q : Nat, s.heap.size ≤ q → A q := fun q h => by rw [← hAe]; exact Or.inr h
  show W p l e rm_X1_cutAt s m args below meth c s.heap [] 0 0 _ _
  have hl := lv_entry ([.ref h0, .int (zi (h))]) (n := 4) (Nat.le_of_ble_eq_true rfl)
  rw [show entryFrame m args 4 = entryFrame m ([.ref h0, .int (zi (h))] : List Value).toArray 4 by rw [hargs], lg_entry_eq]
  generalize (lg_sl ([.ref h0, .int (zi (h))]) ++ List.replicate (4 - (lg_sl ([.ref h0, .int (zi (h))])).length) Slot.unset).toArray = ls at hl ⊢
  have hl : lv_has ls 4 [(0, .ref h0), (1, .int (zi (h)))] := hl
  obtain ⟨QQ, hQQ⟩ : ∃ Q, Q = MQ below (WrQ (some (.int (zi 1))) (dC, dI) vwCl [(h0, .inr (1, [.ref h1, .ref h2, .int (zi (((p_cu hs h n + 1 : Nat) : Int))), .int (zi (th)), .int (zi (1))])), (h1, .inl (cA, 12, .inl (zA (zupd hs (p_cu hs h n) (h))))), (h2, .inl (cA, 12, .inl (zA (zupd rs (p_cu hs h n) (p_radius n hs rs (h))))))] A) args s 0 0 A := ⟨_, rfl⟩
  rw [← hQQ]
  obtain ⟨H, hHe⟩ : ∃ H : Heap, H = s.heap := ⟨_, rfl⟩
  obtain ⟨locs, hlc⟩ : ∃ x : List Loc, x = [] := ⟨_, rfl⟩
  have hS : va_S A s.heap H locs := by rw [hHe, hlc]; exact va_S.rf
  have hP : va_P (dC, dI) vwCl [(h0, .inr (1, [.ref h1, .ref h2, .int (zi ((n : Int))), .int (zi (th)), .int (zi (wc))])), (h1, .inl (cA, 12, .inl (zA (hs)))), (h2, .inl (cA, 12, .inl (zA (rs))))] H := by rw [hHe]; exact hP
  have hD : va_D A [(h0, .inr (1, [.ref h1, .ref h2, .int (zi ((n : Int))), .int (zi (th)), .int (zi (wc))])), (h1, .inl (cA, 12, .inl (zA (hs)))), (h2, .inl (cA, 12, .inl (zA (rs))))] := hD
  rw [← hHe, ← hlc]
  have hcu := p_cu_le hs h n
  refine lv_aload_n hx hb dX1_cutAt_0 rfl (lv_at hl 0 rfl) ?_
  refine va_get (D := (dC, dI)) (ci := 1) (v := .int (zi (wc))) (C := RX1) (T := TX1) (N := 5) hx hb hg inX1 hown hK hP 0 rfl rfl 4 (by decide) (hg _ wl_X1_18) (fun _ h9 => h9) rfl dX1_cutAt_1 ?_
  refine zz_if_ne (tgt := 39) hx hb (by omega) dX1_cutAt_4 (by decide) (fun c_4 => ?_) (fun c_4 => ?_)
  · exact (c_4 (by omega)).elim
  · refine lv_aload_n hx hb dX1_cutAt_7 rfl (lv_at hl 0 rfl) ?_
    refine va_get (D := (dC, dI)) (ci := 1) (v := .int (zi ((n : Int)))) (C := RX1) (T := TX1) (N := 5) hx hb hg inX1 hown hK hP 0 rfl rfl 2 (by decide) (hg _ wl_X1_22) (fun _ h9 => h9) rfl dX1_cutAt_8 ?_
    refine zz_if_eq (tgt := 39) hx hb (by omega) dX1_cutAt_11 (by decide) (fun c_11 => ?_) (fun c_11 => ?_)
    · exact absurd hy (by omega)
    · refine lv_iload_n hx hb dX1_cutAt_14 rfl (lv_at hl 1 rfl) ?_
      refine lv_aload_n hx hb dX1_cutAt_15 rfl (lv_at hl 0 rfl) ?_
      refine va_get (D := (dC, dI)) (ci := 1) (v := .ref h1) (C := RX1) (T := TX1) (N := 5) hx hb hg inX1 hown hK hP 0 rfl rfl 0 (by decide) (hg _ wl_X1_9) (fun _ h9 => h9) rfl dX1_cutAt_16 ?_
      refine lv_iconst (v := zi (0)) hx hb dX1_cutAt_19 rfl ?_
      refine zz_iald hx hb hK hP 1 0 rfl rfl (0) (by omega) (by omega) (by decide) dX1_cutAt_20 ?_
      have hv_1 := hH (0)
      refine zz_icmp_le (tgt := 39) hx hb (by omega) (by omega) dX1_cutAt_21 (by decide) (fun c_21 => ?_) (fun c_21 => ?_)
      · exact absurd hy (by omega)
      · refine lv_iload_n hx hb dX1_cutAt_24 rfl (lv_at hl 1 rfl) ?_
        refine lv_aload_n hx hb dX1_cutAt_25 rfl (lv_at hl 0 rfl) ?_
        refine va_get (D := (dC, dI)) (ci := 1) (v := .ref h1) (C := RX1) (T := TX1) (N := 5) hx hb hg inX1 hown hK hP 0 rfl rfl 0 (by decide) (hg _ wl_X1_9) (fun _ h9 => h9) rfl dX1_cutAt_26 ?_
        refine lv_aload_n hx hb dX1_cutAt_29 rfl (lv_at hl 0 rfl) ?_
        refine va_get (D := (dC, dI)) (ci := 1) (v := .int (zi ((n : Int)))) (C := RX1) (T := TX1) (N := 5) hx hb hg inX1 hown hK hP 0 rfl rfl 2 (by decide) (hg _ wl_X1_22) (fun _ h9 => h9) rfl dX1_cutAt_30 ?_
        refine lv_iconst (v := zi (1)) hx hb dX1_cutAt_33 rfl ?_
        refine zz_isub hx hb dX1_cutAt_34 ?_
        refine zz_iald hx hb hK hP 1 0 rfl rfl (n - 1) (by omega) (by omega) (by decide) dX1_cutAt_35 ?_
        have hv_2 := hH (n - 1)
        refine zz_icmp_lt (tgt := 41) hx hb (by omega) (by omega) dX1_cutAt_36 (by decide) (fun c_36 => ?_) (fun c_36 => ?_)
        · refine lv_aload_n hx hb dX1_cutAt_41 rfl (lv_at hl 0 rfl) ?_
          refine lv_iload_n hx hb dX1_cutAt_42 rfl (lv_at hl 1 rfl) ?_
          refine rdV (As := [.int (zi (h))]) (rest := []) (n := 1) hx hb hml hown hg (c_X1_radiusAt l dC dI h0 h1 h2 cA n th wc hs rs (h) hn hH hR hh) (gwV wl_X1_44 wm_X1_radiusAt we_X1_radiusAt wi_X1 wc_X1_radiusAt) rfl rfl (by decide +kernel) ⟨Nat.le_of_ble_eq_true rfl, Nat.le_of_ble_eq_true rfl⟩ (hK.sub [0] rfl) (hP.sub [0, 1, 2] rfl) 0 rfl rfl rfl rfl hl.1 rfl (Nat.le_of_ble_eq_true rfl) dX1_cutAt_43 ⟨Nat.zero_le _, Nat.zero_le _⟩ ?_
          refine lv_istore_n (lv' := [(2, .int (zi (p_radius n hs rs (h)))), (0, .ref h0), (1, .int (zi (h)))]) hx hb dX1_cutAt_46 rfl hl (by decide) rfl (fun ls hl => ?_)
          refine lv_aload_n hx hb dX1_cutAt_47 rfl (lv_at hl 1 rfl) ?_
          refine lv_iload_n hx hb dX1_cutAt_48 rfl (lv_at hl 2 rfl) ?_
          refine rdV (As := [.int (zi (h))]) (rest := []) (n := 1) hx hb hml hown hg (c_X1_countUpTo l dC dI h0 h1 h2 cA n th wc hs rs (h) hn hH hR hh) (gwV wl_X1_73 wm_X1_countUpTo we_X1_countUpTo wi_X1 wc_X1_countUpTo) rfl rfl (by decide +kernel) ⟨Nat.le_of_ble_eq_true rfl, Nat.le_of_ble_eq_true rfl⟩ (hK.sub [0] rfl) (hP.sub [0, 1, 2] rfl) 0 rfl rfl rfl rfl hl.1 rfl (Nat.le_of_ble_eq_true rfl) dX1_cutAt_49 ⟨Nat.zero_le _, Nat.zero_le _⟩ ?_
          refine lv_istore_n (lv' := [(3, .int (zi (((p_cu hs (h) n : Nat) : Int)))), (2, .int (zi (p_radius n hs rs (h)))), (0, .ref h0), (1, .int (zi (h)))]) hx hb dX1_cutAt_52 rfl hl (by decide) rfl (fun ls hl => ?_)
          refine lv_aload_n hx hb dX1_cutAt_53 rfl (lv_at hl 2 rfl) ?_
          refine lv_iconst (v := zi (1)) hx hb dX1_cutAt_54 rfl ?_
          refine va_put (D := (dC, dI)) (ci := 1) (v := .int (zi (1))) (ty := .boolean) (C := RX1) (T := TX1) (N := 5) hx hb hg inX1 tyX1 tyX1_ok nmX1 hown hK hP hD hS 0 rfl rfl 4 (by decide) (hg _ wl_X1_18) (fun _ h9 => h9) rfl (by decide +kernel) rfl rfl (Nat.le_of_ble_eq_true rfl) dX1_cutAt_55 (fun H locs hP hD hS => ?_)
          have hP : va_P (dC, dI) vwCl [(h0, .inr (1, [.ref h1, .ref h2, .int (zi ((n : Int))), .int (zi (th)), .int (zi (1))])), (h1, .inl (cA, 12, .inl (zA (hs)))), (h2, .inl (cA, 12, .inl (zA (rs))))] H := hP
          have hD : va_D A [(h0, .inr (1, [.ref h1, .ref h2, .int (zi ((n : Int))), .int (zi (th)), .int (zi (1))])), (h1, .inl (cA, 12, .inl (zA (hs)))), (h2, .inl (cA, 12, .inl (zA (rs))))] := hD
          refine lv_iload_n hx hb dX1_cutAt_58 rfl (lv_at hl 0 rfl) ?_
          refine zz_if_le (tgt := 97) hx hb (by omega) dX1_cutAt_59 (by decide) (fun c_59 => ?_) (fun c_59 => ?_)
          · exact absurd hc1 (by omega)
          · refine lv_iload_n hx hb dX1_cutAt_62 rfl (lv_at hl 0 rfl) ?_
            refine lv_bipush (v := zi (12)) hx hb dX1_cutAt_63 (by decide) ?_
            refine zz_icmp_ge (tgt := 97) hx hb (by omega) (by omega) dX1_cutAt_65 (by decide) (fun c_65 => ?_) (fun c_65 => ?_)
            · exact absurd hc1 (by omega)
            · refine lv_aload_n hx hb dX1_cutAt_68 rfl (lv_at hl 2 rfl) ?_
              refine va_get (D := (dC, dI)) (ci := 1) (v := .ref h1) (C := RX1) (T := TX1) (N := 5) hx hb hg inX1 hown hK hP 0 rfl rfl 0 (by decide) (hg _ wl_X1_9) (fun _ h9 => h9) rfl dX1_cutAt_69 ?_
              refine lv_iload_n hx hb dX1_cutAt_72 rfl (lv_at hl 0 rfl) ?_
              refine lv_iconst (v := zi (1)) hx hb dX1_cutAt_73 rfl ?_
              refine zz_isub hx hb dX1_cutAt_74 ?_
              refine zz_iald hx hb hK hP 1 0 rfl rfl (p_cu hs h n - 1) (by omega) (by omega) (by decide) dX1_cutAt_75 ?_
              have hv_3 := hH (p_cu hs h n - 1)
              refine lv_iload_n hx hb dX1_cutAt_76 rfl (lv_at hl 3 rfl) ?_
              refine zz_icmp_eq (tgt := 97) hx hb (by omega) (by omega) dX1_cutAt_77 (by decide) (fun c_77 => ?_) (fun c_77 => ?_)
              · exact absurd hc1 (by omega)
              · refine lv_aload_n hx hb dX1_cutAt_80 rfl (lv_at hl 2 rfl) ?_
                refine va_get (D := (dC, dI)) (ci := 1) (v := .ref h1) (C := RX1) (T := TX1) (N := 5) hx hb hg inX1 hown hK hP 0 rfl rfl 0 (by decide) (hg _ wl_X1_9) (fun _ h9 => h9) rfl dX1_cutAt_81 ?_
                refine lv_iload_n hx hb dX1_cutAt_84 rfl (lv_at hl 0 rfl) ?_
                refine lv_iload_n hx hb dX1_cutAt_85 rfl (lv_at hl 3 rfl) ?_
                refine zz_iast hx hb hK hP hD hS 1 0 rfl rfl (p_cu hs h n) (by omega) (by omega) (by decide) dX1_cutAt_86 (fun H locs hP hD hS => ?_)
                have hP : va_P (dC, dI) vwCl [(h0, .inr (1, [.ref h1, .ref h2, .int (zi ((n : Int))), .int (zi (th)), .int (zi (1))])), (h1, .inl (cA, 12, .inl (zA (zupd hs (p_cu hs h n) (h))))), (h2, .inl (cA, 12, .inl (zA (rs))))] H := hP
                have hD : va_D A [(h0, .inr (1, [.ref h1, .ref h2, .int (zi ((n : Int))), .int (zi (th)), .int (zi (1))])), (h1, .inl (cA, 12, .inl (zA (zupd hs (p_cu hs h n) (h))))), (h2, .inl (cA, 12, .inl (zA (rs))))] := hD
                refine lv_aload_n hx hb dX1_cutAt_87 rfl (lv_at hl 2 rfl) ?_
                refine va_get (D := (dC, dI)) (ci := 1) (v := .ref h2) (C := RX1) (T := TX1) (N := 5) hx hb hg inX1 hown hK hP 0 rfl rfl 1 (by decide) (hg _ wl_X1_15) (fun _ h9 => h9) rfl dX1_cutAt_88 ?_
                refine lv_iload_n hx hb dX1_cutAt_91 rfl (lv_at hl 0 rfl) ?_
                refine lv_iload_n hx hb dX1_cutAt_92 rfl (lv_at hl 1 rfl) ?_
                refine zz_iast hx hb hK hP hD hS 2 0 rfl rfl (p_cu hs h n) (by omega) (by omega) (by decide) dX1_cutAt_93 (fun H locs hP hD hS => ?_)
                have hP : va_P (dC, dI) vwCl [(h0, .inr (1, [.ref h1, .ref h2, .int (zi ((n : Int))), .int (zi (th)), .int (zi (1))])), (h1, .inl (cA, 12, .inl (zA (zupd hs (p_cu hs h n) (h))))), (h2, .inl (cA, 12, .inl (zA (zupd rs (p_cu hs h n) (p_radius n hs rs (h))))))] H := hP
                have hD : va_D A [(h0, .inr (1, [.ref h1, .ref h2, .int (zi ((n : Int))), .int (zi (th)), .int (zi (1))])), (h1, .inl (cA, 12, .inl (zA (zupd hs (p_cu hs h n) (h))))), (h2, .inl (cA, 12, .inl (zA (zupd rs (p_cu hs h n) (p_radius n hs rs (h))))))] := hD
                refine lv_iinc (v := zi ((((p_cu hs (h) n : Nat) : Int)) + (1))) (lv' := [(3, .int (zi ((((p_cu hs (h) n : Nat) : Int)) + (1)))), (2, .int (zi (p_radius n hs rs (h)))), (0, .ref h0), (1, .int (zi (h)))]) hx hb dX1_cutAt_94 hl (k := 0) rfl (zi_add _ _) (by decide) rfl (fun ls hl => ?_)
                refine lv_aload_n hx hb dX1_cutAt_97 rfl (lv_at hl 2 rfl) ?_
                refine lv_iload_n hx hb dX1_cutAt_98 rfl (lv_at hl 0 rfl) ?_
                refine va_put (D := (dC, dI)) (ci := 1) (v := .int (zi ((((p_cu hs (h) n : Nat) : Int)) + (1)))) (ty := .int) (C := RX1) (T := TX1) (N := 5) hx hb hg inX1 tyX1 tyX1_ok nmX1 hown hK hP hD hS 0 rfl rfl 2 (by decide) (hg _ wl_X1_22) (fun _ h9 => h9) rfl (by decide +kernel) rfl rfl (Nat.le_of_ble_eq_true rfl) dX1_cutAt_99 (fun H locs hP hD hS => ?_)
                have hP : va_P (dC, dI) vwCl [(h0, .inr (1, [.ref h1, .ref h2, .int (zi ((((p_cu hs (h) n : Nat) : Int)) + (1))), .int (zi (th)), .int (zi (1))])), (h1, .inl (cA, 12, .inl (zA (zupd hs (p_cu hs h n) (h))))), (h2, .inl (cA, 12, .inl (zA (zupd rs (p_cu hs h n) (p_radius n hs rs (h))))))] H := hP
                have hD : va_D A [(h0, .inr (1, [.ref h1, .ref h2, .int (zi ((((p_cu hs (h) n : Nat) : Int)) + (1))), .int (zi (th)), .int (zi (1))])), (h1, .inl (cA, 12, .inl (zA (zupd hs (p_cu hs h n) (h))))), (h2, .inl (cA, 12, .inl (zA (zupd rs (p_cu hs h n) (p_radius n hs rs (h))))))] := hD
                refine lv_iconst (v := zi (1)) hx hb dX1_cutAt_102 rfl ?_
                have hP9 : va_P (dC, dI) vwCl [(h0, .inr (1, [.ref h1, .ref h2, .int (zi (((p_cu hs h n + 1 : Nat) : Int))), .int (zi (th)), .int (zi (1))])), (h1, .inl (cA, 12, .inl (zA (zupd hs (p_cu hs h n) (h))))), (h2, .inl (cA, 12, .inl (zA (zupd rs (p_cu hs h n) (p_radius n hs rs (h))))))] H := hP
                rw [hQQ]
                exact wr_z hx hb hr hlocks rfl (by first | exact Or.inl rfl | exact Or.inr rfl | omega) hP9 hS dX1_cutAt_103
        · exact absurd hy (by omega)

set_option maxHeartbeats 4000000 in
set_option maxRecDepth 100000 in
theorem c_X1_cutAt_b (l : Launch) (dC : Nat → ClassId) (dI : Nat → Nat → Nat) (sz : Nat) (h0 h1 h2 : Nat) (cA : ClassId) (n : Nat) (th wc : Int) (hs rs : Nat → Int) (h : Int) (hn : n ≤ 12) (hH : ∀ j, 0 ≤ hs j ∧ hs j ≤ 400) (hR : ∀ j, 0 ≤ rs j ∧ rs j ≤ 200) (hw : wc = 0 ∨ wc = 1) (hh : -2147483648 ≤ h ∧ h < 2147483648) (hy : wc = 0 ∧ 0 < n ∧ hs 0 < h ∧ h < hs (n - 1)) (hc1 : ¬ (0 < p_cu hs h n ∧ p_cu hs h n < 12 ∧ hs (p_cu hs h n - 1) ≠ h)) : Met l yX1_cutAt (Cond.code yX1_cutAt cX1_cutAt 4 ((Option.some Jvm.ClassFile.FieldType.boolean)) :: gw) rm_X1_cutAt (PcW [.ref h0, .int (zi (h))] (dC, dI) vwCl [(h0, .inr (1, [.ref h1, .ref h2, .int (zi ((n : Int))), .int (zi (th)), .int (zi (wc))])), (h1, .inl (cA, 12, .inl (zA (hs)))), (h2, .inl (cA, 12, .inl (zA (rs))))] [(cA, .int)] sz) (WrQ (some (.int (zi 1))) (dC, dI) vwCl [(h0, .inr (1, [.ref h1, .ref h2, .int (zi (((p_cu hs h n : Nat) : Int))), .int (zi (th)), .int (zi (1))])), (h1, .inl (cA, 12, .inl (zA (hs)))), (h2, .inl (cA, 12, .inl (zA (rs))))] (va_A [(h0, .inr (1, [.ref h1, .ref h2, .int (zi ((n : Int))), .int (zi (th)), .int (zi (wc))])), (h1, .inl (cA, 12, .inl (zA (hs)))), (h2, .inl (cA, 12, .inl (zA (rs))))] sz)) 0 0 (va_A [(h0, .inr (1, [.ref h1, .ref h2, .int (zi ((n : Int))), .int (zi (th)), .int (zi (wc))])), (h1, .inl (cA, 12, .inl (zA (hs)))), (h2, .inl (cA, 12, .inl (zA (rs))))] sz) := by
  refine Met.ofW (cc := cX1_cutAt) (maxL := 4) (ret := ((Option.some Jvm.ClassFile.FieldType.boolean))) (by decide) rfl ?_
  intro p e s m args below meth c s₁ B hml hv
  obtain ⟨hargs, hsz, hP, hK, hD0⟩ := hv
  have hx := B.exec
  have hb := B.bytes
  have hr := B.returns
  have hts := atoms_spec (ws := Cond.code yX1_cutAt cX1_cutAt 4 ((Option.some Jvm.ClassFile.FieldType.boolean)) :: gw) B.pre
  have hg : ∀ w ∈ gw, w.before args s = true := fun w h => hts w (List.mem_cons_of_mem _ h)
  have hown : s.vm.findClass RX1 = some m.cls := findClass_of_methodNamed B.named
  have hlocks := B.notSynchronized
  subst hsz
  have hD := hD0.self (sz := s.heap.size)
  generalize hAe : va_A [(h0, .inr (1, [.ref h1, .ref h2, .int (zi ((n : Int))), .int (zi (th)), .int (zi (wc))])), (h1, .inl (cA, 12, .inl (zA (hs)))), (h2, .inl (cA, 12, .inl (zA (rs))))] s.heap.size = A at hD ⊢
  have hA : ∀ q : Nat, s.heap.size ≤ q → A q := fun q h => by rw [← hAe]; exact Or.inr h
  show W p l e rm_X1_cutAt s m args below meth c s.heap [] 0 0 _ _
  have hl := lv_entry ([.ref h0, .int (zi (h))]) (n := 4) (Nat.le_of_ble_eq_true rfl)
  rw [show entryFrame m args 4 = entryFrame m ([.ref h0, .int (zi (h))] : List Value).toArray 4 by rw [hargs], lg_entry_eq]
  generalize (lg_sl ([.ref h0, .int (zi (h))]) ++ List.replicate (4 - (lg_sl ([.ref h0, .int (zi (h))])).length) Slot.unset).toArray = ls at hl ⊢
  have hl : lv_has ls 4 [(0, .ref h0), (1, .int (zi (h)))] := hl
  obtain ⟨QQ, hQQ⟩ : ∃ Q, Q = MQ below (WrQ (some (.int (zi 1))) (dC, dI) vwCl [(h0, .inr (1, [.ref h1, .ref h2, .int (zi (((p_cu hs h n : Nat) : Int))), .int (zi (th)), .int (zi (1))])), (h1, .inl (cA, 12, .inl (zA (hs)))), (h2, .inl (cA, 12, .inl (zA (rs))))] A) args s 0 0 A := ⟨_, rfl⟩
  rw [← hQQ]
  obtain ⟨H, hHe⟩ : ∃ H : Heap, H = s.heap := ⟨_, rfl⟩
  obtain ⟨locs, hlc⟩ : ∃ x : List Loc, x = [] := ⟨_, rfl⟩
  have hS : va_S A s.heap H locs := by rw [hHe, hlc]; exact va_S.rf
  have hP : va_P (dC, dI) vwCl [(h0, .inr (1, [.ref h1, .ref h2, .int (zi ((n : Int))), .int (zi (th)), .int (zi (wc))])), (h1, .inl (cA, 12, .inl (zA (hs)))), (h2, .inl (cA, 12, .inl (zA (rs))))] H := by rw [hHe]; exact hP
  have hD : va_D A [(h0, .inr (1, [.ref h1, .ref h2, .int (zi ((n : Int))), .int (zi (th)), .int (zi (wc))])), (h1, .inl (cA, 12, .inl (zA (hs)))), (h2, .inl (cA, 12, .inl (zA (rs))))] := hD
  rw [← hHe, ← hlc]
  have hcu := p_cu_le hs h n
  refine lv_aload_n hx hb dX1_cutAt_0 rfl (lv_at hl 0 rfl) ?_
  refine va_get (D := (dC, dI)) (ci := 1) (v := .int (zi (wc))) (C := RX1) (T := TX1) (N := 5) hx hb hg inX1 hown hK hP 0 rfl rfl 4 (by decide) (hg _ wl_X1_18) (fun _ h9 => h9) rfl dX1_cutAt_1 ?_
  refine zz_if_ne (tgt := 39) hx hb (by omega) dX1_cutAt_4 (by decide) (fun c_4 => ?_) (fun c_4 => ?_)
  · exact (c_4 (by omega)).elim
  · refine lv_aload_n hx hb dX1_cutAt_7 rfl (lv_at hl 0 rfl) ?_
    refine va_get (D := (dC, dI)) (ci := 1) (v := .int (zi ((n : Int)))) (C := RX1) (T := TX1) (N := 5) hx hb hg inX1 hown hK hP 0 rfl rfl 2 (by decide) (hg _ wl_X1_22) (fun _ h9 => h9) rfl dX1_cutAt_8 ?_
    refine zz_if_eq (tgt := 39) hx hb (by omega) dX1_cutAt_11 (by decide) (fun c_11 => ?_) (fun c_11 => ?_)
    · exact absurd hy (by omega)
    · refine lv_iload_n hx hb dX1_cutAt_14 rfl (lv_at hl 1 rfl) ?_
      refine lv_aload_n hx hb dX1_cutAt_15 rfl (lv_at hl 0 rfl) ?_
      refine va_get (D := (dC, dI)) (ci := 1) (v := .ref h1) (C := RX1) (T := TX1) (N := 5) hx hb hg inX1 hown hK hP 0 rfl rfl 0 (by decide) (hg _ wl_X1_9) (fun _ h9 => h9) rfl dX1_cutAt_16 ?_
      refine lv_iconst (v := zi (0)) hx hb dX1_cutAt_19 rfl ?_
      refine zz_iald hx hb hK hP 1 0 rfl rfl (0) (by omega) (by omega) (by decide) dX1_cutAt_20 ?_
      have hv_1 := hH (0)
      refine zz_icmp_le (tgt := 39) hx hb (by omega) (by omega) dX1_cutAt_21 (by decide) (fun c_21 => ?_) (fun c_21 => ?_)
      · exact absurd hy (by omega)
      · refine lv_iload_n hx hb dX1_cutAt_24 rfl (lv_at hl 1 rfl) ?_
        refine lv_aload_n hx hb dX1_cutAt_25 rfl (lv_at hl 0 rfl) ?_
        refine va_get (D := (dC, dI)) (ci := 1) (v := .ref h1) (C := RX1) (T := TX1) (N := 5) hx hb hg inX1 hown hK hP 0 rfl rfl 0 (by decide) (hg _ wl_X1_9) (fun _ h9 => h9) rfl dX1_cutAt_26 ?_
        refine lv_aload_n hx hb dX1_cutAt_29 rfl (lv_at hl 0 rfl) ?_
        refine va_get (D := (dC, dI)) (ci := 1) (v := .int (zi ((n : Int)))) (C := RX1) (T := TX1) (N := 5) hx hb hg inX1 hown hK hP 0 rfl rfl 2 (by decide) (hg _ wl_X1_22) (fun _ h9 => h9) rfl dX1_cutAt_30 ?_
        refine lv_iconst (v := zi (1)) hx hb dX1_cutAt_33 rfl ?_
        refine zz_isub hx hb dX1_cutAt_34 ?_
        refine zz_iald hx hb hK hP 1 0 rfl rfl (n - 1) (by omega) (by omega) (by decide) dX1_cutAt_35 ?_
        have hv_2 := hH (n - 1)
        refine zz_icmp_lt (tgt := 41) hx hb (by omega) (by omega) dX1_cutAt_36 (by decide) (fun c_36 => ?_) (fun c_36 => ?_)
        · refine lv_aload_n hx hb dX1_cutAt_41 rfl (lv_at hl 0 rfl) ?_
          refine lv_iload_n hx hb dX1_cutAt_42 rfl (lv_at hl 1 rfl) ?_
          refine rdV (As := [.int (zi (h))]) (rest := []) (n := 1) hx hb hml hown hg (c_X1_radiusAt l dC dI h0 h1 h2 cA n th wc hs rs (h) hn hH hR hh) (gwV wl_X1_44 wm_X1_radiusAt we_X1_radiusAt wi_X1 wc_X1_radiusAt) rfl rfl (by decide +kernel) ⟨Nat.le_of_ble_eq_true rfl, Nat.le_of_ble_eq_true rfl⟩ (hK.sub [0] rfl) (hP.sub [0, 1, 2] rfl) 0 rfl rfl rfl rfl hl.1 rfl (Nat.le_of_ble_eq_true rfl) dX1_cutAt_43 ⟨Nat.zero_le _, Nat.zero_le _⟩ ?_
          refine lv_istore_n (lv' := [(2, .int (zi (p_radius n hs rs (h)))), (0, .ref h0), (1, .int (zi (h)))]) hx hb dX1_cutAt_46 rfl hl (by decide) rfl (fun ls hl => ?_)
          refine lv_aload_n hx hb dX1_cutAt_47 rfl (lv_at hl 1 rfl) ?_
          refine lv_iload_n hx hb dX1_cutAt_48 rfl (lv_at hl 2 rfl) ?_
          refine rdV (As := [.int (zi (h))]) (rest := []) (n := 1) hx hb hml hown hg (c_X1_countUpTo l dC dI h0 h1 h2 cA n th wc hs rs (h) hn hH hR hh) (gwV wl_X1_73 wm_X1_countUpTo we_X1_countUpTo wi_X1 wc_X1_countUpTo) rfl rfl (by decide +kernel) ⟨Nat.le_of_ble_eq_true rfl, Nat.le_of_ble_eq_true rfl⟩ (hK.sub [0] rfl) (hP.sub [0, 1, 2] rfl) 0 rfl rfl rfl rfl hl.1 rfl (Nat.le_of_ble_eq_true rfl) dX1_cutAt_49 ⟨Nat.zero_le _, Nat.zero_le _⟩ ?_
          refine lv_istore_n (lv' := [(3, .int (zi (((p_cu hs (h) n : Nat) : Int)))), (2, .int (zi (p_radius n hs rs (h)))), (0, .ref h0), (1, .int (zi (h)))]) hx hb dX1_cutAt_52 rfl hl (by decide) rfl (fun ls hl => ?_)
          refine lv_aload_n hx hb dX1_cutAt_53 rfl (lv_at hl 2 rfl) ?_
          refine lv_iconst (v := zi (1)) hx hb dX1_cutAt_54 rfl ?_
          refine va_put (D := (dC, dI)) (ci := 1) (v := .int (zi (1))) (ty := .boolean) (C := RX1) (T := TX1) (N := 5) hx hb hg inX1 tyX1 tyX1_ok nmX1 hown hK hP hD hS 0 rfl rfl 4 (by decide) (hg _ wl_X1_18) (fun _ h9 => h9) rfl (by decide +kernel) rfl rfl (Nat.le_of_ble_eq_true rfl) dX1_cutAt_55 (fun H locs hP hD hS => ?_)
          have hP : va_P (dC, dI) vwCl [(h0, .inr (1, [.ref h1, .ref h2, .int (zi ((n : Int))), .int (zi (th)), .int (zi (1))])), (h1, .inl (cA, 12, .inl (zA (hs)))), (h2, .inl (cA, 12, .inl (zA (rs))))] H := hP
          have hD : va_D A [(h0, .inr (1, [.ref h1, .ref h2, .int (zi ((n : Int))), .int (zi (th)), .int (zi (1))])), (h1, .inl (cA, 12, .inl (zA (hs)))), (h2, .inl (cA, 12, .inl (zA (rs))))] := hD
          refine lv_iload_n hx hb dX1_cutAt_58 rfl (lv_at hl 0 rfl) ?_
          refine zz_if_le (tgt := 97) hx hb (by omega) dX1_cutAt_59 (by decide) (fun c_59 => ?_) (fun c_59 => ?_)
          · refine lv_aload_n hx hb dX1_cutAt_97 rfl (lv_at hl 2 rfl) ?_
            refine lv_iload_n hx hb dX1_cutAt_98 rfl (lv_at hl 0 rfl) ?_
            refine va_put (D := (dC, dI)) (ci := 1) (v := .int (zi (((p_cu hs (h) n : Nat) : Int)))) (ty := .int) (C := RX1) (T := TX1) (N := 5) hx hb hg inX1 tyX1 tyX1_ok nmX1 hown hK hP hD hS 0 rfl rfl 2 (by decide) (hg _ wl_X1_22) (fun _ h9 => h9) rfl (by decide +kernel) rfl rfl (Nat.le_of_ble_eq_true rfl) dX1_cutAt_99 (fun H locs hP hD hS => ?_)
            have hP : va_P (dC, dI) vwCl [(h0, .inr (1, [.ref h1, .ref h2, .int (zi (((p_cu hs (h) n : Nat) : Int))), .int (zi (th)), .int (zi (1))])), (h1, .inl (cA, 12, .inl (zA (hs)))), (h2, .inl (cA, 12, .inl (zA (rs))))] H := hP
            have hD : va_D A [(h0, .inr (1, [.ref h1, .ref h2, .int (zi (((p_cu hs (h) n : Nat) : Int))), .int (zi (th)), .int (zi (1))])), (h1, .inl (cA, 12, .inl (zA (hs)))), (h2, .inl (cA, 12, .inl (zA (rs))))] := hD
            refine lv_iconst (v := zi (1)) hx hb dX1_cutAt_102 rfl ?_
            have hP9 : va_P (dC, dI) vwCl [(h0, .inr (1, [.ref h1, .ref h2, .int (zi (((p_cu hs h n : Nat) : Int))), .int (zi (th)), .int (zi (1))])), (h1, .inl (cA, 12, .inl (zA (hs)))), (h2, .inl (cA, 12, .inl (zA (rs))))] H := hP
            rw [hQQ]
            exact wr_z hx hb hr hlocks rfl (by first | exact Or.inl rfl | exact Or.inr rfl | omega) hP9 hS dX1_cutAt_103
          · refine lv_iload_n hx hb dX1_cutAt_62 rfl (lv_at hl 0 rfl) ?_
            refine lv_bipush (v := zi (12)) hx hb dX1_cutAt_63 (by decide) ?_
            refine zz_icmp_ge (tgt := 97) hx hb (by omega) (by omega) dX1_cutAt_65 (by decide) (fun c_65 => ?_) (fun c_65 => ?_)
            · refine lv_aload_n hx hb dX1_cutAt_97 rfl (lv_at hl 2 rfl) ?_
              refine lv_iload_n hx hb dX1_cutAt_98 rfl (lv_at hl 0 rfl) ?_
              refine va_put (D := (dC, dI)) (ci := 1) (v := .int (zi (((p_cu hs (h) n : Nat) : Int)))) (ty := .int) (C := RX1) (T := TX1) (N := 5) hx hb hg inX1 tyX1 tyX1_ok nmX1 hown hK hP hD hS 0 rfl rfl 2 (by decide) (hg _ wl_X1_22) (fun _ h9 => h9) rfl (by decide +kernel) rfl rfl (Nat.le_of_ble_eq_true rfl) dX1_cutAt_99 (fun H locs hP hD hS => ?_)
              have hP : va_P (dC, dI) vwCl [(h0, .inr (1, [.ref h1, .ref h2, .int (zi (((p_cu hs (h) n : Nat) : Int))), .int (zi (th)), .int (zi (1))])), (h1, .inl (cA, 12, .inl (zA (hs)))), (h2, .inl (cA, 12, .inl (zA (rs))))] H := hP
              have hD : va_D A [(h0, .inr (1, [.ref h1, .ref h2, .int (zi (((p_cu hs (h) n : Nat) : Int))), .int (zi (th)), .int (zi (1))])), (h1, .inl (cA, 12, .inl (zA (hs)))), (h2, .inl (cA, 12, .inl (zA (rs))))] := hD
              refine lv_iconst (v := zi (1)) hx hb dX1_cutAt_102 rfl ?_
              have hP9 : va_P (dC, dI) vwCl [(h0, .inr (1, [.ref h1, .ref h2, .int (zi (((p_cu hs h n : Nat) : Int))), .int (zi (th)), .int (zi (1))])), (h1, .inl (cA, 12, .inl (zA (hs)))), (h2, .inl (cA, 12, .inl (zA (rs))))] H := hP
              rw [hQQ]
              exact wr_z hx hb hr hlocks rfl (by first | exact Or.inl rfl | exact Or.inr rfl | omega) hP9 hS dX1_cutAt_103
            · refine lv_aload_n hx hb dX1_cutAt_68 rfl (lv_at hl 2 rfl) ?_
              refine va_get (D := (dC, dI)) (ci := 1) (v := .ref h1) (C := RX1) (T := TX1) (N := 5) hx hb hg inX1 hown hK hP 0 rfl rfl 0 (by decide) (hg _ wl_X1_9) (fun _ h9 => h9) rfl dX1_cutAt_69 ?_
              refine lv_iload_n hx hb dX1_cutAt_72 rfl (lv_at hl 0 rfl) ?_
              refine lv_iconst (v := zi (1)) hx hb dX1_cutAt_73 rfl ?_
              refine zz_isub hx hb dX1_cutAt_74 ?_
              refine zz_iald hx hb hK hP 1 0 rfl rfl (p_cu hs h n - 1) (by omega) (by omega) (by decide) dX1_cutAt_75 ?_
              have hv_3 := hH (p_cu hs h n - 1)
              refine lv_iload_n hx hb dX1_cutAt_76 rfl (lv_at hl 3 rfl) ?_
              refine zz_icmp_eq (tgt := 97) hx hb (by omega) (by omega) dX1_cutAt_77 (by decide) (fun c_77 => ?_) (fun c_77 => ?_)
              · refine lv_aload_n hx hb dX1_cutAt_97 rfl (lv_at hl 2 rfl) ?_
                refine lv_iload_n hx hb dX1_cutAt_98 rfl (lv_at hl 0 rfl) ?_
                refine va_put (D := (dC, dI)) (ci := 1) (v := .int (zi (((p_cu hs (h) n : Nat) : Int)))) (ty := .int) (C := RX1) (T := TX1) (N := 5) hx hb hg inX1 tyX1 tyX1_ok nmX1 hown hK hP hD hS 0 rfl rfl 2 (by decide) (hg _ wl_X1_22) (fun _ h9 => h9) rfl (by decide +kernel) rfl rfl (Nat.le_of_ble_eq_true rfl) dX1_cutAt_99 (fun H locs hP hD hS => ?_)
                have hP : va_P (dC, dI) vwCl [(h0, .inr (1, [.ref h1, .ref h2, .int (zi (((p_cu hs (h) n : Nat) : Int))), .int (zi (th)), .int (zi (1))])), (h1, .inl (cA, 12, .inl (zA (hs)))), (h2, .inl (cA, 12, .inl (zA (rs))))] H := hP
                have hD : va_D A [(h0, .inr (1, [.ref h1, .ref h2, .int (zi (((p_cu hs (h) n : Nat) : Int))), .int (zi (th)), .int (zi (1))])), (h1, .inl (cA, 12, .inl (zA (hs)))), (h2, .inl (cA, 12, .inl (zA (rs))))] := hD
                refine lv_iconst (v := zi (1)) hx hb dX1_cutAt_102 rfl ?_
                have hP9 : va_P (dC, dI) vwCl [(h0, .inr (1, [.ref h1, .ref h2, .int (zi (((p_cu hs h n : Nat) : Int))), .int (zi (th)), .int (zi (1))])), (h1, .inl (cA, 12, .inl (zA (hs)))), (h2, .inl (cA, 12, .inl (zA (rs))))] H := hP
                rw [hQQ]
                exact wr_z hx hb hr hlocks rfl (by first | exact Or.inl rfl | exact Or.inr rfl | omega) hP9 hS dX1_cutAt_103
              · exact absurd (And.intro (by omega) (And.intro (by omega) (by omega))) hc1
        · exact absurd hy (by omega)
