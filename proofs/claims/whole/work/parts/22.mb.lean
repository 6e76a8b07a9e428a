def m_rst (n : Nat) (hs rs : Nat → Int) (h : Int) (k : Nat) (b : Int) : Int := if k + 1 = n ∨ h ≤ hs k ∨ hs (k + 1) ≤ h then (if hs k = h ∧ b < rs k then rs k else b) else Int.tdiv (rs k * (hs (k + 1) - hs k) + (rs (k + 1) - rs k) * (h - hs k)) (hs (k + 1) - hs k)
def m_rad (n : Nat) (hs rs : Nat → Int) (h : Int) : Nat → Nat → Int → Int
  | 0, _, b => b
  | f + 1, k, b => m_rad n hs rs h f (k + 1) (m_rst n hs rs h k b)
theorem m_num {r s d x : Int} (hr : 0 ≤ r ∧ r ≤ 200) (hs : 0 ≤ s ∧ s ≤ 200) (hx : 0 ≤ x ∧ x ≤ d) : 0 ≤ r * d + (s - r) * x ∧ r * d + (s - r) * x ≤ 200 * d := by
  have e : r * d + (s - r) * x = r * (d - x) + s * x := by rw [Int.mul_sub, Int.sub_mul]; omega
  rw [e]
  have h1 := p_mulb (a := r) (b := d - x) (A := 200) (B := d - x) hr (by omega)
  have h2 := p_mulb (a := s) (b := x) (A := 200) (B := x) hs (by omega)
  omega
theorem m_rst_bd {n : Nat} {hs rs : Nat → Int} {h b : Int} {k : Nat} (hR : ∀ j, 0 ≤ rs j ∧ rs j ≤ 200) (hb : -1 ≤ b ∧ b ≤ 200) : -1 ≤ m_rst n hs rs h k b ∧ m_rst n hs rs h k b ≤ 200 := by
  have a := hR k
  unfold m_rst
  split
  · split <;> omega
  · rename_i q
    have hd : 0 < hs (k + 1) - hs k := by omega
    have e := m_num (r := rs k) (s := rs (k + 1)) (d := hs (k + 1) - hs k) (x := h - hs k) (hR k) (hR (k + 1)) (by omega)
    rw [Int.tdiv_eq_ediv_of_nonneg e.1]
    have h3 := Int.ediv_nonneg e.1 (show 0 ≤ hs (k + 1) - hs k by omega)
    have h4 : (rs k * (hs (k + 1) - hs k) + (rs (k + 1) - rs k) * (h - hs k)) / (hs (k + 1) - hs k) ≤ 200 := Int.ediv_le_of_le_mul hd e.2
    omega
def m_add (x : Nat × Nat) (u q : Nat) : Nat × Nat := ((x.1 * (q / Nat.gcd x.2 q) + u * (x.2 / Nat.gcd x.2 q)) / Nat.gcd (x.1 * (q / Nat.gcd x.2 q) + u * (x.2 / Nat.gcd x.2 q)) (x.2 / Nat.gcd x.2 q * q), x.2 / Nat.gcd x.2 q * q / Nat.gcd (x.1 * (q / Nat.gcd x.2 q) + u * (x.2 / Nat.gcd x.2 q)) (x.2 / Nat.gcd x.2 q * q))
def m_ok (x : Nat × Nat) (u q : Nat) : Prop := 0 < x.2 ∧ x.2 < 9223372036854775808 ∧ x.1 * (q / Nat.gcd x.2 q) + u * (x.2 / Nat.gcd x.2 q) < 9223372036854775808 ∧ x.2 / Nat.gcd x.2 q * q < 9223372036854775808
def m_sum (hs rs : Nat → Int) (wall frm to : Int) : Nat → Nat × Nat
  | 0 => (0, 1)
  | j + 1 => if p_lo hs frm (j + 1) < p_hi hs to (j + 1) then m_add (m_sum hs rs wall frm to j) (p_u hs rs wall (p_lo hs frm (j + 1)) (p_hi hs to (j + 1)) (j + 1)) (p_q hs (j + 1)) else m_sum hs rs wall frm to j
def m_oks (n : Nat) (hs rs : Nat → Int) (wall frm to : Int) : Prop := ∀ j, j + 1 < n → p_lo hs frm (j + 1) < p_hi hs to (j + 1) → m_ok (m_sum hs rs wall frm to j) (p_u hs rs wall (p_lo hs frm (j + 1)) (p_hi hs to (j + 1)) (j + 1)) (p_q hs (j + 1))
theorem m_sc {hs rs : Nat → Int} {k : Nat} {wall x : Int} : max 0 (rs k - wall) * (hs (k + 1) - hs k) + (max 0 (rs (k + 1) - wall) - max 0 (rs k - wall)) * (x - hs k) = p_sc hs rs (k + 1) wall x := by
  unfold p_sc
  rw [Nat.add_sub_cancel]
  generalize max 0 (rs k - wall) = r
  generalize max 0 (rs (k + 1) - wall) = t
  rw [Int.sub_mul, Int.mul_sub, Int.mul_sub, Int.mul_sub, Int.mul_sub]
  omega
abbrev rm_X3_profile : Room := { frames := 1, cells := 0, slots := 0, locals := 23 }
set_option maxHeartbeats 4000000 in
set_option maxRecDepth 100000 in
theorem e_profile (l : Launch) (dC : Nat → ClassId) (dI : Nat → Nat → Nat) (sz : Nat) (m0 a1 a2 a3 a4 a5 a6 a7 a8 a9 a10 a11 : Nat) (tw ab be : Int) (mp mb ml mz : Nat) (hmp : mp = 6) : Met l yX3_profile (Cond.code yX3_profile cX3_profile 1 ((Option.some Jvm.ClassFile.FieldType.int)) :: gw) rm_X3_profile (PcW [.ref m0] (dC, dI) vwCl [(m0, .inr (3, [.int (zi (tw)), .int (zi ((mp : Int))), .ref a1, .ref a2, .ref a3, .ref a4, .ref a5, .ref a6, .int (zi ((mb : Int))), .ref a7, .ref a8, .int (zi ((ml : Int))), .ref a9, .ref a10, .int (zi ((mz : Int))), .ref a11, .long (zl (ab)), .long (zl (be))]))] [] sz) (WrQ (some (.int (zi 0))) (dC, dI) vwCl [(m0, .inr (3, [.int (zi (1)), .int (zi ((mp : Int))), .ref a1, .ref a2, .ref a3, .ref a4, .ref a5, .ref a6, .int (zi ((mb : Int))), .ref a7, .ref a8, .int (zi ((ml : Int))), .ref a9, .ref a10, .int (zi ((mz : Int))), .ref a11, .long (zl (ab)), .long (zl (be))]))] (va_A [(m0, .inr (3, [.int (zi (tw)), .int (zi ((mp : Int))), .ref a1, .ref a2, .ref a3, .ref a4, .ref a5, .ref a6, .int (zi ((mb : Int))), .ref a7, .ref a8, .int (zi ((ml : Int))), .ref a9, .ref a10, .int (zi ((mz : Int))), .ref a11, .long (zl (ab)), .long (zl (be))]))] sz)) 0 0 (va_A [(m0, .inr (3, [.int (zi (tw)), .int (zi ((mp : Int))), .ref a1, .ref a2, .ref a3, .ref a4, .ref a5, .ref a6, .int (zi ((mb : Int))), .ref a7, .ref a8, .int (zi ((ml : Int))), .ref a9, .ref a10, .int (zi ((mz : Int))), .ref a11, .long (zl (ab)), .long (zl (be))]))] sz) := by
  refine Met.ofW (cc := cX3_profile) (maxL := 1) (ret := ((Option.some Jvm.ClassFile.FieldType.int))) (by decide) rfl ?_
  intro p e s m args below meth c s₁ B hml hv
  obtain ⟨hargs, hsz, hP, hK, hD0⟩ := hv
  have hx := B.exec
  have hb := B.bytes
  have hr := B.returns
  have hts := atoms_spec (ws := Cond.code yX3_profile cX3_profile 1 ((Option.some Jvm.ClassFile.FieldType.int)) :: gw) B.pre
  have hg : ∀ w ∈ gw, w.before args s = true := fun w h => hts w (List.mem_cons_of_mem _ h)
  have hown : s.vm.findClass RX3 = some m.cls := findClass_of_methodNamed B.named
  have hlocks := B.notSynchronized
  subst hsz
  have hD := hD0.self (sz := s.heap.size)
  generalize hAe : va_A [(m0, .inr (3, [.int (zi (tw)), .int (zi ((mp : Int))), .ref a1, .ref a2, .ref a3, .ref a4, .ref a5, .ref a6, .int (zi ((mb : Int))), .ref a7, .ref a8, .int (zi ((ml : Int))), .ref a9, .ref a10, .int (zi ((mz : Int))), .ref a11, .long (zl (ab)), .long (zl (be))]))] s.heap.size = A at hD ⊢
  have hA : ∀ q : Nat, s.heap.size ≤ q → A q := fun q h => by rw [← hAe]; exact Or.inr h
  show W p l e rm_X3_profile s m args below meth c s.heap [] 0 0 _ _
  have hl := lv_entry ([.ref m0]) (n := 1) (Nat.le_of_ble_eq_true rfl)
  rw [show entryFrame m args 1 = entryFrame m ([.ref m0] : List Value).toArray 1 by rw [hargs], lg_entry_eq]
  generalize (lg_sl ([.ref m0]) ++ List.replicate (1 - (lg_sl ([.ref m0])).length) Slot.unset).toArray = ls at hl ⊢
  have hl : lv_has ls 1 [(0, .ref m0)] := hl
  obtain ⟨QQ, hQQ⟩ : ∃ Q, Q = MQ below (WrQ (some (.int (zi 0))) (dC, dI) vwCl [(m0, .inr (3, [.int (zi (1)), .int (zi ((mp : Int))), .ref a1, .ref a2, .ref a3, .ref a4, .ref a5, .ref a6, .int (zi ((mb : Int))), .ref a7, .ref a8, .int (zi ((ml : Int))), .ref a9, .ref a10, .int (zi ((mz : Int))), .ref a11, .long (zl (ab)), .long (zl (be))]))] A) args s 0 0 A := ⟨_, rfl⟩
  rw [← hQQ]
  obtain ⟨H, hHe⟩ : ∃ H : Heap, H = s.heap := ⟨_, rfl⟩
  obtain ⟨locs, hlc⟩ : ∃ x : List Loc, x = [] := ⟨_, rfl⟩
  have hS : va_S A s.heap H locs := by rw [hHe, hlc]; exact va_S.rf
  have hP : va_P (dC, dI) vwCl [(m0, .inr (3, [.int (zi (tw)), .int (zi ((mp : Int))), .ref a1, .ref a2, .ref a3, .ref a4, .ref a5, .ref a6, .int (zi ((mb : Int))), .ref a7, .ref a8, .int (zi ((ml : Int))), .ref a9, .ref a10, .int (zi ((mz : Int))), .ref a11, .long (zl (ab)), .long (zl (be))]))] H := by rw [hHe]; exact hP
  have hD : va_D A [(m0, .inr (3, [.int (zi (tw)), .int (zi ((mp : Int))), .ref a1, .ref a2, .ref a3, .ref a4, .ref a5, .ref a6, .int (zi ((mb : Int))), .ref a7, .ref a8, .int (zi ((ml : Int))), .ref a9, .ref a10, .int (zi ((mz : Int))), .ref a11, .long (zl (ab)), .long (zl (be))]))] := hD
  rw [← hHe, ← hlc]
  refine lv_aload_n hx hb dX3_profile_0 rfl (lv_at hl 0 rfl) ?_
  refine lv_aload_n hx hb dX3_profile_1 rfl (lv_at hl 0 rfl) ?_
  refine va_get (D := (dC, dI)) (ci := 3) (v := .int (zi ((mp : Int)))) (C := RX3) (T := TX3) (N := 18) hx hb hg inX3 hown hK hP 0 rfl rfl 1 (by decide) (hg _ wl_X3_52) (fun _ h9 => h9) rfl dX3_profile_2 ?_
  refine lv_bipush (v := zi (6)) hx hb dX3_profile_5 (by decide) ?_
  refine zz_icmp_ne (tgt := 14) hx hb (by omega) (by omega) dX3_profile_7 (by decide) (fun c_7 => ?_) (fun c_7 => ?_)
  · exact False.elim (by omega)
  · refine lv_iconst (v := zi (1)) hx hb dX3_profile_10 rfl ?_
    refine lv_goto (tgt := 15) hx hb dX3_profile_11 (by decide) ?_
    refine lv_iconst (v := zi (0)) hx hb dX3_profile_15 rfl ?_
    refine lv_iconst (v := zi (0)) hx hb dX3_profile_16 rfl ?_
    refine wrV (As := [.int (zi (1)), .int (zi (0)), .int (zi (0))]) (rest := []) (n := 3) (ws' := [(m0, .inr (3, [.int (zi (1)), .int (zi ((mp : Int))), .ref a1, .ref a2, .ref a3, .ref a4, .ref a5, .ref a6, .int (zi ((mb : Int))), .ref a7, .ref a8, .int (zi ((ml : Int))), .ref a9, .ref a10, .int (zi ((mz : Int))), .ref a11, .long (zl (ab)), .long (zl (be))]))]) hx hb hml hown hg (c_throwing l dC dI H.size m0 a1 a2 a3 a4 a5 a6 a7 a8 a9 a10 a11 (tw) (ab) (be) mp mb ml mz 1 0 0 (by decide) (by decide) (by decide)) (gwV wl_X3_59 wm_X3_throwing we_X3_throwing wi_X3 wc_X3_throwing) rfl rfl (by decide +kernel) ⟨Nat.le_of_ble_eq_true rfl, Nat.le_of_ble_eq_true rfl⟩ (hK.sub [] rfl) hP hD hS hA [0] rfl (by decide) [(true, 0)] rfl (by decide) rfl 0 rfl rfl rfl rfl hl.1 rfl (Nat.le_of_ble_eq_true rfl) dX3_profile_17 ⟨Nat.zero_le _, Nat.zero_le _⟩ (fun H locs hP hD hS => ?_)
    refine zz_topi (z := 1) (congrArg zi (by decide)) ?_
    refine zz_if_eq (tgt := 25) hx hb (by omega) dX3_profile_20 (by decide) (fun c_20 => ?_) (fun c_20 => ?_)
    · exact absurd c_20 (by decide)
    · refine lv_iconst (v := zi (0)) hx hb dX3_profile_23 rfl ?_
      have hP9 : va_P (dC, dI) vwCl [(m0, .inr (3, [.int (zi (1)), .int (zi ((mp : Int))), .ref a1, .ref a2, .ref a3, .ref a4, .ref a5, .ref a6, .int (zi ((mb : Int))), .ref a7, .ref a8, .int (zi ((ml : Int))), .ref a9, .ref a10, .int (zi ((mz : Int))), .ref a11, .long (zl (ab)), .long (zl (be))]))] H := hP
      rw [hQQ]
      exact wr_i hx hb hr hlocks rfl hP9 hS dX3_profile_24

set_option maxHeartbeats 4000000 in
set_option maxRecDepth 100000 in
theorem k_profile (l : Launch) (dC : Nat → ClassId) (dI : Nat → Nat → Nat) (sz : Nat) (m0 a1 a2 a3 a4 a5 a6 a7 a8 a9 a10 a11 : Nat) (tw ab be : Int) (mp mb ml mz : Nat) (hmp : mp < 6) : Met l yX3_profile (Cond.code yX3_profile cX3_profile 1 ((Option.some Jvm.ClassFile.FieldType.int)) :: gw) rm_X3_profile (PcW [.ref m0] (dC, dI) vwCl [(m0, .inr (3, [.int (zi (tw)), .int (zi ((mp : Int))), .ref a1, .ref a2, .ref a3, .ref a4, .ref a5, .ref a6, .int (zi ((mb : Int))), .ref a7, .ref a8, .int (zi ((ml : Int))), .ref a9, .ref a10, .int (zi ((mz : Int))), .ref a11, .long (zl (ab)), .long (zl (be))]))] [] sz) (WrQ (some (.int (zi (mp : Int)))) (dC, dI) vwCl [(m0, .inr (3, [.int (zi (0)), .int (zi (((mp + 1 : Nat) : Int))), .ref a1, .ref a2, .ref a3, .ref a4, .ref a5, .ref a6, .int (zi ((mb : Int))), .ref a7, .ref a8, .int (zi ((ml : Int))), .ref a9, .ref a10, .int (zi ((mz : Int))), .ref a11, .long (zl (ab)), .long (zl (be))]))] (va_A [(m0, .inr (3, [.int (zi (tw)), .int (zi ((mp : Int))), .ref a1, .ref a2, .ref a3, .ref a4, .ref a5, .ref a6, .int (zi ((mb : Int))), .ref a7, .ref a8, .int (zi ((ml : Int))), .ref a9, .ref a10, .int (zi ((mz : Int))), .ref a11, .long (zl (ab)), .long (zl (be))]))] sz)) 0 0 (va_A [(m0, .inr (3, [.int (zi (tw)), .int (zi ((mp : Int))), .ref a1, .ref a2, .ref a3, .ref a4, .ref a5, .ref a6, .int (zi ((mb : Int))), .ref a7, .ref a8, .int (zi ((ml : Int))), .ref a9, .ref a10, .int (zi ((mz : Int))), .ref a11, .long (zl (ab)), .long (zl (be))]))] sz) := by
  refine Met.ofW (cc := cX3_profile) (maxL := 1) (ret := ((Option.some Jvm.ClassFile.FieldType.int))) (by decide) rfl ?_
  intro p e s m args below meth c s₁ B hml hv
  obtain ⟨hargs, hsz, hP, hK, hD0⟩ := hv
  have hx := B.exec
  have hb := B.bytes
  have hr := B.returns
  have hts := atoms_spec (ws := Cond.code yX3_profile cX3_profile 1 ((Option.some Jvm.ClassFile.FieldType.int)) :: gw) B.pre
  have hg : ∀ w ∈ gw, w.before args s = true := fun w h => hts w (List.mem_cons_of_mem _ h)
  have hown : s.vm.findClass RX3 = some m.cls := findClass_of_methodNamed B.named
  have hlocks := B.notSynchronized
  subst hsz
  have hD := hD0.self (sz := s.heap.size)
  generalize hAe : va_A [(m0, .inr (3, [.int (zi (tw)), .int (zi ((mp : Int))), .ref a1, .ref a2, .ref a3, .ref a4, .ref a5, .ref a6, .int (zi ((mb : Int))), .ref a7, .ref a8, .int (zi ((ml : Int))), .ref a9, .ref a10, .int (zi ((mz : Int))), .ref a11, .long (zl (ab)), .long (zl (be))]))] s.heap.size = A at hD ⊢
  have hA : ∀ q : Nat, s.heap.size ≤ q → A q := fun q h => by rw [← hAe]; exact Or.inr h
  show W p l e rm_X3_profile s m args below meth c s.heap [] 0 0 _ _
  have hl := lv_entry ([.ref m0]) (n := 1) (Nat.le_of_ble_eq_true rfl)
  rw [show entryFrame m args 1 = entryFrame m ([.ref m0] : List Value).toArray 1 by rw [hargs], lg_entry_eq]
  generalize (lg_sl ([.ref m0]) ++ List.replicate (1 - (lg_sl ([.ref m0])).length) Slot.unset).toArray = ls at hl ⊢
  have hl : lv_has ls 1 [(0, .ref m0)] := hl
  obtain ⟨QQ, hQQ⟩ : ∃ Q, Q = MQ below (WrQ (some (.int (zi (mp : Int)))) (dC, dI) vwCl [(m0, .inr (3, [.int (zi (0)), .int (zi (((mp + 1 : Nat) : Int))), .ref a1, .ref a2, .ref a3, .ref a4, .ref a5, .ref a6, .int (zi ((mb : Int))), .ref a7, .ref a8, .int (zi ((ml : Int))), .ref a9, .ref a10, .int (zi ((mz : Int))), .ref a11, .long (zl (ab)), .long (zl (be))]))] A) args s 0 0 A := ⟨_, rfl⟩
  rw [← hQQ]
  obtain ⟨H, hHe⟩ : ∃ H : Heap, H = s.heap := ⟨_, rfl⟩
  obtain ⟨locs, hlc⟩ : ∃ x : List Loc, x = [] := ⟨_, rfl⟩
  have hS : va_S A s.heap H locs := by rw [hHe, hlc]; exact va_S.rf
  have hP : va_P (dC, dI) vwCl [(m0, .inr (3, [.int (zi (tw)), .int (zi ((mp : Int))), .ref a1, .ref a2, .ref a3, .ref a4, .ref a5, .ref a6, .int (zi ((mb : Int))), .ref a7, .ref a8, .int (zi ((ml : Int))), .ref a9, .ref a10, .int (zi ((mz : Int))), .ref a11, .long (zl (ab)), .long (zl (be))]))] H := by rw [hHe]; exact hP
  have hD : va_D A [(m0, .inr (3, [.int (zi (tw)), .int (zi ((mp : Int))), .ref a1, .ref a2, .ref a3, .ref a4, .ref a5, .ref a6, .int (zi ((mb : Int))), .ref a7, .ref a8, .int (zi ((ml : Int))), .ref a9, .ref a10, .int (zi ((mz : Int))), .ref a11, .long (zl (ab)), .long (zl (be))]))] := hD
  rw [← hHe, ← hlc]
  refine lv_aload_n hx hb dX3_profile_0 rfl (lv_at hl 0 rfl) ?_
  refine lv_aload_n hx hb dX3_profile_1 rfl (lv_at hl 0 rfl) ?_
  refine va_get (D := (dC, dI)) (ci := 3) (v := .int (zi ((mp : Int)))) (C := RX3) (T := TX3) (N := 18) hx hb hg inX3 hown hK hP 0 rfl rfl 1 (by decide) (hg _ wl_X3_52) (fun _ h9 => h9) rfl dX3_profile_2 ?_
  refine lv_bipush (v := zi (6)) hx hb dX3_profile_5 (by decide) ?_
  refine zz_icmp_ne (tgt := 14) hx hb (by omega) (by omega) dX3_profile_7 (by decide) (fun c_7 => ?_) (fun c_7 => ?_)
  · refine lv_iconst (v := zi (0)) hx hb dX3_profile_14 rfl ?_
    refine lv_iconst (v := zi (0)) hx hb dX3_profile_15 rfl ?_
    refine lv_iconst (v := zi (0)) hx hb dX3_profile_16 rfl ?_
    refine wrV (As := [.int (zi (0)), .int (zi (0)), .int (zi (0))]) (rest := []) (n := 3) (ws' := [(m0, .inr (3, [.int (zi (0)), .int (zi ((mp : Int))), .ref a1, .ref a2, .ref a3, .ref a4, .ref a5, .ref a6, .int (zi ((mb : Int))), .ref a7, .ref a8, .int (zi ((ml : Int))), .ref a9, .ref a10, .int (zi ((mz : Int))), .ref a11, .long (zl (ab)), .long (zl (be))]))]) hx hb hml hown hg (c_throwing l dC dI H.size m0 a1 a2 a3 a4 a5 a6 a7 a8 a9 a10 a11 (tw) (ab) (be) mp mb ml mz 0 0 0 (by decide) (by decide) (by decide)) (gwV wl_X3_59 wm_X3_throwing we_X3_throwing wi_X3 wc_X3_throwing) rfl rfl (by decide +kernel) ⟨Nat.le_of_ble_eq_true rfl, Nat.le_of_ble_eq_true rfl⟩ (hK.sub [] rfl) hP hD hS hA [0] rfl (by decide) [(true, 0)] rfl (by decide) rfl 0 rfl rfl rfl rfl hl.1 rfl (Nat.le_of_ble_eq_true rfl) dX3_profile_17 ⟨Nat.zero_le _, Nat.zero_le _⟩ (fun H locs hP hD hS => ?_)
    refine zz_topi (z := 0) (congrArg zi (by decide)) ?_
    refine zz_if_eq (tgt := 25) hx hb (by omega) dX3_profile_20 (by decide) (fun c_20 => ?_) (fun c_20 => ?_)
    · refine lv_aload_n hx hb dX3_profile_25 rfl (lv_at hl 0 rfl) ?_
      refine lv_dup hx hb dX3_profile_26 rfl ?_
      refine va_get (D := (dC, dI)) (ci := 3) (v := .int (zi ((mp : Int)))) (C := RX3) (T := TX3) (N := 18) hx hb hg inX3 hown hK hP 0 rfl rfl 1 (by decide) (hg _ wl_X3_52) (fun _ h9 => h9) rfl dX3_profile_27 ?_
      refine lv_iconst (v := zi (1)) hx hb dX3_profile_30 rfl ?_
      refine zz_iadd hx hb dX3_profile_31 ?_
      refine zz_topi (z := ((mp + 1 : Nat) : Int)) (congrArg zi (by push_cast; rfl)) ?_
      refine va_put (D := (dC, dI)) (ci := 3) (v := .int (zi (((mp + 1 : Nat) : Int)))) (ty := .int) (C := RX3) (T := TX3) (N := 18) hx hb hg inX3 tyX3 tyX3_ok nmX3 hown hK hP hD hS 0 rfl rfl 1 (by decide) (hg _ wl_X3_52) (fun _ h9 => h9) rfl (by decide +kernel) rfl rfl (Nat.le_of_ble_eq_true rfl) dX3_profile_32 (fun H locs hP hD hS => ?_)
      have hP : va_P (dC, dI) vwCl [(m0, .inr (3, [.int (zi (0)), .int (zi (((mp + 1 : Nat) : Int))), .ref a1, .ref a2, .ref a3, .ref a4, .ref a5, .ref a6, .int (zi ((mb : Int))), .ref a7, .ref a8, .int (zi ((ml : Int))), .ref a9, .ref a10, .int (zi ((mz : Int))), .ref a11, .long (zl (ab)), .long (zl (be))]))] H := hP
      have hD : va_D A [(m0, .inr (3, [.int (zi (0)), .int (zi (((mp + 1 : Nat) : Int))), .ref a1, .ref a2, .ref a3, .ref a4, .ref a5, .ref a6, .int (zi ((mb : Int))), .ref a7, .ref a8, .int (zi ((ml : Int))), .ref a9, .ref a10, .int (zi ((mz : Int))), .ref a11, .long (zl (ab)), .long (zl (be))]))] := hD
      refine lv_aload_n hx hb dX3_profile_35 rfl (lv_at hl 0 rfl) ?_
      refine va_get (D := (dC, dI)) (ci := 3) (v := .int (zi (((mp + 1 : Nat) : Int)))) (C := RX3) (T := TX3) (N := 18) hx hb hg inX3 hown hK hP 0 rfl rfl 1 (by decide) (hg _ wl_X3_52) (fun _ h9 => h9) rfl dX3_profile_36 ?_
      refine lv_iconst (v := zi (1)) hx hb dX3_profile_39 rfl ?_
      refine zz_isub hx hb dX3_profile_40 ?_
      refine zz_topi (z := ((mp + 1 - 1 : Nat) : Int)) (congrArg zi (by omega)) ?_
      have hP9 : va_P (dC, dI) vwCl [(m0, .inr (3, [.int (zi (0)), .int (zi (((mp + 1 : Nat) : Int))), .ref a1, .ref a2, .ref a3, .ref a4, .ref a5, .ref a6, .int (zi ((mb : Int))), .ref a7, .ref a8, .int (zi ((ml : Int))), .ref a9, .ref a10, .int (zi ((mz : Int))), .ref a11, .long (zl (ab)), .long (zl (be))]))] H := hP
      rw [hQQ]
      exact wr_i hx hb hr hlocks (by omega) hP9 hS dX3_profile_41
    · exact absurd c_20 (by decide)
  · exact False.elim (by omega)

abbrev rm_X3_corner : Room := { frames := 2, cells := 0, slots := 0, locals := 46 }
set_option maxHeartbeats 4000000 in
set_option maxRecDepth 100000 in
theorem e_corner_1 (l : Launch) (dC : Nat → ClassId) (dI : Nat → Nat → Nat) (sz : Nat) (m0 a1 a2 a3 a4 a5 a6 a7 a8 a9 a10 a11 : Nat) (tw ab be : Int) (mp mb ml mz : Nat) (q h r : Int) (hmp : mp ≤ 6) (h_q : -2147483648 ≤ q ∧ q < 2147483648) (h_h : -2147483648 ≤ h ∧ h < 2147483648) (h_r : -2147483648 ≤ r ∧ r < 2147483648) (hbad : ¬ (0 ≤ q ∧ q < (mp : Int))) : Met l yX3_corner (Cond.code yX3_corner cX3_corner 5 ((Option.some Jvm.ClassFile.FieldType.boolean)) :: gw) rm_X3_corner (PcW [.ref m0, .int (zi (q)), .int (zi (h)), .int (zi (r))] (dC, dI) vwCl [(m0, .inr (3, [.int (zi (tw)), .int (zi ((mp : Int))), .ref a1, .ref a2, .ref a3, .ref a4, .ref a5, .ref a6, .int (zi ((mb : Int))), .ref a7, .ref a8, .int (zi ((ml : Int))), .ref a9, .ref a10, .int (zi ((mz : Int))), .ref a11, .long (zl (ab)), .long (zl (be))]))] [] sz) (WrQ (some (.int (zi 0))) (dC, dI) vwCl [(m0, .inr (3, [.int (zi (1)), .int (zi ((mp : Int))), .ref a1, .ref a2, .ref a3, .ref a4, .ref a5, .ref a6, .int (zi ((mb : Int))), .ref a7, .ref a8, .int (zi ((ml : Int))), .ref a9, .ref a10, .int (zi ((mz : Int))), .ref a11, .long (zl (ab)), .long (zl (be))]))] (va_A [(m0, .inr (3, [.int (zi (tw)), .int (zi ((mp : Int))), .ref a1, .ref a2, .ref a3, .ref a4, .ref a5, .ref a6, .int (zi ((mb : Int))), .ref a7, .ref a8, .int (zi ((ml : Int))), .ref a9, .ref a10, .int (zi ((mz : Int))), .ref a11, .long (zl (ab)), .long (zl (be))]))] sz)) 0 0 (va_A [(m0, .inr (3, [.int (zi (tw)), .int (zi ((mp : Int))), .ref a1, .ref a2, .ref a3, .ref a4, .ref a5, .ref a6, .int (zi ((mb : Int))), .ref a7, .ref a8, .int (zi ((ml : Int))), .ref a9, .ref a10, .int (zi ((mz : Int))), .ref a11, .long (zl (ab)), .long (zl (be))]))] sz) := by
  refine Met.ofW (cc := cX3_corner) (maxL := 5) (ret := ((Option.some Jvm.ClassFile.FieldType.boolean))) (by decide) rfl ?_
  intro p e s m args below meth c s₁ B hml hv
  obtain ⟨hargs, hsz, hP, hK, hD0⟩ := hv
  have hx := B.exec
  have hb := B.bytes
  have hr := B.returns
  have hts := atoms_spec (ws := Cond.code yX3_corner cX3_corner 5 ((Option.some Jvm.ClassFile.FieldType.boolean)) :: gw) B.pre
  have hg : ∀ w ∈ gw, w.before args s = true := fun w h => hts w (List.mem_cons_of_mem _ h)
  have hown : s.vm.findClass RX3 = some m.cls := findClass_of_methodNamed B.named
  have hlocks := B.notSynchronized
  subst hsz
  have hD := hD0.self (sz := s.heap.size)
  generalize hAe : va_A [(m0, .inr (3, [.int (zi (tw)), .int (zi ((mp : Int))), .ref a1, .ref a2, .ref a3, .ref a4, .ref a5, .ref a6, .int (zi ((mb : Int))), .ref a7, .ref a8, .int (zi ((ml : Int))), .ref a9, .ref a10, .int (zi ((mz : Int))), .ref a11, .long (zl (ab)), .long (zl (be))]))] s.heap.size = A at hD ⊢
  have hA : ∀ q : Nat, s.heap.size ≤ q → A q := fun q h => by rw [← hAe]; exact Or.inr h
  show W p l e rm_X3_corner s m args below meth c s.heap [] 0 0 _ _
  have hl := lv_entry ([.ref m0, .int (zi (q)), .int (zi (h)), .int (zi (r))]) (n := 5) (Nat.le_of_ble_eq_true rfl)
  rw [show entryFrame m args 5 = entryFrame m ([.ref m0, .int (zi (q)), .int (zi (h)), .int (zi (r))] : List Value).toArray 5 by rw [hargs], lg_entry_eq]
  generalize (lg_sl ([.ref m0, .int (zi (q)), .int (zi (h)), .int (zi (r))]) ++ List.replicate (5 - (lg_sl ([.ref m0, .int (zi (q)), .int (zi (h)), .int (zi (r))])).length) Slot.unset).toArray = ls at hl ⊢
  have hl : lv_has ls 5 [(0, .ref m0), (1, .int (zi (q))), (2, .int (zi (h))), (3, .int (zi (r)))] := hl
  obtain ⟨QQ, hQQ⟩ : ∃ Q, Q = MQ below (WrQ (some (.int (zi 0))) (dC, dI) vwCl [(m0, .inr (3, [.int (zi (1)), .int (zi ((mp : Int))), .ref a1, .ref a2, .ref a3, .ref a4, .ref a5, .ref a6, .int (zi ((mb : Int))), .ref a7, .ref a8, .int (zi ((ml : Int))), .ref a9, .ref a10, .int (zi ((mz : Int))), .ref a11, .long (zl (ab)), .long (zl (be))]))] A) args s 0 0 A := ⟨_, rfl⟩
  rw [← hQQ]
  obtain ⟨H, hHe⟩ : ∃ H : Heap, H = s.heap := ⟨_, rfl⟩
  obtain ⟨locs, hlc⟩ : ∃ x : List Loc, x = [] := ⟨_, rfl⟩
  have hS : va_S A s.heap H locs := by rw [hHe, hlc]; exact va_S.rf
  have hP : va_P (dC, dI) vwCl [(m0, .inr (3, [.int (zi (tw)), .int (zi ((mp : Int))), .ref a1, .ref a2, .ref a3, .ref a4, .ref a5, .ref a6, .int (zi ((mb : Int))), .ref a7, .ref a8, .int (zi ((ml : Int))), .ref a9, .ref a10, .int (zi ((mz : Int))), .ref a11, .long (zl (ab)), .long (zl (be))]))] H := by rw [hHe]; exact hP
  have hD : va_D A [(m0, .inr (3, [.int (zi (tw)), .int (zi ((mp : Int))), .ref a1, .ref a2, .ref a3, .ref a4, .ref a5, .ref a6, .int (zi ((mb : Int))), .ref a7, .ref a8, .int (zi ((ml : Int))), .ref a9, .ref a10, .int (zi ((mz : Int))), .ref a11, .long (zl (ab)), .long (zl (be))]))] := hD
  rw [← hHe, ← hlc]
  refine lv_aload_n hx hb dX3_corner_0 rfl (lv_at hl 0 rfl) ?_
  refine lv_iload_n hx hb dX3_corner_1 rfl (lv_at hl 1 rfl) ?_
  refine rdV (As := [.int (zi (q))]) (rest := []) (n := 1) hx hb hml hown hg (c_X3_isProfile l dC dI m0 a1 a2 a3 a4 a5 a6 a7 a8 a9 a10 a11 (tw) (ab) (be) mp mb ml mz (q) hmp (by omega)) (gwV wl_X3_70 wm_X3_isProfile we_X3_isProfile wi_X3 wc_X3_isProfile) rfl rfl (by decide +kernel) ⟨Nat.le_of_ble_eq_true rfl, Nat.le_of_ble_eq_true rfl⟩ (hK.sub [] rfl) (hP.sub [0] rfl) 0 rfl rfl rfl rfl hl.1 rfl (Nat.le_of_ble_eq_true rfl) dX3_corner_2 ⟨Nat.zero_le _, Nat.zero_le _⟩ ?_
  refine zz_topi (z := 0) (congrArg zi (zb_f (decide_eq_false (by omega)))) ?_
  refine zz_if_ne (tgt := 12) hx hb (by omega) dX3_corner_5 (by decide) (fun c_5 => ?_) (fun c_5 => ?_)
  · exact absurd c_5 (by decide)
  · refine lv_iconst (v := zi (1)) hx hb dX3_corner_8 rfl ?_
    refine lv_goto (tgt := 13) hx hb dX3_corner_9 (by decide) ?_
    refine lv_istore (lv' := [(4, .int (zi (1))), (0, .ref m0), (1, .int (zi (q))), (2, .int (zi (h))), (3, .int (zi (r)))]) hx hb dX3_corner_13 hl (by decide) rfl (fun ls hl => ?_)
    refine lv_aload_n hx hb dX3_corner_15 rfl (lv_at hl 1 rfl) ?_
    refine lv_iload hx hb dX3_corner_16 (lv_at hl 0 rfl) ?_
    refine lv_iload_n hx hb dX3_corner_18 rfl (lv_at hl 3 rfl) ?_
    refine lv_iconst (v := zi (0)) hx hb dX3_corner_19 rfl ?_
    refine lv_sipush (v := zi (400)) hx hb dX3_corner_20 (by decide) ?_
    refine rdS (As := [.int (zi (h)), .int (zi (0)), .int (zi (400))]) (rest := [.int (zi (1)), .ref m0]) (n := 3) hx hb hml hown hg (c_X3_in l (h) (0) (400) (by omega) (by omega) (by omega)) (gwS wl_X3_55 wt_X3_in wi_X3 wc_X3_in) rfl rfl (by decide +kernel) ⟨Nat.le_of_ble_eq_true rfl, Nat.le_of_ble_eq_true rfl⟩ rfl hl.1 rfl (Nat.le_of_ble_eq_true rfl) dX3_corner_23 ⟨Nat.zero_le _, Nat.zero_le _⟩ ?_
    refine zz_zb_eq (tgt := 40) hx hb dX3_corner_26 (by decide) (fun c_26 => ?_) (fun c_26 => ?_)
    · refine lv_iconst (v := zi (1)) hx hb dX3_corner_40 rfl ?_
      refine lv_goto (tgt := 45) hx hb dX3_corner_41 (by decide) ?_
      refine lv_iload hx hb dX3_corner_45 (lv_at hl 0 rfl) ?_
      refine zz_if_ne (tgt := 74) hx hb (by omega) dX3_corner_47 (by decide) (fun c_47 => ?_) (fun c_47 => ?_)
      · refine lv_iconst (v := zi (0)) hx hb dX3_corner_74 rfl ?_
        refine wrV (As := [.int (zi (1)), .int (zi (1)), .int (zi (0))]) (rest := []) (n := 3) (ws' := [(m0, .inr (3, [.int (zi (1)), .int (zi ((mp : Int))), .ref a1, .ref a2, .ref a3, .ref a4, .ref a5, .ref a6, .int (zi ((mb : Int))), .ref a7, .ref a8, .int (zi ((ml : Int))), .ref a9, .ref a10, .int (zi ((mz : Int))), .ref a11, .long (zl (ab)), .long (zl (be))]))]) hx hb hml hown hg (c_throwing l dC dI H.size m0 a1 a2 a3 a4 a5 a6 a7 a8 a9 a10 a11 (tw) (ab) (be) mp mb ml mz 1 1 0 (by decide) (by decide) (by decide)) (gwV wl_X3_59 wm_X3_throwing we_X3_throwing wi_X3 wc_X3_throwing) rfl rfl (by decide +kernel) ⟨Nat.le_of_ble_eq_true rfl, Nat.le_of_ble_eq_true rfl⟩ (hK.sub [] rfl) hP hD hS hA [0] rfl (by decide) [(true, 0)] rfl (by decide) rfl 0 rfl rfl rfl rfl hl.1 rfl (Nat.le_of_ble_eq_true rfl) dX3_corner_75 ⟨Nat.zero_le _, Nat.zero_le _⟩ (fun H locs hP hD hS => ?_)
        refine zz_topi (z := 1) (congrArg zi (by decide)) ?_
        refine zz_if_eq (tgt := 83) hx hb (by omega) dX3_corner_78 (by decide) (fun c_78 => ?_) (fun c_78 => ?_)
        · exact absurd c_78 (by decide)
        · refine lv_iconst (v := zi (0)) hx hb dX3_corner_81 rfl ?_
          have hP9 : va_P (dC, dI) vwCl [(m0, .inr (3, [.int (zi (1)), .int (zi ((mp : Int))), .ref a1, .ref a2, .ref a3, .ref a4, .ref a5, .ref a6, .int (zi ((mb : Int))), .ref a7, .ref a8, .int (zi ((ml : Int))), .ref a9, .ref a10, .int (zi ((mz : Int))), .ref a11, .long (zl (ab)), .long (zl (be))]))] H := hP
          rw [hQQ]
          exact wr_z hx hb hr hlocks rfl (by first | exact Or.inl rfl | exact Or.inr rfl | exact zb_01 _ | omega) hP9 hS dX3_corner_82
      · exact absurd c_47 (by decide)
    · refine lv_iload_n hx hb dX3_corner_29 rfl (lv_at hl 4 rfl) ?_
      refine lv_iconst (v := zi (0)) hx hb dX3_corner_30 rfl ?_
      refine lv_sipush (v := zi (200)) hx hb dX3_corner_31 (by decide) ?_
      refine rdS (As := [.int (zi (r)), .int (zi (0)), .int (zi (200))]) (rest := [.int (zi (1)), .ref m0]) (n := 3) hx hb hml hown hg (c_X3_in l (r) (0) (200) (by omega) (by omega) (by omega)) (gwS wl_X3_55 wt_X3_in wi_X3 wc_X3_in) rfl rfl (by decide +kernel) ⟨Nat.le_of_ble_eq_true rfl, Nat.le_of_ble_eq_true rfl⟩ rfl hl.1 rfl (Nat.le_of_ble_eq_true rfl) dX3_corner_34 ⟨Nat.zero_le _, Nat.zero_le _⟩ ?_
      refine zz_zb_ne (tgt := 44) hx hb dX3_corner_37 (by decide) (fun c_37 => ?_) (fun c_37 => ?_)
      · refine lv_iconst (v := zi (0)) hx hb dX3_corner_44 rfl ?_
        refine lv_iload hx hb dX3_corner_45 (lv_at hl 0 rfl) ?_
        refine zz_if_ne (tgt := 74) hx hb (by omega) dX3_corner_47 (by decide) (fun c_47 => ?_) (fun c_47 => ?_)
        · refine lv_iconst (v := zi (0)) hx hb dX3_corner_74 rfl ?_
          refine wrV (As := [.int (zi (1)), .int (zi (0)), .int (zi (0))]) (rest := []) (n := 3) (ws' := [(m0, .inr (3, [.int (zi (1)), .int (zi ((mp : Int))), .ref a1, .ref a2, .ref a3, .ref a4, .ref a5, .ref a6, .int (zi ((mb : Int))), .ref a7, .ref a8, .int (zi ((ml : Int))), .ref a9, .ref a10, .int (zi ((mz : Int))), .ref a11, .long (zl (ab)), .long (zl (be))]))]) hx hb hml hown hg (c_throwing l dC dI H.size m0 a1 a2 a3 a4 a5 a6 a7 a8 a9 a10 a11 (tw) (ab) (be) mp mb ml mz 1 0 0 (by decide) (by decide) (by decide)) (gwV wl_X3_59 wm_X3_throwing we_X3_throwing wi_X3 wc_X3_throwing) rfl rfl (by decide +kernel) ⟨Nat.le_of_ble_eq_true rfl, Nat.le_of_ble_eq_true rfl⟩ (hK.sub [] rfl) hP hD hS hA [0] rfl (by decide) [(true, 0)] rfl (by decide) rfl 0 rfl rfl rfl rfl hl.1 rfl (Nat.le_of_ble_eq_true rfl) dX3_corner_75 ⟨Nat.zero_le _, Nat.zero_le _⟩ (fun H locs hP hD hS => ?_)
          refine zz_topi (z := 1) (congrArg zi (by decide)) ?_
          refine zz_if_eq (tgt := 83) hx hb (by omega) dX3_corner_78 (by decide) (fun c_78 => ?_) (fun c_78 => ?_)
          · exact absurd c_78 (by decide)
          · refine lv_iconst (v := zi (0)) hx hb dX3_corner_81 rfl ?_
            have hP9 : va_P (dC, dI) vwCl [(m0, .inr (3, [.int (zi (1)), .int (zi ((mp : Int))), .ref a1, .ref a2, .ref a3, .ref a4, .ref a5, .ref a6, .int (zi ((mb : Int))), .ref a7, .ref a8, .int (zi ((ml : Int))), .ref a9, .ref a10, .int (zi ((mz : Int))), .ref a11, .long (zl (ab)), .long (zl (be))]))] H := hP
            rw [hQQ]
            exact wr_z hx hb hr hlocks rfl (by first | exact Or.inl rfl | exact Or.inr rfl | exact zb_01 _ | omega) hP9 hS dX3_corner_82
        · exact absurd c_47 (by decide)
      · refine lv_iconst (v := zi (1)) hx hb dX3_corner_40 rfl ?_
        refine lv_goto (tgt := 45) hx hb dX3_corner_41 (by decide) ?_
        refine lv_iload hx hb dX3_corner_45 (lv_at hl 0 rfl) ?_
        refine zz_if_ne (tgt := 74) hx hb (by omega) dX3_corner_47 (by decide) (fun c_47 => ?_) (fun c_47 => ?_)
        · refine lv_iconst (v := zi (0)) hx hb dX3_corner_74 rfl ?_
          refine wrV (As := [.int (zi (1)), .int (zi (1)), .int (zi (0))]) (rest := []) (n := 3) (ws' := [(m0, .inr (3, [.int (zi (1)), .int (zi ((mp : Int))), .ref a1, .ref a2, .ref a3, .ref a4, .ref a5, .ref a6, .int (zi ((mb : Int))), .ref a7, .ref a8, .int (zi ((ml : Int))), .ref a9, .ref a10, .int (zi ((mz : Int))), .ref a11, .long (zl (ab)), .long (zl (be))]))]) hx hb hml hown hg (c_throwing l dC dI H.size m0 a1 a2 a3 a4 a5 a6 a7 a8 a9 a10 a11 (tw) (ab) (be) mp mb ml mz 1 1 0 (by decide) (by decide) (by decide)) (gwV wl_X3_59 wm_X3_throwing we_X3_throwing wi_X3 wc_X3_throwing) rfl rfl (by decide +kernel) ⟨Nat.le_of_ble_eq_true rfl, Nat.le_of_ble_eq_true rfl⟩ (hK.sub [] rfl) hP hD hS hA [0] rfl (by decide) [(true, 0)] rfl (by decide) rfl 0 rfl rfl rfl rfl hl.1 rfl (Nat.le_of_ble_eq_true rfl) dX3_corner_75 ⟨Nat.zero_le _, Nat.zero_le _⟩ (fun H locs hP hD hS => ?_)
          refine zz_topi (z := 1) (congrArg zi (by decide)) ?_
          refine zz_if_eq (tgt := 83) hx hb (by omega) dX3_corner_78 (by decide) (fun c_78 => ?_) (fun c_78 => ?_)
          · exact absurd c_78 (by decide)
          · refine lv_iconst (v := zi (0)) hx hb dX3_corner_81 rfl ?_
            have hP9 : va_P (dC, dI) vwCl [(m0, .inr (3, [.int (zi (1)), .int (zi ((mp : Int))), .ref a1, .ref a2, .ref a3, .ref a4, .ref a5, .ref a6, .int (zi ((mb : Int))), .ref a7, .ref a8, .int (zi ((ml : Int))), .ref a9, .ref a10, .int (zi ((mz : Int))), .ref a11, .long (zl (ab)), .long (zl (be))]))] H := hP
            rw [hQQ]
            exact wr_z hx hb hr hlocks rfl (by first | exact Or.inl rfl | exact Or.inr rfl | exact zb_01 _ | omega) hP9 hS dX3_corner_82
        · exact absurd c_47 (by decide)

set_option maxHeartbeats 4000000 in
set_option maxRecDepth 100000 in
theorem e_corner_2 (l : Launch) (dC : Nat → ClassId) (dI : Nat → Nat → Nat) (sz : Nat) (m0 a1 a2 a3 a4 a5 a6 a7 a8 a9 a10 a11 : Nat) (tw ab be : Int) (mp mb ml mz : Nat) (cA cZ : ClassId) (j n : Nat) (sf hh rr hs rs : Nat → Int) (cf : Nat → Int) (h r : Int) (hj : j < 6) (hsf : sf j = (n : Int)) (hhs : ∀ k, k < 12 → hh (12 * j + k) = hs k) (hrs : ∀ k, k < 12 → rr (12 * j + k) = rs k) (hn : n ≤ 12) (hH : ∀ j, 0 ≤ hs j ∧ hs j ≤ 400) (hR : ∀ j, 0 ≤ rs j ∧ rs j ≤ 200) (hmp : mp ≤ 6) (hjp : j < mp) (wc : Int) (hcf9 : cf j = wc) (hw : wc = 0 ∨ wc = 1) (h_h : -2147483648 ≤ h ∧ h < 2147483648) (h_r : -2147483648 ≤ r ∧ r < 2147483648) (hbad : ¬ (0 ≤ h ∧ h ≤ 400 ∧ 0 ≤ r ∧ r ≤ 200)) : Met l yX3_corner (Cond.code yX3_corner cX3_corner 5 ((Option.some Jvm.ClassFile.FieldType.boolean)) :: gw) rm_X3_corner (PcW [.ref m0, .int (zi ((j : Int))), .int (zi (h)), .int (zi (r))] (dC, dI) vwCl [(m0, .inr (3, [.int (zi (tw)), .int (zi ((mp : Int))), .ref a1, .ref a2, .ref a3, .ref a4, .ref a5, .ref a6, .int (zi ((mb : Int))), .ref a7, .ref a8, .int (zi ((ml : Int))), .ref a9, .ref a10, .int (zi ((mz : Int))), .ref a11, .long (zl (ab)), .long (zl (be))])), (a1, .inl (cA, 6, .inl (zA (sf)))), (a2, .inl (cA, 72, .inl (zA (hh)))), (a3, .inl (cA, 72, .inl (zA (rr)))), (a4, .inl (cZ, 6, .inl (zA (cf))))] [(cA, .int), (cZ, .boolean)] sz) (WrQ (some (.int (zi 0))) (dC, dI) vwCl [(m0, .inr (3, [.int (zi (2)), .int (zi ((mp : Int))), .ref a1, .ref a2, .ref a3, .ref a4, .ref a5, .ref a6, .int (zi ((mb : Int))), .ref a7, .ref a8, .int (zi ((ml : Int))), .ref a9, .ref a10, .int (zi ((mz : Int))), .ref a11, .long (zl (ab)), .long (zl (be))])), (a1, .inl (cA, 6, .inl (zA (sf)))), (a2, .inl (cA, 72, .inl (zA (hh)))), (a3, .inl (cA, 72, .inl (zA (rr)))), (a4, .inl (cZ, 6, .inl (zA (cf))))] (va_A [(m0, .inr (3, [.int (zi (tw)), .int (zi ((mp : Int))), .ref a1, .ref a2, .ref a3, .ref a4, .ref a5, .ref a6, .int (zi ((mb : Int))), .ref a7, .ref a8, .int (zi ((ml : Int))), .ref a9, .ref a10, .int (zi ((mz : Int))), .ref a11, .long (zl (ab)), .long (zl (be))])), (a1, .inl (cA, 6, .inl (zA (sf)))), (a2, .inl (cA, 72, .inl (zA (hh)))), (a3, .inl (cA, 72, .inl (zA (rr)))), (a4, .inl (cZ, 6, .inl (zA (cf))))] sz)) 0 0 (va_A [(m0, .inr (3, [.int (zi (tw)), .int (zi ((mp : Int))), .ref a1, .ref a2, .ref a3, .ref a4, .ref a5, .ref a6, .int (zi ((mb : Int))), .ref a7, .ref a8, .int (zi ((ml : Int))), .ref a9, .ref a10, .int (zi ((mz : Int))), .ref a11, .long (zl (ab)), .long (zl (be))])), (a1, .inl (cA, 6, .inl (zA (sf)))), (a2, .inl (cA, 72, .inl (zA (hh)))), (a3, .inl (cA, 72, .inl (zA (rr)))), (a4, .inl (cZ, 6, .inl (zA (cf))))] sz) := by
  refine Met.ofW (cc := cX3_corner) (maxL := 5) (ret := ((Option.some Jvm.ClassFile.FieldType.boolean))) (by decide) rfl ?_
  intro p e s m args below meth c s₁ B hml hv
  obtain ⟨hargs, hsz, hP, hK, hD0⟩ := hv
  have hx := B.exec
  have hb := B.bytes
  have hr := B.returns
  have hts := atoms_spec (ws := Cond.code yX3_corner cX3_corner 5 ((Option.some Jvm.ClassFile.FieldType.boolean)) :: gw) B.pre
  have hg : ∀ w ∈ gw, w.before args s = true := fun w h => hts w (List.mem_cons_of_mem _ h)
  have hown : s.vm.findClass RX3 = some m.cls := findClass_of_methodNamed B.named
  have hlocks := B.notSynchronized
  subst hsz
  have hD := hD0.self (sz := s.heap.size)
  generalize hAe : va_A [(m0, .inr (3, [.int (zi (tw)), .int (zi ((mp : Int))), .ref a1, .ref a2, .ref a3, .ref a4, .ref a5, .ref a6, .int (zi ((mb : Int))), .ref a7, .ref a8, .int (zi ((ml : Int))), .ref a9, .ref a10, .int (zi ((mz : Int))), .ref a11, .long (zl (ab)), .long (zl (be))])), (a1, .inl (cA, 6, .inl (zA (sf)))), (a2, .inl (cA, 72, .inl (zA (hh)))), (a3, .inl (cA, 72, .inl (zA (rr)))), (a4, .inl (cZ, 6, .inl (zA (cf))))] s.heap.size = A at hD ⊢
  have hA : ∀ q : Nat, s.heap.size ≤ q → A q := fun q h => by rw [← hAe]; exact Or.inr h
  show W p l e rm_X3_corner s m args below meth c s.heap [] 0 0 _ _
  have hl := lv_entry ([.ref m0, .int (zi ((j : Int))), .int (zi (h)), .int (zi (r))]) (n := 5) (Nat.le_of_ble_eq_true rfl)
  rw [show entryFrame m args 5 = entryFrame m ([.ref m0, .int (zi ((j : Int))), .int (zi (h)), .int (zi (r))] : List Value).toArray 5 by rw [hargs], lg_entry_eq]
  generalize (lg_sl ([.ref m0, .int (zi ((j : Int))), .int (zi (h)), .int (zi (r))]) ++ List.replicate (5 - (lg_sl ([.ref m0, .int (zi ((j : Int))), .int (zi (h)), .int (zi (r))])).length) Slot.unset).toArray = ls at hl ⊢
  have hl : lv_has ls 5 [(0, .ref m0), (1, .int (zi ((j : Int)))), (2, .int (zi (h))), (3, .int (zi (r)))] := hl
  obtain ⟨QQ, hQQ⟩ : ∃ Q, Q = MQ below (WrQ (some (.int (zi 0))) (dC, dI) vwCl [(m0, .inr (3, [.int (zi (2)), .int (zi ((mp : Int))), .ref a1, .ref a2, .ref a3, .ref a4, .ref a5, .ref a6, .int (zi ((mb : Int))), .ref a7, .ref a8, .int (zi ((ml : Int))), .ref a9, .ref a10, .int (zi ((mz : Int))), .ref a11, .long (zl (ab)), .long (zl (be))])), (a1, .inl (cA, 6, .inl (zA (sf)))), (a2, .inl (cA, 72, .inl (zA (hh)))), (a3, .inl (cA, 72, .inl (zA (rr)))), (a4, .inl (cZ, 6, .inl (zA (cf))))] A) args s 0 0 A := ⟨_, rfl⟩
  rw [← hQQ]
  obtain ⟨H, hHe⟩ : ∃ H : Heap, H = s.heap := ⟨_, rfl⟩
  obtain ⟨locs, hlc⟩ : ∃ x : List Loc, x = [] := ⟨_, rfl⟩
  have hS : va_S A s.heap H locs := by rw [hHe, hlc]; exact va_S.rf
  have hP : va_P (dC, dI) vwCl [(m0, .inr (3, [.int (zi (tw)), .int (zi ((mp : Int))), .ref a1, .ref a2, .ref a3, .ref a4, .ref a5, .ref a6, .int (zi ((mb : Int))), .ref a7, .ref a8, .int (zi ((ml : Int))), .ref a9, .ref a10, .int (zi ((mz : Int))), .ref a11, .long (zl (ab)), .long (zl (be))])), (a1, .inl (cA, 6, .inl (zA (sf)))), (a2, .inl (cA, 72, .inl (zA (hh)))), (a3, .inl (cA, 72, .inl (zA (rr)))), (a4, .inl (cZ, 6, .inl (zA (cf))))] H := by rw [hHe]; exact hP
  have hD : va_D A [(m0, .inr (3, [.int (zi (tw)), .int (zi ((mp : Int))), .ref a1, .ref a2, .ref a3, .ref a4, .ref a5, .ref a6, .int (zi ((mb : Int))), .ref a7, .ref a8, .int (zi ((ml : Int))), .ref a9, .ref a10, .int (zi ((mz : Int))), .ref a11, .long (zl (ab)), .long (zl (be))])), (a1, .inl (cA, 6, .inl (zA (sf)))), (a2, .inl (cA, 72, .inl (zA (hh)))), (a3, .inl (cA, 72, .inl (zA (rr)))), (a4, .inl (cZ, 6, .inl (zA (cf))))] := hD
  rw [← hHe, ← hlc]
  refine lv_aload_n hx hb dX3_corner_0 rfl (lv_at hl 0 rfl) ?_
  refine lv_iload_n hx hb dX3_corner_1 rfl (lv_at hl 1 rfl) ?_
  refine rdV (As := [.int (zi ((j : Int)))]) (rest := []) (n := 1) hx hb hml hown hg (c_X3_isProfile l dC dI m0 a1 a2 a3 a4 a5 a6 a7 a8 a9 a10 a11 (tw) (ab) (be) mp mb ml mz ((j : Int)) hmp (by omega)) (gwV wl_X3_70 wm_X3_isProfile we_X3_isProfile wi_X3 wc_X3_isProfile) rfl rfl (by decide +kernel) ⟨Nat.le_of_ble_eq_true rfl, Nat.le_of_ble_eq_true rfl⟩ (hK.sub [] rfl) (hP.sub [0] rfl) 0 rfl rfl rfl rfl hl.1 rfl (Nat.le_of_ble_eq_true rfl) dX3_corner_2 ⟨Nat.zero_le _, Nat.zero_le _⟩ ?_
  refine zz_topi (z := 1) (congrArg zi (zb_t (decide_eq_true (by omega)))) ?_
  refine zz_if_ne (tgt := 12) hx hb (by omega) dX3_corner_5 (by decide) (fun c_5 => ?_) (fun c_5 => ?_)
  · refine lv_iconst (v := zi (0)) hx hb dX3_corner_12 rfl ?_
    refine lv_istore (lv' := [(4, .int (zi (0))), (0, .ref m0), (1, .int (zi ((j : Int)))), (2, .int (zi (h))), (3, .int (zi (r)))]) hx hb dX3_corner_13 hl (by decide) rfl (fun ls hl => ?_)
    refine lv_aload_n hx hb dX3_corner_15 rfl (lv_at hl 1 rfl) ?_
    refine lv_iload hx hb dX3_corner_16 (lv_at hl 0 rfl) ?_
    refine lv_iload_n hx hb dX3_corner_18 rfl (lv_at hl 3 rfl) ?_
    refine lv_iconst (v := zi (0)) hx hb dX3_corner_19 rfl ?_
    refine lv_sipush (v := zi (400)) hx hb dX3_corner_20 (by decide) ?_
    refine rdS (As := [.int (zi (h)), .int (zi (0)), .int (zi (400))]) (rest := [.int (zi (0)), .ref m0]) (n := 3) hx hb hml hown hg (c_X3_in l (h) (0) (400) (by omega) (by omega) (by omega)) (gwS wl_X3_55 wt_X3_in wi_X3 wc_X3_in) rfl rfl (by decide +kernel) ⟨Nat.le_of_ble_eq_true rfl, Nat.le_of_ble_eq_true rfl⟩ rfl hl.1 rfl (Nat.le_of_ble_eq_true rfl) dX3_corner_23 ⟨Nat.zero_le _, Nat.zero_le _⟩ ?_
    refine zz_zb_eq (tgt := 40) hx hb dX3_corner_26 (by decide) (fun c_26 => ?_) (fun c_26 => ?_)
    · refine lv_iconst (v := zi (1)) hx hb dX3_corner_40 rfl ?_
      refine lv_goto (tgt := 45) hx hb dX3_corner_41 (by decide) ?_
      refine lv_iload hx hb dX3_corner_45 (lv_at hl 0 rfl) ?_
      refine zz_if_ne (tgt := 74) hx hb (by omega) dX3_corner_47 (by decide) (fun c_47 => ?_) (fun c_47 => ?_)
      · exact absurd c_47 (by decide)
      · refine lv_aload_n hx hb dX3_corner_50 rfl (lv_at hl 1 rfl) ?_
        refine va_get (D := (dC, dI)) (ci := 3) (v := .ref a1) (C := RX3) (T := TX3) (N := 18) hx hb hg inX3 hown hK hP 0 rfl rfl 2 (by decide) (hg _ wl_X3_7) (fun _ h9 => h9) rfl dX3_corner_51 ?_
        refine lv_iload_n hx hb dX3_corner_54 rfl (lv_at hl 2 rfl) ?_
        refine zz_iald hx hb hK hP 1 0 rfl rfl (j) (by omega) (by omega) (by decide) dX3_corner_55 ?_
        refine zz_topi (z := (n : Int)) (congrArg zi hsf) ?_
        refine lv_bipush (v := zi (12)) hx hb dX3_corner_56 (by decide) ?_
        refine zz_icmp_eq (tgt := 70) hx hb (by omega) (by omega) dX3_corner_58 (by decide) (fun c_58 => ?_) (fun c_58 => ?_)
        · refine lv_iconst (v := zi (1)) hx hb dX3_corner_70 rfl ?_
          refine lv_goto (tgt := 75) hx hb dX3_corner_71 (by decide) ?_
          refine wrV (As := [.int (zi (0)), .int (zi (1)), .int (zi (1))]) (rest := []) (n := 3) (ws' := [(m0, .inr (3, [.int (zi (2)), .int (zi ((mp : Int))), .ref a1, .ref a2, .ref a3, .ref a4, .ref a5, .ref a6, .int (zi ((mb : Int))), .ref a7, .ref a8, .int (zi ((ml : Int))), .ref a9, .ref a10, .int (zi ((mz : Int))), .ref a11, .long (zl (ab)), .long (zl (be))])), (a1, .inl (cA, 6, .inl (zA (sf)))), (a2, .inl (cA, 72, .inl (zA (hh)))), (a3, .inl (cA, 72, .inl (zA (rr)))), (a4, .inl (cZ, 6, .inl (zA (cf))))]) hx hb hml hown hg (c_throwing l dC dI H.size m0 a1 a2 a3 a4 a5 a6 a7 a8 a9 a10 a11 (tw) (ab) (be) mp mb ml mz 0 1 1 (by decide) (by decide) (by decide)) (gwV wl_X3_59 wm_X3_throwing we_X3_throwing wi_X3 wc_X3_throwing) rfl rfl (by decide +kernel) ⟨Nat.le_of_ble_eq_true rfl, Nat.le_of_ble_eq_true rfl⟩ (hK.sub [] rfl) hP hD hS hA [0] rfl (by decide) [(true, 0), (false, 1), (false, 2), (false, 3), (false, 4)] rfl (by decide) rfl 0 rfl rfl rfl rfl hl.1 rfl (Nat.le_of_ble_eq_true rfl) dX3_corner_75 ⟨Nat.zero_le _, Nat.zero_le _⟩ (fun H locs hP hD hS => ?_)
          refine zz_topi (z := 1) (congrArg zi (by decide)) ?_
          refine zz_if_eq (tgt := 83) hx hb (by omega) dX3_corner_78 (by decide) (fun c_78 => ?_) (fun c_78 => ?_)
          · exact absurd c_78 (by decide)
          · refine lv_iconst (v := zi (0)) hx hb dX3_corner_81 rfl ?_
            have hP9 : va_P (dC, dI) vwCl [(m0, .inr (3, [.int (zi (2)), .int (zi ((mp : Int))), .ref a1, .ref a2, .ref a3, .ref a4, .ref a5, .ref a6, .int (zi ((mb : Int))), .ref a7, .ref a8, .int (zi ((ml : Int))), .ref a9, .ref a10, .int (zi ((mz : Int))), .ref a11, .long (zl (ab)), .long (zl (be))])), (a1, .inl (cA, 6, .inl (zA (sf)))), (a2, .inl (cA, 72, .inl (zA (hh)))), (a3, .inl (cA, 72, .inl (zA (rr)))), (a4, .inl (cZ, 6, .inl (zA (cf))))] H := hP
            rw [hQQ]
            exact wr_z hx hb hr hlocks rfl (by first | exact Or.inl rfl | exact Or.inr rfl | exact zb_01 _ | omega) hP9 hS dX3_corner_82
        · refine lv_aload_n hx hb dX3_corner_61 rfl (lv_at hl 1 rfl) ?_
          refine va_get (D := (dC, dI)) (ci := 3) (v := .ref a4) (C := RX3) (T := TX3) (N := 18) hx hb hg inX3 hown hK hP 0 rfl rfl 5 (by decide) (hg _ wl_X3_19) (fun _ h9 => h9) rfl dX3_corner_62 ?_
          refine lv_iload_n hx hb dX3_corner_65 rfl (lv_at hl 2 rfl) ?_
          refine zz_zald hx hb hK hP 4 1 rfl rfl (j) (by omega) (by omega) (by decide) dX3_corner_66 ?_
          refine zz_topi (z := wc) (congrArg zi hcf9) ?_
          refine zz_if_eq (tgt := 74) hx hb (by omega) dX3_corner_67 (by decide) (fun c_67 => ?_) (fun c_67 => ?_)
          · refine lv_iconst (v := zi (0)) hx hb dX3_corner_74 rfl ?_
            refine wrV (As := [.int (zi (0)), .int (zi (1)), .int (zi (0))]) (rest := []) (n := 3) (ws' := [(m0, .inr (3, [.int (zi (2)), .int (zi ((mp : Int))), .ref a1, .ref a2, .ref a3, .ref a4, .ref a5, .ref a6, .int (zi ((mb : Int))), .ref a7, .ref a8, .int (zi ((ml : Int))), .ref a9, .ref a10, .int (zi ((mz : Int))), .ref a11, .long (zl (ab)), .long (zl (be))])), (a1, .inl (cA, 6, .inl (zA (sf)))), (a2, .inl (cA, 72, .inl (zA (hh)))), (a3, .inl (cA, 72, .inl (zA (rr)))), (a4, .inl (cZ, 6, .inl (zA (cf))))]) hx hb hml hown hg (c_throwing l dC dI H.size m0 a1 a2 a3 a4 a5 a6 a7 a8 a9 a10 a11 (tw) (ab) (be) mp mb ml mz 0 1 0 (by decide) (by decide) (by decide)) (gwV wl_X3_59 wm_X3_throwing we_X3_throwing wi_X3 wc_X3_throwing) rfl rfl (by decide +kernel) ⟨Nat.le_of_ble_eq_true rfl, Nat.le_of_ble_eq_true rfl⟩ (hK.sub [] rfl) hP hD hS hA [0] rfl (by decide) [(true, 0), (false, 1), (false, 2), (false, 3), (false, 4)] rfl (by decide) rfl 0 rfl rfl rfl rfl hl.1 rfl (Nat.le_of_ble_eq_true rfl) dX3_corner_75 ⟨Nat.zero_le _, Nat.zero_le _⟩ (fun H locs hP hD hS => ?_)
            refine zz_topi (z := 1) (congrArg zi (by decide)) ?_
            refine zz_if_eq (tgt := 83) hx hb (by omega) dX3_corner_78 (by decide) (fun c_78 => ?_) (fun c_78 => ?_)
            · exact absurd c_78 (by decide)
            · refine lv_iconst (v := zi (0)) hx hb dX3_corner_81 rfl ?_
              have hP9 : va_P (dC, dI) vwCl [(m0, .inr (3, [.int (zi (2)), .int (zi ((mp : Int))), .ref a1, .ref a2, .ref a3, .ref a4, .ref a5, .ref a6, .int (zi ((mb : Int))), .ref a7, .ref a8, .int (zi ((ml : Int))), .ref a9, .ref a10, .int (zi ((mz : Int))), .ref a11, .long (zl (ab)), .long (zl (be))])), (a1, .inl (cA, 6, .inl (zA (sf)))), (a2, .inl (cA, 72, .inl (zA (hh)))), (a3, .inl (cA, 72, .inl (zA (rr)))), (a4, .inl (cZ, 6, .inl (zA (cf))))] H := hP
              rw [hQQ]
              exact wr_z hx hb hr hlocks rfl (by first | exact Or.inl rfl | exact Or.inr rfl | exact zb_01 _ | omega) hP9 hS dX3_corner_82
          · refine lv_iconst (v := zi (1)) hx hb dX3_corner_70 rfl ?_
            refine lv_goto (tgt := 75) hx hb dX3_corner_71 (by decide) ?_
            refine wrV (As := [.int (zi (0)), .int (zi (1)), .int (zi (1))]) (rest := []) (n := 3) (ws' := [(m0, .inr (3, [.int (zi (2)), .int (zi ((mp : Int))), .ref a1, .ref a2, .ref a3, .ref a4, .ref a5, .ref a6, .int (zi ((mb : Int))), .ref a7, .ref a8, .int (zi ((ml : Int))), .ref a9, .ref a10, .int (zi ((mz : Int))), .ref a11, .long (zl (ab)), .long (zl (be))])), (a1, .inl (cA, 6, .inl (zA (sf)))), (a2, .inl (cA, 72, .inl (zA (hh)))), (a3, .inl (cA, 72, .inl (zA (rr)))), (a4, .inl (cZ, 6, .inl (zA (cf))))]) hx hb hml hown hg (c_throwing l dC dI H.size m0 a1 a2 a3 a4 a5 a6 a7 a8 a9 a10 a11 (tw) (ab) (be) mp mb ml mz 0 1 1 (by decide) (by decide) (by decide)) (gwV wl_X3_59 wm_X3_throwing we_X3_throwing wi_X3 wc_X3_throwing) rfl rfl (by decide +kernel) ⟨Nat.le_of_ble_eq_true rfl, Nat.le_of_ble_eq_true rfl⟩ (hK.sub [] rfl) hP hD hS hA [0] rfl (by decide) [(true, 0), (false, 1), (false, 2), (false, 3), (false, 4)] rfl (by decide) rfl 0 rfl rfl rfl rfl hl.1 rfl (Nat.le_of_ble_eq_true rfl) dX3_corner_75 ⟨Nat.zero_le _, Nat.zero_le _⟩ (fun H locs hP hD hS => ?_)
            refine zz_topi (z := 1) (congrArg zi (by decide)) ?_
            refine zz_if_eq (tgt := 83) hx hb (by omega) dX3_corner_78 (by decide) (fun c_78 => ?_) (fun c_78 => ?_)
            · exact absurd c_78 (by decide)
            · refine lv_iconst (v := zi (0)) hx hb dX3_corner_81 rfl ?_
              have hP9 : va_P (dC, dI) vwCl [(m0, .inr (3, [.int (zi (2)), .int (zi ((mp : Int))), .ref a1, .ref a2, .ref a3, .ref a4, .ref a5, .ref a6, .int (zi ((mb : Int))), .ref a7, .ref a8, .int (zi ((ml : Int))), .ref a9, .ref a10, .int (zi ((mz : Int))), .ref a11, .long (zl (ab)), .long (zl (be))])), (a1, .inl (cA, 6, .inl (zA (sf)))), (a2, .inl (cA, 72, .inl (zA (hh)))), (a3, .inl (cA, 72, .inl (zA (rr)))), (a4, .inl (cZ, 6, .inl (zA (cf))))] H := hP
              rw [hQQ]
              exact wr_z hx hb hr hlocks rfl (by first | exact Or.inl rfl | exact Or.inr rfl | exact zb_01 _ | omega) hP9 hS dX3_corner_82
    · refine lv_iload_n hx hb dX3_corner_29 rfl (lv_at hl 4 rfl) ?_
      refine lv_iconst (v := zi (0)) hx hb dX3_corner_30 rfl ?_
      refine lv_sipush (v := zi (200)) hx hb dX3_corner_31 (by decide) ?_
      refine rdS (As := [.int (zi (r)), .int (zi (0)), .int (zi (200))]) (rest := [.int (zi (0)), .ref m0]) (n := 3) hx hb hml hown hg (c_X3_in l (r) (0) (200) (by omega) (by omega) (by omega)) (gwS wl_X3_55 wt_X3_in wi_X3 wc_X3_in) rfl rfl (by decide +kernel) ⟨Nat.le_of_ble_eq_true rfl, Nat.le_of_ble_eq_true rfl⟩ rfl hl.1 rfl (Nat.le_of_ble_eq_true rfl) dX3_corner_34 ⟨Nat.zero_le _, Nat.zero_le _⟩ ?_
      refine zz_zb_ne (tgt := 44) hx hb dX3_corner_37 (by decide) (fun c_37 => ?_) (fun c_37 => ?_)
      · exact False.elim (by omega)
      · refine lv_iconst (v := zi (1)) hx hb dX3_corner_40 rfl ?_
        refine lv_goto (tgt := 45) hx hb dX3_corner_41 (by decide) ?_
        refine lv_iload hx hb dX3_corner_45 (lv_at hl 0 rfl) ?_
        refine zz_if_ne (tgt := 74) hx hb (by omega) dX3_corner_47 (by decide) (fun c_47 => ?_) (fun c_47 => ?_)
        · exact absurd c_47 (by decide)
        · refine lv_aload_n hx hb dX3_corner_50 rfl (lv_at hl 1 rfl) ?_
          refine va_get (D := (dC, dI)) (ci := 3) (v := .ref a1) (C := RX3) (T := TX3) (N := 18) hx hb hg inX3 hown hK hP 0 rfl rfl 2 (by decide) (hg _ wl_X3_7) (fun _ h9 => h9) rfl dX3_corner_51 ?_
          refine lv_iload_n hx hb dX3_corner_54 rfl (lv_at hl 2 rfl) ?_
          refine zz_iald hx hb hK hP 1 0 rfl rfl (j) (by omega) (by omega) (by decide) dX3_corner_55 ?_
          refine zz_topi (z := (n : Int)) (congrArg zi hsf) ?_
          refine lv_bipush (v := zi (12)) hx hb dX3_corner_56 (by decide) ?_
          refine zz_icmp_eq (tgt := 70) hx hb (by omega) (by omega) dX3_corner_58 (by decide) (fun c_58 => ?_) (fun c_58 => ?_)
          · refine lv_iconst (v := zi (1)) hx hb dX3_corner_70 rfl ?_
            refine lv_goto (tgt := 75) hx hb dX3_corner_71 (by decide) ?_
            refine wrV (As := [.int (zi (0)), .int (zi (1)), .int (zi (1))]) (rest := []) (n := 3) (ws' := [(m0, .inr (3, [.int (zi (2)), .int (zi ((mp : Int))), .ref a1, .ref a2, .ref a3, .ref a4, .ref a5, .ref a6, .int (zi ((mb : Int))), .ref a7, .ref a8, .int (zi ((ml : Int))), .ref a9, .ref a10, .int (zi ((mz : Int))), .ref a11, .long (zl (ab)), .long (zl (be))])), (a1, .inl (cA, 6, .inl (zA (sf)))), (a2, .inl (cA, 72, .inl (zA (hh)))), (a3, .inl (cA, 72, .inl (zA (rr)))), (a4, .inl (cZ, 6, .inl (zA (cf))))]) hx hb hml hown hg (c_throwing l dC dI H.size m0 a1 a2 a3 a4 a5 a6 a7 a8 a9 a10 a11 (tw) (ab) (be) mp mb ml mz 0 1 1 (by decide) (by decide) (by decide)) (gwV wl_X3_59 wm_X3_throwing we_X3_throwing wi_X3 wc_X3_throwing) rfl rfl (by decide +kernel) ⟨Nat.le_of_ble_eq_true rfl, Nat.le_of_ble_eq_true rfl⟩ (hK.sub [] rfl) hP hD hS hA [0] rfl (by decide) [(true, 0), (false, 1), (false, 2), (false, 3), (false, 4)] rfl (by decide) rfl 0 rfl rfl rfl rfl hl.1 rfl (Nat.le_of_ble_eq_true rfl) dX3_corner_75 ⟨Nat.zero_le _, Nat.zero_le _⟩ (fun H locs hP hD hS => ?_)
            refine zz_topi (z := 1) (congrArg zi (by decide)) ?_
            refine zz_if_eq (tgt := 83) hx hb (by omega) dX3_corner_78 (by decide) (fun c_78 => ?_) (fun c_78 => ?_)
            · exact absurd c_78 (by decide)
            · refine lv_iconst (v := zi (0)) hx hb dX3_corner_81 rfl ?_
              have hP9 : va_P (dC, dI) vwCl [(m0, .inr (3, [.int (zi (2)), .int (zi ((mp : Int))), .ref a1, .ref a2, .ref a3, .ref a4, .ref a5, .ref a6, .int (zi ((mb : Int))), .ref a7, .ref a8, .int (zi ((ml : Int))), .ref a9, .ref a10, .int (zi ((mz : Int))), .ref a11, .long (zl (ab)), .long (zl (be))])), (a1, .inl (cA, 6, .inl (zA (sf)))), (a2, .inl (cA, 72, .inl (zA (hh)))), (a3, .inl (cA, 72, .inl (zA (rr)))), (a4, .inl (cZ, 6, .inl (zA (cf))))] H := hP
              rw [hQQ]
              exact wr_z hx hb hr hlocks rfl (by first | exact Or.inl rfl | exact Or.inr rfl | exact zb_01 _ | omega) hP9 hS dX3_corner_82
          · refine lv_aload_n hx hb dX3_corner_61 rfl (lv_at hl 1 rfl) ?_
            refine va_get (D := (dC, dI)) (ci := 3) (v := .ref a4) (C := RX3) (T := TX3) (N := 18) hx hb hg inX3 hown hK hP 0 rfl rfl 5 (by decide) (hg _ wl_X3_19) (fun _ h9 => h9) rfl dX3_corner_62 ?_
            refine lv_iload_n hx hb dX3_corner_65 rfl (lv_at hl 2 rfl) ?_
            refine zz_zald hx hb hK hP 4 1 rfl rfl (j) (by omega) (by omega) (by decide) dX3_corner_66 ?_
            refine zz_topi (z := wc) (congrArg zi hcf9) ?_
            refine zz_if_eq (tgt := 74) hx hb (by omega) dX3_corner_67 (by decide) (fun c_67 => ?_) (fun c_67 => ?_)
            · refine lv_iconst (v := zi (0)) hx hb dX3_corner_74 rfl ?_
              refine wrV (As := [.int (zi (0)), .int (zi (1)), .int (zi (0))]) (rest := []) (n := 3) (ws' := [(m0, .inr (3, [.int (zi (2)), .int (zi ((mp : Int))), .ref a1, .ref a2, .ref a3, .ref a4, .ref a5, .ref a6, .int (zi ((mb : Int))), .ref a7, .ref a8, .int (zi ((ml : Int))), .ref a9, .ref a10, .int (zi ((mz : Int))), .ref a11, .long (zl (ab)), .long (zl (be))])), (a1, .inl (cA, 6, .inl (zA (sf)))), (a2, .inl (cA, 72, .inl (zA (hh)))), (a3, .inl (cA, 72, .inl (zA (rr)))), (a4, .inl (cZ, 6, .inl (zA (cf))))]) hx hb hml hown hg (c_throwing l dC dI H.size m0 a1 a2 a3 a4 a5 a6 a7 a8 a9 a10 a11 (tw) (ab) (be) mp mb ml mz 0 1 0 (by decide) (by decide) (by decide)) (gwV wl_X3_59 wm_X3_throwing we_X3_throwing wi_X3 wc_X3_throwing) rfl rfl (by decide +kernel) ⟨Nat.le_of_ble_eq_true rfl, Nat.le_of_ble_eq_true rfl⟩ (hK.sub [] rfl) hP hD hS hA [0] rfl (by decide) [(true, 0), (false, 1), (false, 2), (false, 3), (false, 4)] rfl (by decide) rfl 0 rfl rfl rfl rfl hl.1 rfl (Nat.le_of_ble_eq_true rfl) dX3_corner_75 ⟨Nat.zero_le _, Nat.zero_le _⟩ (fun H locs hP hD hS => ?_)
              refine zz_topi (z := 1) (congrArg zi (by decide)) ?_
              refine zz_if_eq (tgt := 83) hx hb (by omega) dX3_corner_78 (by decide) (fun c_78 => ?_) (fun c_78 => ?_)
              · exact absurd c_78 (by decide)
              · refine lv_iconst (v := zi (0)) hx hb dX3_corner_81 rfl ?_
                have hP9 : va_P (dC, dI) vwCl [(m0, .inr (3, [.int (zi (2)), .int (zi ((mp : Int))), .ref a1, .ref a2, .ref a3, .ref a4, .ref a5, .ref a6, .int (zi ((mb : Int))), .ref a7, .ref a8, .int (zi ((ml : Int))), .ref a9, .ref a10, .int (zi ((mz : Int))), .ref a11, .long (zl (ab)), .long (zl (be))])), (a1, .inl (cA, 6, .inl (zA (sf)))), (a2, .inl (cA, 72, .inl (zA (hh)))), (a3, .inl (cA, 72, .inl (zA (rr)))), (a4, .inl (cZ, 6, .inl (zA (cf))))] H := hP
                rw [hQQ]
                exact wr_z hx hb hr hlocks rfl (by first | exact Or.inl rfl | exact Or.inr rfl | exact zb_01 _ | omega) hP9 hS dX3_corner_82
            · refine lv_iconst (v := zi (1)) hx hb dX3_corner_70 rfl ?_
              refine lv_goto (tgt := 75) hx hb dX3_corner_71 (by decide) ?_
              refine wrV (As := [.int (zi (0)), .int (zi (1)), .int (zi (1))]) (rest := []) (n := 3) (ws' := [(m0, .inr (3, [.int (zi (2)), .int (zi ((mp : Int))), .ref a1, .ref a2, .ref a3, .ref a4, .ref a5, .ref a6, .int (zi ((mb : Int))), .ref a7, .ref a8, .int (zi ((ml : Int))), .ref a9, .ref a10, .int (zi ((mz : Int))), .ref a11, .long (zl (ab)), .long (zl (be))])), (a1, .inl (cA, 6, .inl (zA (sf)))), (a2, .inl (cA, 72, .inl (zA (hh)))), (a3, .inl (cA, 72, .inl (zA (rr)))), (a4, .inl (cZ, 6, .inl (zA (cf))))]) hx hb hml hown hg (c_throwing l dC dI H.size m0 a1 a2 a3 a4 a5 a6 a7 a8 a9 a10 a11 (tw) (ab) (be) mp mb ml mz 0 1 1 (by decide) (by decide) (by decide)) (gwV wl_X3_59 wm_X3_throwing we_X3_throwing wi_X3 wc_X3_throwing) rfl rfl (by decide +kernel) ⟨Nat.le_of_ble_eq_true rfl, Nat.le_of_ble_eq_true rfl⟩ (hK.sub [] rfl) hP hD hS hA [0] rfl (by decide) [(true, 0), (false, 1), (false, 2), (false, 3), (false, 4)] rfl (by decide) rfl 0 rfl rfl rfl rfl hl.1 rfl (Nat.le_of_ble_eq_true rfl) dX3_corner_75 ⟨Nat.zero_le _, Nat.zero_le _⟩ (fun H locs hP hD hS => ?_)
              refine zz_topi (z := 1) (congrArg zi (by decide)) ?_
              refine zz_if_eq (tgt := 83) hx hb (by omega) dX3_corner_78 (by decide) (fun c_78 => ?_) (fun c_78 => ?_)
              · exact absurd c_78 (by decide)
              · refine lv_iconst (v := zi (0)) hx hb dX3_corner_81 rfl ?_
                have hP9 : va_P (dC, dI) vwCl [(m0, .inr (3, [.int (zi (2)), .int (zi ((mp : Int))), .ref a1, .ref a2, .ref a3, .ref a4, .ref a5, .ref a6, .int (zi ((mb : Int))), .ref a7, .ref a8, .int (zi ((ml : Int))), .ref a9, .ref a10, .int (zi ((mz : Int))), .ref a11, .long (zl (ab)), .long (zl (be))])), (a1, .inl (cA, 6, .inl (zA (sf)))), (a2, .inl (cA, 72, .inl (zA (hh)))), (a3, .inl (cA, 72, .inl (zA (rr)))), (a4, .inl (cZ, 6, .inl (zA (cf))))] H := hP
                rw [hQQ]
                exact wr_z hx hb hr hlocks rfl (by first | exact Or.inl rfl | exact Or.inr rfl | exact zb_01 _ | omega) hP9 hS dX3_corner_82
  · exact absurd c_5 (by decide)

set_option maxHeartbeats 4000000 in
set_option maxRecDepth 100000 in
theorem e_corner_3 (l : Launch) (dC : Nat → ClassId) (dI : Nat → Nat → Nat) (sz : Nat) (m0 a1 a2 a3 a4 a5 a6 a7 a8 a9 a10 a11 : Nat) (tw ab be : Int) (mp mb ml mz : Nat) (cA cZ : ClassId) (j n : Nat) (sf hh rr hs rs : Nat → Int) (cf : Nat → Int) (h r : Int) (hj : j < 6) (hsf : sf j = (n : Int)) (hhs : ∀ k, k < 12 → hh (12 * j + k) = hs k) (hrs : ∀ k, k < 12 → rr (12 * j + k) = rs k) (hn : n ≤ 12) (hH : ∀ j, 0 ≤ hs j ∧ hs j ≤ 400) (hR : ∀ j, 0 ≤ rs j ∧ rs j ≤ 200) (hmp : mp ≤ 6) (hjp : j < mp) (wc : Int) (hcf9 : cf j = wc) (hw : wc = 0 ∨ wc = 1) (h9 : 0 ≤ h ∧ h ≤ 400) (r9 : 0 ≤ r ∧ r ≤ 200) (hbad : wc = 1 ∨ 12 ≤ n) : Met l yX3_corner (Cond.code yX3_corner cX3_corner 5 ((Option.some Jvm.ClassFile.FieldType.boolean)) :: gw) rm_X3_corner (PcW [.ref m0, .int (zi ((j : Int))), .int (zi (h)), .int (zi (r))] (dC, dI) vwCl [(m0, .inr (3, [.int (zi (tw)), .int (zi ((mp : Int))), .ref a1, .ref a2, .ref a3, .ref a4, .ref a5, .ref a6, .int (zi ((mb : Int))), .ref a7, .ref a8, .int (zi ((ml : Int))), .ref a9, .ref a10, .int (zi ((mz : Int))), .ref a11, .long (zl (ab)), .long (zl (be))])), (a1, .inl (cA, 6, .inl (zA (sf)))), (a2, .inl (cA, 72, .inl (zA (hh)))), (a3, .inl (cA, 72, .inl (zA (rr)))), (a4, .inl (cZ, 6, .inl (zA (cf))))] [(cA, .int), (cZ, .boolean)] sz) (WrQ (some (.int (zi 0))) (dC, dI) vwCl [(m0, .inr (3, [.int (zi (3)), .int (zi ((mp : Int))), .ref a1, .ref a2, .ref a3, .ref a4, .ref a5, .ref a6, .int (zi ((mb : Int))), .ref a7, .ref a8, .int (zi ((ml : Int))), .ref a9, .ref a10, .int (zi ((mz : Int))), .ref a11, .long (zl (ab)), .long (zl (be))])), (a1, .inl (cA, 6, .inl (zA (sf)))), (a2, .inl (cA, 72, .inl (zA (hh)))), (a3, .inl (cA, 72, .inl (zA (rr)))), (a4, .inl (cZ, 6, .inl (zA (cf))))] (va_A [(m0, .inr (3, [.int (zi (tw)), .int (zi ((mp : Int))), .ref a1, .ref a2, .ref a3, .ref a4, .ref a5, .ref a6, .int (zi ((mb : Int))), .ref a7, .ref a8, .int (zi ((ml : Int))), .ref a9, .ref a10, .int (zi ((mz : Int))), .ref a11, .long (zl (ab)), .long (zl (be))])), (a1, .inl (cA, 6, .inl (zA (sf)))), (a2, .inl (cA, 72, .inl (zA (hh)))), (a3, .inl (cA, 72, .inl (zA (rr)))), (a4, .inl (cZ, 6, .inl (zA (cf))))] sz)) 0 0 (va_A [(m0, .inr (3, [.int (zi (tw)), .int (zi ((mp : Int))), .ref a1, .ref a2, .ref a3, .ref a4, .ref a5, .ref a6, .int (zi ((mb : Int))), .ref a7, .ref a8, .int (zi ((ml : Int))), .ref a9, .ref a10, .int (zi ((mz : Int))), .ref a11, .long (zl (ab)), .long (zl (be))])), (a1, .inl (cA, 6, .inl (zA (sf)))), (a2, .inl (cA, 72, .inl (zA (hh)))), (a3, .inl (cA, 72, .inl (zA (rr)))), (a4, .inl (cZ, 6, .inl (zA (cf))))] sz) := by
  refine Met.ofW (cc := cX3_corner) (maxL := 5) (ret := ((Option.some Jvm.ClassFile.FieldType.boolean))) (by decide) rfl ?_
  intro p e s m args below meth c s₁ B hml hv
  obtain ⟨hargs, hsz, hP, hK, hD0⟩ := hv
  have hx := B.exec
  have hb := B.bytes
  have hr := B.returns
  have hts := atoms_spec (ws := Cond.code yX3_corner cX3_corner 5 ((Option.some Jvm.ClassFile.FieldType.boolean)) :: gw) B.pre
  have hg : ∀ w ∈ gw, w.before args s = true := fun w h => hts w (List.mem_cons_of_mem _ h)
  have hown : s.vm.findClass RX3 = some m.cls := findClass_of_methodNamed B.named
  have hlocks := B.notSynchronized
  subst hsz
  have hD := hD0.self (sz := s.heap.size)
  generalize hAe : va_A [(m0, .inr (3, [.int (zi (tw)), .int (zi ((mp : Int))), .ref a1, .ref a2, .ref a3, .ref a4, .ref a5, .ref a6, .int (zi ((mb : Int))), .ref a7, .ref a8, .int (zi ((ml : Int))), .ref a9, .ref a10, .int (zi ((mz : Int))), .ref a11, .long (zl (ab)), .long (zl (be))])), (a1, .inl (cA, 6, .inl (zA (sf)))), (a2, .inl (cA, 72, .inl (zA (hh)))), (a3, .inl (cA, 72, .inl (zA (rr)))), (a4, .inl (cZ, 6, .inl (zA (cf))))] s.heap.size = A at hD ⊢
  have hA : ∀ q : Nat, s.heap.size ≤ q → A q := fun q h => by rw [← hAe]; exact Or.inr h
  show W p l e rm_X3_corner s m args below meth c s.heap [] 0 0 _ _
  have hl := lv_entry ([.ref m0, .int (zi ((j : Int))), .int (zi (h)), .int (zi (r))]) (n := 5) (Nat.le_of_ble_eq_true rfl)
  rw [show entryFrame m args 5 = entryFrame m ([.ref m0, .int (zi ((j : Int))), .int (zi (h)), .int (zi (r))] : List Value).toArray 5 by rw [hargs], lg_entry_eq]
  generalize (lg_sl ([.ref m0, .int (zi ((j : Int))), .int (zi (h)), .int (zi (r))]) ++ List.replicate (5 - (lg_sl ([.ref m0, .int (zi ((j : Int))), .int (zi (h)), .int (zi (r))])).length) Slot.unset).toArray = ls at hl ⊢
  have hl : lv_has ls 5 [(0, .ref m0), (1, .int (zi ((j : Int)))), (2, .int (zi (h))), (3, .int (zi (r)))] := hl
  obtain ⟨QQ, hQQ⟩ : ∃ Q, Q = MQ below (WrQ (some (.int (zi 0))) (dC, dI) vwCl [(m0, .inr (3, [.int (zi (3)), .int (zi ((mp : Int))), .ref a1, .ref a2, .ref a3, .ref a4, .ref a5, .ref a6, .int (zi ((mb : Int))), .ref a7, .ref a8, .int (zi ((ml : Int))), .ref a9, .ref a10, .int (zi ((mz : Int))), .ref a11, .long (zl (ab)), .long (zl (be))])), (a1, .inl (cA, 6, .inl (zA (sf)))), (a2, .inl (cA, 72, .inl (zA (hh)))), (a3, .inl (cA, 72, .inl (zA (rr)))), (a4, .inl (cZ, 6, .inl (zA (cf))))] A) args s 0 0 A := ⟨_, rfl⟩
  rw [← hQQ]
  obtain ⟨H, hHe⟩ : ∃ H : Heap, H = s.heap := ⟨_, rfl⟩
  obtain ⟨locs, hlc⟩ : ∃ x : List Loc, x = [] := ⟨_, rfl⟩
  have hS : va_S A s.heap H locs := by rw [hHe, hlc]; exact va_S.rf
  have hP : va_P (dC, dI) vwCl [(m0, .inr (3, [.int (zi (tw)), .int (zi ((mp : Int))), .ref a1, .ref a2, .ref a3, .ref a4, .ref a5, .ref a6, .int (zi ((mb : Int))), .ref a7, .ref a8, .int (zi ((ml : Int))), .ref a9, .ref a10, .int (zi ((mz : Int))), .ref a11, .long (zl (ab)), .long (zl (be))])), (a1, .inl (cA, 6, .inl (zA (sf)))), (a2, .inl (cA, 72, .inl (zA (hh)))), (a3, .inl (cA, 72, .inl (zA (rr)))), (a4, .inl (cZ, 6, .inl (zA (cf))))] H := by rw [hHe]; exact hP
  have hD : va_D A [(m0, .inr (3, [.int (zi (tw)), .int (zi ((mp : Int))), .ref a1, .ref a2, .ref a3, .ref a4, .ref a5, .ref a6, .int (zi ((mb : Int))), .ref a7, .ref a8, .int (zi ((ml : Int))), .ref a9, .ref a10, .int (zi ((mz : Int))), .ref a11, .long (zl (ab)), .long (zl (be))])), (a1, .inl (cA, 6, .inl (zA (sf)))), (a2, .inl (cA, 72, .inl (zA (hh)))), (a3, .inl (cA, 72, .inl (zA (rr)))), (a4, .inl (cZ, 6, .inl (zA (cf))))] := hD
  rw [← hHe, ← hlc]
  refine lv_aload_n hx hb dX3_corner_0 rfl (lv_at hl 0 rfl) ?_
  refine lv_iload_n hx hb dX3_corner_1 rfl (lv_at hl 1 rfl) ?_
  refine rdV (As := [.int (zi ((j : Int)))]) (rest := []) (n := 1) hx hb hml hown hg (c_X3_isProfile l dC dI m0 a1 a2 a3 a4 a5 a6 a7 a8 a9 a10 a11 (tw) (ab) (be) mp mb ml mz ((j : Int)) hmp (by omega)) (gwV wl_X3_70 wm_X3_isProfile we_X3_isProfile wi_X3 wc_X3_isProfile) rfl rfl (by decide +kernel) ⟨Nat.le_of_ble_eq_true rfl, Nat.le_of_ble_eq_true rfl⟩ (hK.sub [] rfl) (hP.sub [0] rfl) 0 rfl rfl rfl rfl hl.1 rfl (Nat.le_of_ble_eq_true rfl) dX3_corner_2 ⟨Nat.zero_le _, Nat.zero_le _⟩ ?_
  refine zz_topi (z := 1) (congrArg zi (zb_t (decide_eq_true (by omega)))) ?_
  refine zz_if_ne (tgt := 12) hx hb (by omega) dX3_corner_5 (by decide) (fun c_5 => ?_) (fun c_5 => ?_)
  · refine lv_iconst (v := zi (0)) hx hb dX3_corner_12 rfl ?_
    refine lv_istore (lv' := [(4, .int (zi (0))), (0, .ref m0), (1, .int (zi ((j : Int)))), (2, .int (zi (h))), (3, .int (zi (r)))]) hx hb dX3_corner_13 hl (by decide) rfl (fun ls hl => ?_)
    refine lv_aload_n hx hb dX3_corner_15 rfl (lv_at hl 1 rfl) ?_
    refine lv_iload hx hb dX3_corner_16 (lv_at hl 0 rfl) ?_
    refine lv_iload_n hx hb dX3_corner_18 rfl (lv_at hl 3 rfl) ?_
    refine lv_iconst (v := zi (0)) hx hb dX3_corner_19 rfl ?_
    refine lv_sipush (v := zi (400)) hx hb dX3_corner_20 (by decide) ?_
    refine rdS (As := [.int (zi (h)), .int (zi (0)), .int (zi (400))]) (rest := [.int (zi (0)), .ref m0]) (n := 3) hx hb hml hown hg (c_X3_in l (h) (0) (400) (by omega) (by omega) (by omega)) (gwS wl_X3_55 wt_X3_in wi_X3 wc_X3_in) rfl rfl (by decide +kernel) ⟨Nat.le_of_ble_eq_true rfl, Nat.le_of_ble_eq_true rfl⟩ rfl hl.1 rfl (Nat.le_of_ble_eq_true rfl) dX3_corner_23 ⟨Nat.zero_le _, Nat.zero_le _⟩ ?_
    refine zz_topi (z := 1) (congrArg zi (zb_t (decide_eq_true (by omega)))) ?_
    refine zz_if_eq (tgt := 40) hx hb (by omega) dX3_corner_26 (by decide) (fun c_26 => ?_) (fun c_26 => ?_)
    · exact absurd c_26 (by decide)
    · refine lv_iload_n hx hb dX3_corner_29 rfl (lv_at hl 4 rfl) ?_
      refine lv_iconst (v := zi (0)) hx hb dX3_corner_30 rfl ?_
      refine lv_sipush (v := zi (200)) hx hb dX3_corner_31 (by decide) ?_
      refine rdS (As := [.int (zi (r)), .int (zi (0)), .int (zi (200))]) (rest := [.int (zi (0)), .ref m0]) (n := 3) hx hb hml hown hg (c_X3_in l (r) (0) (200) (by omega) (by omega) (by omega)) (gwS wl_X3_55 wt_X3_in wi_X3 wc_X3_in) rfl rfl (by decide +kernel) ⟨Nat.le_of_ble_eq_true rfl, Nat.le_of_ble_eq_true rfl⟩ rfl hl.1 rfl (Nat.le_of_ble_eq_true rfl) dX3_corner_34 ⟨Nat.zero_le _, Nat.zero_le _⟩ ?_
      refine zz_topi (z := 1) (congrArg zi (zb_t (decide_eq_true (by omega)))) ?_
      refine zz_if_ne (tgt := 44) hx hb (by omega) dX3_corner_37 (by decide) (fun c_37 => ?_) (fun c_37 => ?_)
      · refine lv_iconst (v := zi (0)) hx hb dX3_corner_44 rfl ?_
        refine lv_iload hx hb dX3_corner_45 (lv_at hl 0 rfl) ?_
        refine zz_if_ne (tgt := 74) hx hb (by omega) dX3_corner_47 (by decide) (fun c_47 => ?_) (fun c_47 => ?_)
        · exact absurd c_47 (by decide)
        · refine lv_aload_n hx hb dX3_corner_50 rfl (lv_at hl 1 rfl) ?_
          refine va_get (D := (dC, dI)) (ci := 3) (v := .ref a1) (C := RX3) (T := TX3) (N := 18) hx hb hg inX3 hown hK hP 0 rfl rfl 2 (by decide) (hg _ wl_X3_7) (fun _ h9 => h9) rfl dX3_corner_51 ?_
          refine lv_iload_n hx hb dX3_corner_54 rfl (lv_at hl 2 rfl) ?_
          refine zz_iald hx hb hK hP 1 0 rfl rfl (j) (by omega) (by omega) (by decide) dX3_corner_55 ?_
          refine zz_topi (z := (n : Int)) (congrArg zi hsf) ?_
          refine lv_bipush (v := zi (12)) hx hb dX3_corner_56 (by decide) ?_
          refine zz_icmp_eq (tgt := 70) hx hb (by omega) (by omega) dX3_corner_58 (by decide) (fun c_58 => ?_) (fun c_58 => ?_)
          · refine lv_iconst (v := zi (1)) hx hb dX3_corner_70 rfl ?_
            refine lv_goto (tgt := 75) hx hb dX3_corner_71 (by decide) ?_
            refine wrV (As := [.int (zi (0)), .int (zi (0)), .int (zi (1))]) (rest := []) (n := 3) (ws' := [(m0, .inr (3, [.int (zi (3)), .int (zi ((mp : Int))), .ref a1, .ref a2, .ref a3, .ref a4, .ref a5, .ref a6, .int (zi ((mb : Int))), .ref a7, .ref a8, .int (zi ((ml : Int))), .ref a9, .ref a10, .int (zi ((mz : Int))), .ref a11, .long (zl (ab)), .long (zl (be))])), (a1, .inl (cA, 6, .inl (zA (sf)))), (a2, .inl (cA, 72, .inl (zA (hh)))), (a3, .inl (cA, 72, .inl (zA (rr)))), (a4, .inl (cZ, 6, .inl (zA (cf))))]) hx hb hml hown hg (c_throwing l dC dI H.size m0 a1 a2 a3 a4 a5 a6 a7 a8 a9 a10 a11 (tw) (ab) (be) mp mb ml mz 0 0 1 (by decide) (by decide) (by decide)) (gwV wl_X3_59 wm_X3_throwing we_X3_throwing wi_X3 wc_X3_throwing) rfl rfl (by decide +kernel) ⟨Nat.le_of_ble_eq_true rfl, Nat.le_of_ble_eq_true rfl⟩ (hK.sub [] rfl) hP hD hS hA [0] rfl (by decide) [(true, 0), (false, 1), (false, 2), (false, 3), (false, 4)] rfl (by decide) rfl 0 rfl rfl rfl rfl hl.1 rfl (Nat.le_of_ble_eq_true rfl) dX3_corner_75 ⟨Nat.zero_le _, Nat.zero_le _⟩ (fun H locs hP hD hS => ?_)
            refine zz_topi (z := 1) (congrArg zi (by decide)) ?_
            refine zz_if_eq (tgt := 83) hx hb (by omega) dX3_corner_78 (by decide) (fun c_78 => ?_) (fun c_78 => ?_)
            · exact absurd c_78 (by decide)
            · refine lv_iconst (v := zi (0)) hx hb dX3_corner_81 rfl ?_
              have hP9 : va_P (dC, dI) vwCl [(m0, .inr (3, [.int (zi (3)), .int (zi ((mp : Int))), .ref a1, .ref a2, .ref a3, .ref a4, .ref a5, .ref a6, .int (zi ((mb : Int))), .ref a7, .ref a8, .int (zi ((ml : Int))), .ref a9, .ref a10, .int (zi ((mz : Int))), .ref a11, .long (zl (ab)), .long (zl (be))])), (a1, .inl (cA, 6, .inl (zA (sf)))), (a2, .inl (cA, 72, .inl (zA (hh)))), (a3, .inl (cA, 72, .inl (zA (rr)))), (a4, .inl (cZ, 6, .inl (zA (cf))))] H := hP
              rw [hQQ]
              exact wr_z hx hb hr hlocks rfl (by first | exact Or.inl rfl | exact Or.inr rfl | exact zb_01 _ | omega) hP9 hS dX3_corner_82
          · refine lv_aload_n hx hb dX3_corner_61 rfl (lv_at hl 1 rfl) ?_
            refine va_get (D := (dC, dI)) (ci := 3) (v := .ref a4) (C := RX3) (T := TX3) (N := 18) hx hb hg inX3 hown hK hP 0 rfl rfl 5 (by decide) (hg _ wl_X3_19) (fun _ h9 => h9) rfl dX3_corner_62 ?_
            refine lv_iload_n hx hb dX3_corner_65 rfl (lv_at hl 2 rfl) ?_
            refine zz_zald hx hb hK hP 4 1 rfl rfl (j) (by omega) (by omega) (by decide) dX3_corner_66 ?_
            refine zz_topi (z := wc) (congrArg zi hcf9) ?_
            refine zz_if_eq (tgt := 74) hx hb (by omega) dX3_corner_67 (by decide) (fun c_67 => ?_) (fun c_67 => ?_)
            · exact False.elim (by omega)
            · refine lv_iconst (v := zi (1)) hx hb dX3_corner_70 rfl ?_
              refine lv_goto (tgt := 75) hx hb dX3_corner_71 (by decide) ?_
              refine wrV (As := [.int (zi (0)), .int (zi (0)), .int (zi (1))]) (rest := []) (n := 3) (ws' := [(m0, .inr (3, [.int (zi (3)), .int (zi ((mp : Int))), .ref a1, .ref a2, .ref a3, .ref a4, .ref a5, .ref a6, .int (zi ((mb : Int))), .ref a7, .ref a8, .int (zi ((ml : Int))), .ref a9, .ref a10, .int (zi ((mz : Int))), .ref a11, .long (zl (ab)), .long (zl (be))])), (a1, .inl (cA, 6, .inl (zA (sf)))), (a2, .inl (cA, 72, .inl (zA (hh)))), (a3, .inl (cA, 72, .inl (zA (rr)))), (a4, .inl (cZ, 6, .inl (zA (cf))))]) hx hb hml hown hg (c_throwing l dC dI H.size m0 a1 a2 a3 a4 a5 a6 a7 a8 a9 a10 a11 (tw) (ab) (be) mp mb ml mz 0 0 1 (by decide) (by decide) (by decide)) (gwV wl_X3_59 wm_X3_throwing we_X3_throwing wi_X3 wc_X3_throwing) rfl rfl (by decide +kernel) ⟨Nat.le_of_ble_eq_true rfl, Nat.le_of_ble_eq_true rfl⟩ (hK.sub [] rfl) hP hD hS hA [0] rfl (by decide) [(true, 0), (false, 1), (false, 2), (false, 3), (false, 4)] rfl (by decide) rfl 0 rfl rfl rfl rfl hl.1 rfl (Nat.le_of_ble_eq_true rfl) dX3_corner_75 ⟨Nat.zero_le _, Nat.zero_le _⟩ (fun H locs hP hD hS => ?_)
              refine zz_topi (z := 1) (congrArg zi (by decide)) ?_
              refine zz_if_eq (tgt := 83) hx hb (by omega) dX3_corner_78 (by decide) (fun c_78 => ?_) (fun c_78 => ?_)
              · exact absurd c_78 (by decide)
              · refine lv_iconst (v := zi (0)) hx hb dX3_corner_81 rfl ?_
                have hP9 : va_P (dC, dI) vwCl [(m0, .inr (3, [.int (zi (3)), .int (zi ((mp : Int))), .ref a1, .ref a2, .ref a3, .ref a4, .ref a5, .ref a6, .int (zi ((mb : Int))), .ref a7, .ref a8, .int (zi ((ml : Int))), .ref a9, .ref a10, .int (zi ((mz : Int))), .ref a11, .long (zl (ab)), .long (zl (be))])), (a1, .inl (cA, 6, .inl (zA (sf)))), (a2, .inl (cA, 72, .inl (zA (hh)))), (a3, .inl (cA, 72, .inl (zA (rr)))), (a4, .inl (cZ, 6, .inl (zA (cf))))] H := hP
                rw [hQQ]
                exact wr_z hx hb hr hlocks rfl (by first | exact Or.inl rfl | exact Or.inr rfl | exact zb_01 _ | omega) hP9 hS dX3_corner_82
      · exact absurd c_37 (by decide)
  · exact absurd c_5 (by decide)

set_option maxHeartbeats 4000000 in
set_option maxRecDepth 100000 in
theorem k_corner_y (l : Launch) (dC : Nat → ClassId) (dI : Nat → Nat → Nat) (sz : Nat) (m0 a1 a2 a3 a4 a5 a6 a7 a8 a9 a10 a11 : Nat) (tw ab be : Int) (mp mb ml mz : Nat) (cA cZ : ClassId) (j n : Nat) (sf hh rr hs rs : Nat → Int) (cf : Nat → Int) (h r : Int) (hj : j < 6) (hsf : sf j = (n : Int)) (hhs : ∀ k, k < 12 → hh (12 * j + k) = hs k) (hrs : ∀ k, k < 12 → rr (12 * j + k) = rs k) (hn : n ≤ 12) (hH : ∀ j, 0 ≤ hs j ∧ hs j ≤ 400) (hR : ∀ j, 0 ≤ rs j ∧ rs j ≤ 200) (hmp : mp ≤ 6) (hjp : j < mp) (wc : Int) (hcf9 : cf j = wc) (hw : wc = 0 ∨ wc = 1) (h9 : 0 ≤ h ∧ h ≤ 400) (r9 : 0 ≤ r ∧ r ≤ 200) (hcl : wc = 0 ∧ n < 12) (hso : 1 < n → hs (n - 2) ≤ hs (n - 1)) (hcn : p_canf n hs rs h r = true) : Met l yX3_corner (Cond.code yX3_corner cX3_corner 5 ((Option.some Jvm.ClassFile.FieldType.boolean)) :: gw) rm_X3_corner (PcW [.ref m0, .int (zi ((j : Int))), .int (zi (h)), .int (zi (r))] (dC, dI) vwCl [(m0, .inr (3, [.int (zi (tw)), .int (zi ((mp : Int))), .ref a1, .ref a2, .ref a3, .ref a4, .ref a5, .ref a6, .int (zi ((mb : Int))), .ref a7, .ref a8, .int (zi ((ml : Int))), .ref a9, .ref a10, .int (zi ((mz : Int))), .ref a11, .long (zl (ab)), .long (zl (be))])), (a1, .inl (cA, 6, .inl (zA (sf)))), (a2, .inl (cA, 72, .inl (zA (hh)))), (a3, .inl (cA, 72, .inl (zA (rr)))), (a4, .inl (cZ, 6, .inl (zA (cf))))] [(cA, .int), (cZ, .boolean)] sz) (WrQ (some (.int (zi 1))) (dC, dI) vwCl [(m0, .inr (3, [.int (zi (0)), .int (zi ((mp : Int))), .ref a1, .ref a2, .ref a3, .ref a4, .ref a5, .ref a6, .int (zi ((mb : Int))), .ref a7, .ref a8, .int (zi ((ml : Int))), .ref a9, .ref a10, .int (zi ((mz : Int))), .ref a11, .long (zl (ab)), .long (zl (be))])), (a1, .inl (cA, 6, .inl (zA (zupd sf (j) (((n + 1 : Nat) : Int)))))), (a2, .inl (cA, 72, .inl (zA (zupd hh (12 * j + n) (h))))), (a3, .inl (cA, 72, .inl (zA (zupd rr (12 * j + n) (r))))), (a4, .inl (cZ, 6, .inl (zA (cf))))] (va_A [(m0, .inr (3, [.int (zi (tw)), .int (zi ((mp : Int))), .ref a1, .ref a2, .ref a3, .ref a4, .ref a5, .ref a6, .int (zi ((mb : Int))), .ref a7, .ref a8, .int (zi ((ml : Int))), .ref a9, .ref a10, .int (zi ((mz : Int))), .ref a11, .long (zl (ab)), .long (zl (be))])), (a1, .inl (cA, 6, .inl (zA (sf)))), (a2, .inl (cA, 72, .inl (zA (hh)))), (a3, .inl (cA, 72, .inl (zA (rr)))), (a4, .inl (cZ, 6, .inl (zA (cf))))] sz)) 0 0 (va_A [(m0, .inr (3, [.int (zi (tw)), .int (zi ((mp : Int))), .ref a1, .ref a2, .ref a3, .ref a4, .ref a5, .ref a6, .int (zi ((mb : Int))), .ref a7, .ref a8, .int (zi ((ml : Int))), .ref a9, .ref a10, .int (zi ((mz : Int))), .ref a11, .long (zl (ab)), .long (zl (be))])), (a1, .inl (cA, 6, .inl (zA (sf)))), (a2, .inl (cA, 72, .inl (zA (hh)))), (a3, .inl (cA, 72, .inl (zA (rr)))), (a4, .inl (cZ, 6, .inl (zA (cf))))] sz) := by
  refine Met.ofW (cc := cX3_corner) (maxL := 5) (ret := ((Option.some Jvm.ClassFile.FieldType.boolean))) (by decide) rfl ?_
  intro p e s m args below meth c s₁ B hml hv
  obtain ⟨hargs, hsz, hP, hK, hD0⟩ := hv
  have hx := B.exec
  have hb := B.bytes
  have hr := B.returns
  have hts := atoms_spec (ws := Cond.code yX3_corner cX3_corner 5 ((Option.some Jvm.ClassFile.FieldType.boolean)) :: gw) B.pre
  have hg : ∀ w ∈ gw, w.before args s = true := fun w h => hts w (List.mem_cons_of_mem _ h)
  have hown : s.vm.findClass RX3 = some m.cls := findClass_of_methodNamed B.named
  have hlocks := B.notSynchronized
  subst hsz
  have hD := hD0.self (sz := s.heap.size)
  generalize hAe : va_A [(m0, .inr (3, [.int (zi (tw)), .int (zi ((mp : Int))), .ref a1, .ref a2, .ref a3, .ref a4, .ref a5, .ref a6, .int (zi ((mb : Int))), .ref a7, .ref a8, .int (zi ((ml : Int))), .ref a9, .ref a10, .int (zi ((mz : Int))), .ref a11, .long (zl (ab)), .long (zl (be))])), (a1, .inl (cA, 6, .inl (zA (sf)))), (a2, .inl (cA, 72, .inl (zA (hh)))), (a3, .inl (cA, 72, .inl (zA (rr)))), (a4, .inl (cZ, 6, .inl (zA (cf))))] s.heap.size = A at hD ⊢
  have hA : ∀ q : Nat, s.heap.size ≤ q → A q := fun q h => by rw [← hAe]; exact Or.inr h
  show W p l e rm_X3_corner s m args below meth c s.heap [] 0 0 _ _
  have hl := lv_entry ([.ref m0, .int (zi ((j : Int))), .int (zi (h)), .int (zi (r))]) (n := 5) (Nat.le_of_ble_eq_true rfl)
  rw [show entryFrame m args 5 = entryFrame m ([.ref m0, .int (zi ((j : Int))), .int (zi (h)), .int (zi (r))] : List Value).toArray 5 by rw [hargs], lg_entry_eq]
  generalize (lg_sl ([.ref m0, .int (zi ((j : Int))), .int (zi (h)), .int (zi (r))]) ++ List.replicate (5 - (lg_sl ([.ref m0, .int (zi ((j : Int))), .int (zi (h)), .int (zi (r))])).length) Slot.unset).toArray = ls at hl ⊢
  have hl : lv_has ls 5 [(0, .ref m0), (1, .int (zi ((j : Int)))), (2, .int (zi (h))), (3, .int (zi (r)))] := hl
  obtain ⟨QQ, hQQ⟩ : ∃ Q, Q = MQ below (WrQ (some (.int (zi 1))) (dC, dI) vwCl [(m0, .inr (3, [.int (zi (0)), .int (zi ((mp : Int))), .ref a1, .ref a2, .ref a3, .ref a4, .ref a5, .ref a6, .int (zi ((mb : Int))), .ref a7, .ref a8, .int (zi ((ml : Int))), .ref a9, .ref a10, .int (zi ((mz : Int))), .ref a11, .long (zl (ab)), .long (zl (be))])), (a1, .inl (cA, 6, .inl (zA (zupd sf (j) (((n + 1 : Nat) : Int)))))), (a2, .inl (cA, 72, .inl (zA (zupd hh (12 * j + n) (h))))), (a3, .inl (cA, 72, .inl (zA (zupd rr (12 * j + n) (r))))), (a4, .inl (cZ, 6, .inl (zA (cf))))] A) args s 0 0 A := ⟨_, rfl⟩
  rw [← hQQ]
  obtain ⟨H, hHe⟩ : ∃ H : Heap, H = s.heap := ⟨_, rfl⟩
  obtain ⟨locs, hlc⟩ : ∃ x : List Loc, x = [] := ⟨_, rfl⟩
  have hS : va_S A s.heap H locs := by rw [hHe, hlc]; exact va_S.rf
  have hP : va_P (dC, dI) vwCl [(m0, .inr (3, [.int (zi (tw)), .int (zi ((mp : Int))), .ref a1, .ref a2, .ref a3, .ref a4, .ref a5, .ref a6, .int (zi ((mb : Int))), .ref a7, .ref a8, .int (zi ((ml : Int))), .ref a9, .ref a10, .int (zi ((mz : Int))), .ref a11, .long (zl (ab)), .long (zl (be))])), (a1, .inl (cA, 6, .inl (zA (sf)))), (a2, .inl (cA, 72, .inl (zA (hh)))), (a3, .inl (cA, 72, .inl (zA (rr)))), (a4, .inl (cZ, 6, .inl (zA (cf))))] H := by rw [hHe]; exact hP
  have hD : va_D A [(m0, .inr (3, [.int (zi (tw)), .int (zi ((mp : Int))), .ref a1, .ref a2, .ref a3, .ref a4, .ref a5, .ref a6, .int (zi ((mb : Int))), .ref a7, .ref a8, .int (zi ((ml : Int))), .ref a9, .ref a10, .int (zi ((mz : Int))), .ref a11, .long (zl (ab)), .long (zl (be))])), (a1, .inl (cA, 6, .inl (zA (sf)))), (a2, .inl (cA, 72, .inl (zA (hh)))), (a3, .inl (cA, 72, .inl (zA (rr)))), (a4, .inl (cZ, 6, .inl (zA (cf))))] := hD
  rw [← hHe, ← hlc]
  refine lv_aload_n hx hb dX3_corner_0 rfl (lv_at hl 0 rfl) ?_
  refine lv_iload_n hx hb dX3_corner_1 rfl (lv_at hl 1 rfl) ?_
  refine rdV (As := [.int (zi ((j : Int)))]) (rest := []) (n := 1) hx hb hml hown hg (c_X3_isProfile l dC dI m0 a1 a2 a3 a4 a5 a6 a7 a8 a9 a10 a11 (tw) (ab) (be) mp mb ml mz ((j : Int)) hmp (by omega)) (gwV wl_X3_70 wm_X3_isProfile we_X3_isProfile wi_X3 wc_X3_isProfile) rfl rfl (by decide +kernel) ⟨Nat.le_of_ble_eq_true rfl, Nat.le_of_ble_eq_true rfl⟩ (hK.sub [] rfl) (hP.sub [0] rfl) 0 rfl rfl rfl rfl hl.1 rfl (Nat.le_of_ble_eq_true rfl) dX3_corner_2 ⟨Nat.zero_le _, Nat.zero_le _⟩ ?_
  refine zz_topi (z := 1) (congrArg zi (zb_t (decide_eq_true (by omega)))) ?_
  refine zz_if_ne (tgt := 12) hx hb (by omega) dX3_corner_5 (by decide) (fun c_5 => ?_) (fun c_5 => ?_)
  · refine lv_iconst (v := zi (0)) hx hb dX3_corner_12 rfl ?_
    refine lv_istore (lv' := [(4, .int (zi (0))), (0, .ref m0), (1, .int (zi ((j : Int)))), (2, .int (zi (h))), (3, .int (zi (r)))]) hx hb dX3_corner_13 hl (by decide) rfl (fun ls hl => ?_)
    refine lv_aload_n hx hb dX3_corner_15 rfl (lv_at hl 1 rfl) ?_
    refine lv_iload hx hb dX3_corner_16 (lv_at hl 0 rfl) ?_
    refine lv_iload_n hx hb dX3_corner_18 rfl (lv_at hl 3 rfl) ?_
    refine lv_iconst (v := zi (0)) hx hb dX3_corner_19 rfl ?_
    refine lv_sipush (v := zi (400)) hx hb dX3_corner_20 (by decide) ?_
    refine rdS (As := [.int (zi (h)), .int (zi (0)), .int (zi (400))]) (rest := [.int (zi (0)), .ref m0]) (n := 3) hx hb hml hown hg (c_X3_in l (h) (0) (400) (by omega) (by omega) (by omega)) (gwS wl_X3_55 wt_X3_in wi_X3 wc_X3_in) rfl rfl (by decide +kernel) ⟨Nat.le_of_ble_eq_true rfl, Nat.le_of_ble_eq_true rfl⟩ rfl hl.1 rfl (Nat.le_of_ble_eq_true rfl) dX3_corner_23 ⟨Nat.zero_le _, Nat.zero_le _⟩ ?_
    refine zz_topi (z := 1) (congrArg zi (zb_t (decide_eq_true (by omega)))) ?_
    refine zz_if_eq (tgt := 40) hx hb (by omega) dX3_corner_26 (by decide) (fun c_26 => ?_) (fun c_26 => ?_)
    · exact absurd c_26 (by decide)
    · refine lv_iload_n hx hb dX3_corner_29 rfl (lv_at hl 4 rfl) ?_
      refine lv_iconst (v := zi (0)) hx hb dX3_corner_30 rfl ?_
      refine lv_sipush (v := zi (200)) hx hb dX3_corner_31 (by decide) ?_
      refine rdS (As := [.int (zi (r)), .int (zi (0)), .int (zi (200))]) (rest := [.int (zi (0)), .ref m0]) (n := 3) hx hb hml hown hg (c_X3_in l (r) (0) (200) (by omega) (by omega) (by omega)) (gwS wl_X3_55 wt_X3_in wi_X3 wc_X3_in) rfl rfl (by decide +kernel) ⟨Nat.le_of_ble_eq_true rfl, Nat.le_of_ble_eq_true rfl⟩ rfl hl.1 rfl (Nat.le_of_ble_eq_true rfl) dX3_corner_34 ⟨Nat.zero_le _, Nat.zero_le _⟩ ?_
      refine zz_topi (z := 1) (congrArg zi (zb_t (decide_eq_true (by omega)))) ?_
      refine zz_if_ne (tgt := 44) hx hb (by omega) dX3_corner_37 (by decide) (fun c_37 => ?_) (fun c_37 => ?_)
      · refine lv_iconst (v := zi (0)) hx hb dX3_corner_44 rfl ?_
        refine lv_iload hx hb dX3_corner_45 (lv_at hl 0 rfl) ?_
        refine zz_if_ne (tgt := 74) hx hb (by omega) dX3_corner_47 (by decide) (fun c_47 => ?_) (fun c_47 => ?_)
        · exact absurd c_47 (by decide)
        · refine lv_aload_n hx hb dX3_corner_50 rfl (lv_at hl 1 rfl) ?_
          refine va_get (D := (dC, dI)) (ci := 3) (v := .ref a1) (C := RX3) (T := TX3) (N := 18) hx hb hg inX3 hown hK hP 0 rfl rfl 2 (by decide) (hg _ wl_X3_7) (fun _ h9 => h9) rfl dX3_corner_51 ?_
          refine lv_iload_n hx hb dX3_corner_54 rfl (lv_at hl 2 rfl) ?_
          refine zz_iald hx hb hK hP 1 0 rfl rfl (j) (by omega) (by omega) (by decide) dX3_corner_55 ?_
          refine zz_topi (z := (n : Int)) (congrArg zi hsf) ?_
          refine lv_bipush (v := zi (12)) hx hb dX3_corner_56 (by decide) ?_
          refine zz_icmp_eq (tgt := 70) hx hb (by omega) (by omega) dX3_corner_58 (by decide) (fun c_58 => ?_) (fun c_58 => ?_)
          · exact False.elim (by omega)
          · refine lv_aload_n hx hb dX3_corner_61 rfl (lv_at hl 1 rfl) ?_
            refine va_get (D := (dC, dI)) (ci := 3) (v := .ref a4) (C := RX3) (T := TX3) (N := 18) hx hb hg inX3 hown hK hP 0 rfl rfl 5 (by decide) (hg _ wl_X3_19) (fun _ h9 => h9) rfl dX3_corner_62 ?_
            refine lv_iload_n hx hb dX3_corner_65 rfl (lv_at hl 2 rfl) ?_
            refine zz_zald hx hb hK hP 4 1 rfl rfl (j) (by omega) (by omega) (by decide) dX3_corner_66 ?_
            refine zz_topi (z := wc) (congrArg zi hcf9) ?_
            refine zz_if_eq (tgt := 74) hx hb (by omega) dX3_corner_67 (by decide) (fun c_67 => ?_) (fun c_67 => ?_)
            · refine lv_iconst (v := zi (0)) hx hb dX3_corner_74 rfl ?_
              refine wrV (As := [.int (zi (0)), .int (zi (0)), .int (zi (0))]) (rest := []) (n := 3) (ws' := [(m0, .inr (3, [.int (zi (0)), .int (zi ((mp : Int))), .ref a1, .ref a2, .ref a3, .ref a4, .ref a5, .ref a6, .int (zi ((mb : Int))), .ref a7, .ref a8, .int (zi ((ml : Int))), .ref a9, .ref a10, .int (zi ((mz : Int))), .ref a11, .long (zl (ab)), .long (zl (be))])), (a1, .inl (cA, 6, .inl (zA (sf)))), (a2, .inl (cA, 72, .inl (zA (hh)))), (a3, .inl (cA, 72, .inl (zA (rr)))), (a4, .inl (cZ, 6, .inl (zA (cf))))]) hx hb hml hown hg (c_throwing l dC dI H.size m0 a1 a2 a3 a4 a5 a6 a7 a8 a9 a10 a11 (tw) (ab) (be) mp mb ml mz 0 0 0 (by decide) (by decide) (by decide)) (gwV wl_X3_59 wm_X3_throwing we_X3_throwing wi_X3 wc_X3_throwing) rfl rfl (by decide +kernel) ⟨Nat.le_of_ble_eq_true rfl, Nat.le_of_ble_eq_true rfl⟩ (hK.sub [] rfl) hP hD hS hA [0] rfl (by decide) [(true, 0), (false, 1), (false, 2), (false, 3), (false, 4)] rfl (by decide) rfl 0 rfl rfl rfl rfl hl.1 rfl (Nat.le_of_ble_eq_true rfl) dX3_corner_75 ⟨Nat.zero_le _, Nat.zero_le _⟩ (fun H locs hP hD hS => ?_)
              refine zz_topi (z := 0) (congrArg zi (by decide)) ?_
              refine zz_if_eq (tgt := 83) hx hb (by omega) dX3_corner_78 (by decide) (fun c_78 => ?_) (fun c_78 => ?_)
              · refine lv_aload_n hx hb dX3_corner_83 rfl (lv_at hl 1 rfl) ?_
                refine lv_iload_n hx hb dX3_corner_84 rfl (lv_at hl 2 rfl) ?_
                refine lv_iload_n hx hb dX3_corner_85 rfl (lv_at hl 3 rfl) ?_
                refine lv_iload_n hx hb dX3_corner_86 rfl (lv_at hl 4 rfl) ?_
                refine rdV (As := [.int (zi ((j : Int))), .int (zi (h)), .int (zi (r))]) (rest := []) (n := 3) hx hb hml hown hg (c_X3_mayFollow l dC dI m0 a1 a2 a3 a4 a5 a6 a7 a8 a9 a10 a11 (0) (ab) (be) mp mb ml mz cA j n sf hh rr hs rs h r hj hsf hhs hrs hn hH hR (by omega) h9 r9 hso) (gwV wl_X3_74 wm_X3_mayFollow we_X3_mayFollow wi_X3 wc_X3_mayFollow) rfl rfl (by decide +kernel) ⟨Nat.le_of_ble_eq_true rfl, Nat.le_of_ble_eq_true rfl⟩ (hK.sub [0] rfl) (hP.sub [0, 1, 2, 3] rfl) 0 rfl rfl rfl rfl hl.1 rfl (Nat.le_of_ble_eq_true rfl) dX3_corner_87 ⟨Nat.zero_le _, Nat.zero_le _⟩ ?_
                refine zz_topi (z := 1) (congrArg zi (zb_t hcn)) ?_
                refine zz_if_ne (tgt := 95) hx hb (by omega) dX3_corner_90 (by decide) (fun c_90 => ?_) (fun c_90 => ?_)
                · refine lv_aload_n hx hb dX3_corner_95 rfl (lv_at hl 1 rfl) ?_
                  refine lv_iload_n hx hb dX3_corner_96 rfl (lv_at hl 2 rfl) ?_
                  refine lv_iload_n hx hb dX3_corner_97 rfl (lv_at hl 3 rfl) ?_
                  refine lv_iload_n hx hb dX3_corner_98 rfl (lv_at hl 4 rfl) ?_
                  refine wrV (As := [.int (zi ((j : Int))), .int (zi (h)), .int (zi (r))]) (rest := []) (n := 3) (ws' := [(m0, .inr (3, [.int (zi (0)), .int (zi ((mp : Int))), .ref a1, .ref a2, .ref a3, .ref a4, .ref a5, .ref a6, .int (zi ((mb : Int))), .ref a7, .ref a8, .int (zi ((ml : Int))), .ref a9, .ref a10, .int (zi ((mz : Int))), .ref a11, .long (zl (ab)), .long (zl (be))])), (a1, .inl (cA, 6, .inl (zA (zupd sf (j) (((n + 1 : Nat) : Int)))))), (a2, .inl (cA, 72, .inl (zA (zupd hh (12 * j + n) (h))))), (a3, .inl (cA, 72, .inl (zA (zupd rr (12 * j + n) (r))))), (a4, .inl (cZ, 6, .inl (zA (cf))))]) hx hb hml hown hg (c_X3_append l dC dI H.size m0 a1 a2 a3 a4 a5 a6 a7 a8 a9 a10 a11 (0) (ab) (be) mp mb ml mz cA j n sf hh rr h r hj hsf (by omega)) (gwV wl_X3_77 wm_X3_append we_X3_append wi_X3 wc_X3_append) rfl rfl (by decide +kernel) ⟨Nat.le_of_ble_eq_true rfl, Nat.le_of_ble_eq_true rfl⟩ (hK.sub [0] rfl) hP hD hS hA [0, 1, 2, 3] rfl (by decide) [(true, 0), (true, 1), (true, 2), (true, 3), (false, 4)] rfl (by decide) rfl 0 rfl rfl rfl rfl hl.1 rfl (Nat.le_of_ble_eq_true rfl) dX3_corner_99 ⟨Nat.zero_le _, Nat.zero_le _⟩ (fun H locs hP hD hS => ?_)
                  refine lv_iconst (v := zi (1)) hx hb dX3_corner_102 rfl ?_
                  have hP9 : va_P (dC, dI) vwCl [(m0, .inr (3, [.int (zi (0)), .int (zi ((mp : Int))), .ref a1, .ref a2, .ref a3, .ref a4, .ref a5, .ref a6, .int (zi ((mb : Int))), .ref a7, .ref a8, .int (zi ((ml : Int))), .ref a9, .ref a10, .int (zi ((mz : Int))), .ref a11, .long (zl (ab)), .long (zl (be))])), (a1, .inl (cA, 6, .inl (zA (zupd sf (j) (((n + 1 : Nat) : Int)))))), (a2, .inl (cA, 72, .inl (zA (zupd hh (12 * j + n) (h))))), (a3, .inl (cA, 72, .inl (zA (zupd rr (12 * j + n) (r))))), (a4, .inl (cZ, 6, .inl (zA (cf))))] H := hP
                  rw [hQQ]
                  exact wr_z hx hb hr hlocks rfl (by first | exact Or.inl rfl | exact Or.inr rfl | exact zb_01 _ | omega) hP9 hS dX3_corner_103
                · exact absurd c_90 (by decide)
              · exact absurd c_78 (by decide)
            · exact False.elim (by omega)
      · exact absurd c_37 (by decide)
  · exact absurd c_5 (by decide)

set_option maxHeartbeats 4000000 in
set_option maxRecDepth 100000 in
theorem k_corner_n (l : Launch) (dC : Nat → ClassId) (dI : Nat → Nat → Nat) (sz : Nat) (m0 a1 a2 a3 a4 a5 a6 a7 a8 a9 a10 a11 : Nat) (tw ab be : Int) (mp mb ml mz : Nat) (cA cZ : ClassId) (j n : Nat) (sf hh rr hs rs : Nat → Int) (cf : Nat → Int) (h r : Int) (hj : j < 6) (hsf : sf j = (n : Int)) (hhs : ∀ k, k < 12 → hh (12 * j + k) = hs k) (hrs : ∀ k, k < 12 → rr (12 * j + k) = rs k) (hn : n ≤ 12) (hH : ∀ j, 0 ≤ hs j ∧ hs j ≤ 400) (hR : ∀ j, 0 ≤ rs j ∧ rs j ≤ 200) (hmp : mp ≤ 6) (hjp : j < mp) (wc : Int) (hcf9 : cf j = wc) (hw : wc = 0 ∨ wc = 1) (h9 : 0 ≤ h ∧ h ≤ 400) (r9 : 0 ≤ r ∧ r ≤ 200) (hcl : wc = 0 ∧ n < 12) (hso : 1 < n → hs (n - 2) ≤ hs (n - 1)) (hcn : p_canf n hs rs h r = false) : Met l yX3_corner (Cond.code yX3_corner cX3_corner 5 ((Option.some Jvm.ClassFile.FieldType.boolean)) :: gw) rm_X3_corner (PcW [.ref m0, .int (zi ((j : Int))), .int (zi (h)), .int (zi (r))] (dC, dI) vwCl [(m0, .inr (3, [.int (zi (tw)), .int (zi ((mp : Int))), .ref a1, .ref a2, .ref a3, .ref a4, .ref a5, .ref a6, .int (zi ((mb : Int))), .ref a7, .ref a8, .int (zi ((ml : Int))), .ref a9, .ref a10, .int (zi ((mz : Int))), .ref a11, .long (zl (ab)), .long (zl (be))])), (a1, .inl (cA, 6, .inl (zA (sf)))), (a2, .inl (cA, 72, .inl (zA (hh)))), (a3, .inl (cA, 72, .inl (zA (rr)))), (a4, .inl (cZ, 6, .inl (zA (cf))))] [(cA, .int), (cZ, .boolean)] sz) (WrQ (some (.int (zi 0))) (dC, dI) vwCl [(m0, .inr (3, [.int (zi (0)), .int (zi ((mp : Int))), .ref a1, .ref a2, .ref a3, .ref a4, .ref a5, .ref a6, .int (zi ((mb : Int))), .ref a7, .ref a8, .int (zi ((ml : Int))), .ref a9, .ref a10, .int (zi ((mz : Int))), .ref a11, .long (zl (ab)), .long (zl (be))])), (a1, .inl (cA, 6, .inl (zA (sf)))), (a2, .inl (cA, 72, .inl (zA (hh)))), (a3, .inl (cA, 72, .inl (zA (rr)))), (a4, .inl (cZ, 6, .inl (zA (cf))))] (va_A [(m0, .inr (3, [.int (zi (tw)), .int (zi ((mp : Int))), .ref a1, .ref a2, .ref a3, .ref a4, .ref a5, .ref a6, .int (zi ((mb : Int))), .ref a7, .ref a8, .int (zi ((ml : Int))), .ref a9, .ref a10, .int (zi ((mz : Int))), .ref a11, .long (zl (ab)), .long (zl (be))])), (a1, .inl (cA, 6, .inl (zA (sf)))), (a2, .inl (cA, 72, .inl (zA (hh)))), (a3, .inl (cA, 72, .inl (zA (rr)))), (a4, .inl (cZ, 6, .inl (zA (cf))))] sz)) 0 0 (va_A [(m0, .inr (3, [.int (zi (tw)), .int (zi ((mp : Int))), .ref a1, .ref a2, .ref a3, .ref a4, .ref a5, .ref a6, .int (zi ((mb : Int))), .ref a7, .ref a8, .int (zi ((ml : Int))), .ref a9, .ref a10, .int (zi ((mz : Int))), .ref a11, .long (zl (ab)), .long (zl (be))])), (a1, .inl (cA, 6, .inl (zA (sf)))), (a2, .inl (cA, 72, .inl (zA (hh)))), (a3, .inl (cA, 72, .inl (zA (rr)))), (a4, .inl (cZ, 6, .inl (zA (cf))))] sz) := by
  refine Met.ofW (cc := cX3_corner) (maxL := 5) (ret := ((Option.some Jvm.ClassFile.FieldType.boolean))) (by decide) rfl ?_
  intro p e s m args below meth c s₁ B hml hv
  obtain ⟨hargs, hsz, hP, hK, hD0⟩ := hv
  have hx := B.exec
  have hb := B.bytes
  have hr := B.returns
  have hts := atoms_spec (ws := Cond.code yX3_corner cX3_corner 5 ((Option.some Jvm.ClassFile.FieldType.boolean)) :: gw) B.pre
  have hg : ∀ w ∈ gw, w.before args s = true := fun w h => hts w (List.mem_cons_of_mem _ h)
  have hown : s.vm.findClass RX3 = some m.cls := findClass_of_methodNamed B.named
  have hlocks := B.notSynchronized
  subst hsz
  have hD := hD0.self (sz := s.heap.size)
  generalize hAe : va_A [(m0, .inr (3, [.int (zi (tw)), .int (zi ((mp : Int))), .ref a1, .ref a2, .ref a3, .ref a4, .ref a5, .ref a6, .int (zi ((mb : Int))), .ref a7, .ref a8, .int (zi ((ml : Int))), .ref a9, .ref a10, .int (zi ((mz : Int))), .ref a11, .long (zl (ab)), .long (zl (be))])), (a1, .inl (cA, 6, .inl (zA (sf)))), (a2, .inl (cA, 72, .inl (zA (hh)))), (a3, .inl (cA, 72, .inl (zA (rr)))), (a4, .inl (cZ, 6, .inl (zA (cf))))] s.heap.size = A at hD ⊢
  have hA : ∀ q : Nat, s.heap.size ≤ q → A q := fun q h => by rw [← hAe]; exact Or.inr h
  show W p l e rm_X3_corner s m args below meth c s.heap [] 0 0 _ _
  have hl := lv_entry ([.ref m0, .int (zi ((j : Int))), .int (zi (h)), .int (zi (r))]) (n := 5) (Nat.le_of_ble_eq_true rfl)
  rw [show entryFrame m args 5 = entryFrame m ([.ref m0, .int (zi ((j : Int))), .int (zi (h)), .int (zi (r))] : List Value).toArray 5 by rw [hargs], lg_entry_eq]
  generalize (lg_sl ([.ref m0, .int (zi ((j : Int))), .int (zi (h)), .int (zi (r))]) ++ List.replicate (5 - (lg_sl ([.ref m0, .int (zi ((j : Int))), .int (zi (h)), .int (zi (r))])).length) Slot.unset).toArray = ls at hl ⊢
  have hl : lv_has ls 5 [(0, .ref m0), (1, .int (zi ((j : Int)))), (2, .int (zi (h))), (3, .int (zi (r)))] := hl
  obtain ⟨QQ, hQQ⟩ : ∃ Q, Q = MQ below (WrQ (some (.int (zi 0))) (dC, dI) vwCl [(m0, .inr (3, [.int (zi (0)), .int (zi ((mp : Int))), .ref a1, .ref a2, .ref a3, .ref a4, .ref a5, .ref a6, .int (zi ((mb : Int))), .ref a7, .ref a8, .int (zi ((ml : Int))), .ref a9, .ref a10, .int (zi ((mz : Int))), .ref a11, .long (zl (ab)), .long (zl (be))])), (a1, .inl (cA, 6, .inl (zA (sf)))), (a2, .inl (cA, 72, .inl (zA (hh)))), (a3, .inl (cA, 72, .inl (zA (rr)))), (a4, .inl (cZ, 6, .inl (zA (cf))))] A) args s 0 0 A := ⟨_, rfl⟩
  rw [← hQQ]
  obtain ⟨H, hHe⟩ : ∃ H : Heap, H = s.heap := ⟨_, rfl⟩
  obtain ⟨locs, hlc⟩ : ∃ x : List Loc, x = [] := ⟨_, rfl⟩
  have hS : va_S A s.heap H locs := by rw [hHe, hlc]; exact va_S.rf
  have hP : va_P (dC, dI) vwCl [(m0, .inr (3, [.int (zi (tw)), .int (zi ((mp : Int))), .ref a1, .ref a2, .ref a3, .ref a4, .ref a5, .ref a6, .int (zi ((mb : Int))), .ref a7, .ref a8, .int (zi ((ml : Int))), .ref a9, .ref a10, .int (zi ((mz : Int))), .ref a11, .long (zl (ab)), .long (zl (be))])), (a1, .inl (cA, 6, .inl (zA (sf)))), (a2, .inl (cA, 72, .inl (zA (hh)))), (a3, .inl (cA, 72, .inl (zA (rr)))), (a4, .inl (cZ, 6, .inl (zA (cf))))] H := by rw [hHe]; exact hP
  have hD : va_D A [(m0, .inr (3, [.int (zi (tw)), .int (zi ((mp : Int))), .ref a1, .ref a2, .ref a3, .ref a4, .ref a5, .ref a6, .int (zi ((mb : Int))), .ref a7, .ref a8, .int (zi ((ml : Int))), .ref a9, .ref a10, .int (zi ((mz : Int))), .ref a11, .long (zl (ab)), .long (zl (be))])), (a1, .inl (cA, 6, .inl (zA (sf)))), (a2, .inl (cA, 72, .inl (zA (hh)))), (a3, .inl (cA, 72, .inl (zA (rr)))), (a4, .inl (cZ, 6, .inl (zA (cf))))] := hD
  rw [← hHe, ← hlc]
  refine lv_aload_n hx hb dX3_corner_0 rfl (lv_at hl 0 rfl) ?_
  refine lv_iload_n hx hb dX3_corner_1 rfl (lv_at hl 1 rfl) ?_
  refine rdV (As := [.int (zi ((j : Int)))]) (rest := []) (n := 1) hx hb hml hown hg (c_X3_isProfile l dC dI m0 a1 a2 a3 a4 a5 a6 a7 a8 a9 a10 a11 (tw) (ab) (be) mp mb ml mz ((j : Int)) hmp (by omega)) (gwV wl_X3_70 wm_X3_isProfile we_X3_isProfile wi_X3 wc_X3_isProfile) rfl rfl (by decide +kernel) ⟨Nat.le_of_ble_eq_true rfl, Nat.le_of_ble_eq_true rfl⟩ (hK.sub [] rfl) (hP.sub [0] rfl) 0 rfl rfl rfl rfl hl.1 rfl (Nat.le_of_ble_eq_true rfl) dX3_corner_2 ⟨Nat.zero_le _, Nat.zero_le _⟩ ?_
  refine zz_topi (z := 1) (congrArg zi (zb_t (decide_eq_true (by omega)))) ?_
  refine zz_if_ne (tgt := 12) hx hb (by omega) dX3_corner_5 (by decide) (fun c_5 => ?_) (fun c_5 => ?_)
  · refine lv_iconst (v := zi (0)) hx hb dX3_corner_12 rfl ?_
    refine lv_istore (lv' := [(4, .int (zi (0))), (0, .ref m0), (1, .int (zi ((j : Int)))), (2, .int (zi (h))), (3, .int (zi (r)))]) hx hb dX3_corner_13 hl (by decide) rfl (fun ls hl => ?_)
    refine lv_aload_n hx hb dX3_corner_15 rfl (lv_at hl 1 rfl) ?_
    refine lv_iload hx hb dX3_corner_16 (lv_at hl 0 rfl) ?_
    refine lv_iload_n hx hb dX3_corner_18 rfl (lv_at hl 3 rfl) ?_
    refine lv_iconst (v := zi (0)) hx hb dX3_corner_19 rfl ?_
    refine lv_sipush (v := zi (400)) hx hb dX3_corner_20 (by decide) ?_
    refine rdS (As := [.int (zi (h)), .int (zi (0)), .int (zi (400))]) (rest := [.int (zi (0)), .ref m0]) (n := 3) hx hb hml hown hg (c_X3_in l (h) (0) (400) (by omega) (by omega) (by omega)) (gwS wl_X3_55 wt_X3_in wi_X3 wc_X3_in) rfl rfl (by decide +kernel) ⟨Nat.le_of_ble_eq_true rfl, Nat.le_of_ble_eq_true rfl⟩ rfl hl.1 rfl (Nat.le_of_ble_eq_true rfl) dX3_corner_23 ⟨Nat.zero_le _, Nat.zero_le _⟩ ?_
    refine zz_topi (z := 1) (congrArg zi (zb_t (decide_eq_true (by omega)))) ?_
    refine zz_if_eq (tgt := 40) hx hb (by omega) dX3_corner_26 (by decide) (fun c_26 => ?_) (fun c_26 => ?_)
    · exact absurd c_26 (by decide)
    · refine lv_iload_n hx hb dX3_corner_29 rfl (lv_at hl 4 rfl) ?_
      refine lv_iconst (v := zi (0)) hx hb dX3_corner_30 rfl ?_
      refine lv_sipush (v := zi (200)) hx hb dX3_corner_31 (by decide) ?_
      refine rdS (As := [.int (zi (r)), .int (zi (0)), .int (zi (200))]) (rest := [.int (zi (0)), .ref m0]) (n := 3) hx hb hml hown hg (c_X3_in l (r) (0) (200) (by omega) (by omega) (by omega)) (gwS wl_X3_55 wt_X3_in wi_X3 wc_X3_in) rfl rfl (by decide +kernel) ⟨Nat.le_of_ble_eq_true rfl, Nat.le_of_ble_eq_true rfl⟩ rfl hl.1 rfl (Nat.le_of_ble_eq_true rfl) dX3_corner_34 ⟨Nat.zero_le _, Nat.zero_le _⟩ ?_
      refine zz_topi (z := 1) (congrArg zi (zb_t (decide_eq_true (by omega)))) ?_
      refine zz_if_ne (tgt := 44) hx hb (by omega) dX3_corner_37 (by decide) (fun c_37 => ?_) (fun c_37 => ?_)
      · refine lv_iconst (v := zi (0)) hx hb dX3_corner_44 rfl ?_
        refine lv_iload hx hb dX3_corner_45 (lv_at hl 0 rfl) ?_
        refine zz_if_ne (tgt := 74) hx hb (by omega) dX3_corner_47 (by decide) (fun c_47 => ?_) (fun c_47 => ?_)
        · exact absurd c_47 (by decide)
        · refine lv_aload_n hx hb dX3_corner_50 rfl (lv_at hl 1 rfl) ?_
          refine va_get (D := (dC, dI)) (ci := 3) (v := .ref a1) (C := RX3) (T := TX3) (N := 18) hx hb hg inX3 hown hK hP 0 rfl rfl 2 (by decide) (hg _ wl_X3_7) (fun _ h9 => h9) rfl dX3_corner_51 ?_
          refine lv_iload_n hx hb dX3_corner_54 rfl (lv_at hl 2 rfl) ?_
          refine zz_iald hx hb hK hP 1 0 rfl rfl (j) (by omega) (by omega) (by decide) dX3_corner_55 ?_
          refine zz_topi (z := (n : Int)) (congrArg zi hsf) ?_
          refine lv_bipush (v := zi (12)) hx hb dX3_corner_56 (by decide) ?_
          refine zz_icmp_eq (tgt := 70) hx hb (by omega) (by omega) dX3_corner_58 (by decide) (fun c_58 => ?_) (fun c_58 => ?_)
          · exact False.elim (by omega)
          · refine lv_aload_n hx hb dX3_corner_61 rfl (lv_at hl 1 rfl) ?_
            refine va_get (D := (dC, dI)) (ci := 3) (v := .ref a4) (C := RX3) (T := TX3) (N := 18) hx hb hg inX3 hown hK hP 0 rfl rfl 5 (by decide) (hg _ wl_X3_19) (fun _ h9 => h9) rfl dX3_corner_62 ?_
            refine lv_iload_n hx hb dX3_corner_65 rfl (lv_at hl 2 rfl) ?_
            refine zz_zald hx hb hK hP 4 1 rfl rfl (j) (by omega) (by omega) (by decide) dX3_corner_66 ?_
            refine zz_topi (z := wc) (congrArg zi hcf9) ?_
            refine zz_if_eq (tgt := 74) hx hb (by omega) dX3_corner_67 (by decide) (fun c_67 => ?_) (fun c_67 => ?_)
            · refine lv_iconst (v := zi (0)) hx hb dX3_corner_74 rfl ?_
              refine wrV (As := [.int (zi (0)), .int (zi (0)), .int (zi (0))]) (rest := []) (n := 3) (ws' := [(m0, .inr (3, [.int (zi (0)), .int (zi ((mp : Int))), .ref a1, .ref a2, .ref a3, .ref a4, .ref a5, .ref a6, .int (zi ((mb : Int))), .ref a7, .ref a8, .int (zi ((ml : Int))), .ref a9, .ref a10, .int (zi ((mz : Int))), .ref a11, .long (zl (ab)), .long (zl (be))])), (a1, .inl (cA, 6, .inl (zA (sf)))), (a2, .inl (cA, 72, .inl (zA (hh)))), (a3, .inl (cA, 72, .inl (zA (rr)))), (a4, .inl (cZ, 6, .inl (zA (cf))))]) hx hb hml hown hg (c_throwing l dC dI H.size m0 a1 a2 a3 a4 a5 a6 a7 a8 a9 a10 a11 (tw) (ab) (be) mp mb ml mz 0 0 0 (by decide) (by decide) (by decide)) (gwV wl_X3_59 wm_X3_throwing we_X3_throwing wi_X3 wc_X3_throwing) rfl rfl (by decide +kernel) ⟨Nat.le_of_ble_eq_true rfl, Nat.le_of_ble_eq_true rfl⟩ (hK.sub [] rfl) hP hD hS hA [0] rfl (by decide) [(true, 0), (false, 1), (false, 2), (false, 3), (false, 4)] rfl (by decide) rfl 0 rfl rfl rfl rfl hl.1 rfl (Nat.le_of_ble_eq_true rfl) dX3_corner_75 ⟨Nat.zero_le _, Nat.zero_le _⟩ (fun H locs hP hD hS => ?_)
              refine zz_topi (z := 0) (congrArg zi (by decide)) ?_
              refine zz_if_eq (tgt := 83) hx hb (by omega) dX3_corner_78 (by decide) (fun c_78 => ?_) (fun c_78 => ?_)
              · refine lv_aload_n hx hb dX3_corner_83 rfl (lv_at hl 1 rfl) ?_
                refine lv_iload_n hx hb dX3_corner_84 rfl (lv_at hl 2 rfl) ?_
                refine lv_iload_n hx hb dX3_corner_85 rfl (lv_at hl 3 rfl) ?_
                refine lv_iload_n hx hb dX3_corner_86 rfl (lv_at hl 4 rfl) ?_
                refine rdV (As := [.int (zi ((j : Int))), .int (zi (h)), .int (zi (r))]) (rest := []) (n := 3) hx hb hml hown hg (c_X3_mayFollow l dC dI m0 a1 a2 a3 a4 a5 a6 a7 a8 a9 a10 a11 (0) (ab) (be) mp mb ml mz cA j n sf hh rr hs rs h r hj hsf hhs hrs hn hH hR (by omega) h9 r9 hso) (gwV wl_X3_74 wm_X3_mayFollow we_X3_mayFollow wi_X3 wc_X3_mayFollow) rfl rfl (by decide +kernel) ⟨Nat.le_of_ble_eq_true rfl, Nat.le_of_ble_eq_true rfl⟩ (hK.sub [0] rfl) (hP.sub [0, 1, 2, 3] rfl) 0 rfl rfl rfl rfl hl.1 rfl (Nat.le_of_ble_eq_true rfl) dX3_corner_87 ⟨Nat.zero_le _, Nat.zero_le _⟩ ?_
                refine zz_topi (z := 0) (congrArg zi (zb_f hcn)) ?_
                refine zz_if_ne (tgt := 95) hx hb (by omega) dX3_corner_90 (by decide) (fun c_90 => ?_) (fun c_90 => ?_)
                · exact absurd c_90 (by decide)
                · refine lv_iconst (v := zi (0)) hx hb dX3_corner_93 rfl ?_
                  have hP9 : va_P (dC, dI) vwCl [(m0, .inr (3, [.int (zi (0)), .int (zi ((mp : Int))), .ref a1, .ref a2, .ref a3, .ref a4, .ref a5, .ref a6, .int (zi ((mb : Int))), .ref a7, .ref a8, .int (zi ((ml : Int))), .ref a9, .ref a10, .int (zi ((mz : Int))), .ref a11, .long (zl (ab)), .long (zl (be))])), (a1, .inl (cA, 6, .inl (zA (sf)))), (a2, .inl (cA, 72, .inl (zA (hh)))), (a3, .inl (cA, 72, .inl (zA (rr)))), (a4, .inl (cZ, 6, .inl (zA (cf))))] H := hP
                  rw [hQQ]
                  exact wr_z hx hb hr hlocks rfl (by first | exact Or.inl rfl | exact Or.inr rfl | exact zb_01 _ | omega) hP9 hS dX3_corner_94
              · exact absurd c_78 (by decide)
            · exact False.elim (by omega)
      · exact absurd c_37 (by decide)
  · exact absurd c_5 (by decide)

abbrev rm_X3_at : Room := { frames := 2, cells := 0, slots := 0, locals := 43 }
set_option maxHeartbeats 4000000 in
set_option maxRecDepth 100000 in
theorem e_at_1 (l : Launch) (dC : Nat → ClassId) (dI : Nat → Nat → Nat) (sz : Nat) (m0 a1 a2 a3 a4 a5 a6 a7 a8 a9 a10 a11 : Nat) (tw ab be : Int) (mp mb ml mz : Nat) (q k what : Int) (hmp : mp ≤ 6) (h_q : -2147483648 ≤ q ∧ q < 2147483648) (hbad : ¬ (0 ≤ q ∧ q < (mp : Int))) : Met l yX3_at (Cond.code yX3_at cX3_at 4 ((Option.some Jvm.ClassFile.FieldType.int)) :: gw) rm_X3_at (PcW [.ref m0, .int (zi (q)), .int (zi (k)), .int (zi (what))] (dC, dI) vwCl [(m0, .inr (3, [.int (zi (tw)), .int (zi ((mp : Int))), .ref a1, .ref a2, .ref a3, .ref a4, .ref a5, .ref a6, .int (zi ((mb : Int))), .ref a7, .ref a8, .int (zi ((ml : Int))), .ref a9, .ref a10, .int (zi ((mz : Int))), .ref a11, .long (zl (ab)), .long (zl (be))]))] [] sz) (WrQ (some (.int (zi 0))) (dC, dI) vwCl [(m0, .inr (3, [.int (zi (1)), .int (zi ((mp : Int))), .ref a1, .ref a2, .ref a3, .ref a4, .ref a5, .ref a6, .int (zi ((mb : Int))), .ref a7, .ref a8, .int (zi ((ml : Int))), .ref a9, .ref a10, .int (zi ((mz : Int))), .ref a11, .long (zl (ab)), .long (zl (be))]))] (va_A [(m0, .inr (3, [.int (zi (tw)), .int (zi ((mp : Int))), .ref a1, .ref a2, .ref a3, .ref a4, .ref a5, .ref a6, .int (zi ((mb : Int))), .ref a7, .ref a8, .int (zi ((ml : Int))), .ref a9, .ref a10, .int (zi ((mz : Int))), .ref a11, .long (zl (ab)), .long (zl (be))]))] sz)) 0 0 (va_A [(m0, .inr (3, [.int (zi (tw)), .int (zi ((mp : Int))), .ref a1, .ref a2, .ref a3, .ref a4, .ref a5, .ref a6, .int (zi ((mb : Int))), .ref a7, .ref a8, .int (zi ((ml : Int))), .ref a9, .ref a10, .int (zi ((mz : Int))), .ref a11, .long (zl (ab)), .long (zl (be))]))] sz) := by
  refine Met.ofW (cc := cX3_at) (maxL := 4) (ret := ((Option.some Jvm.ClassFile.FieldType.int))) (by decide) rfl ?_
  intro p e s m args below meth c s₁ B hml hv
  obtain ⟨hargs, hsz, hP, hK, hD0⟩ := hv
  have hx := B.exec
  have hb := B.bytes
  have hr := B.returns
  have hts := atoms_spec (ws := Cond.code yX3_at cX3_at 4 ((Option.some Jvm.ClassFile.FieldType.int)) :: gw) B.pre
  have hg : ∀ w ∈ gw, w.before args s = true := fun w h => hts w (List.mem_cons_of_mem _ h)
  have hown : s.vm.findClass RX3 = some m.cls := findClass_of_methodNamed B.named
  have hlocks := B.notSynchronized
  subst hsz
  have hD := hD0.self (sz := s.heap.size)
  generalize hAe : va_A [(m0, .inr (3, [.int (zi (tw)), .int (zi ((mp : Int))), .ref a1, .ref a2, .ref a3, .ref a4, .ref a5, .ref a6, .int (zi ((mb : Int))), .ref a7, .ref a8, .int (zi ((ml : Int))), .ref a9, .ref a10, .int (zi ((mz : Int))), .ref a11, .long (zl (ab)), .long (zl (be))]))] s.heap.size = A at hD ⊢
  have hA : ∀ q : Nat, s.heap.size ≤ q → A q := fun q h => by rw [← hAe]; exact Or.inr h
  show W p l e rm_X3_at s m args below meth c s.heap [] 0 0 _ _
  have hl := lv_entry ([.ref m0, .int (zi (q)), .int (zi (k)), .int (zi (what))]) (n := 4) (Nat.le_of_ble_eq_true rfl)
  rw [show entryFrame m args 4 = entryFrame m ([.ref m0, .int (zi (q)), .int (zi (k)), .int (zi (what))] : List Value).toArray 4 by rw [hargs], lg_entry_eq]
  generalize (lg_sl ([.ref m0, .int (zi (q)), .int (zi (k)), .int (zi (what))]) ++ List.replicate (4 - (lg_sl ([.ref m0, .int (zi (q)), .int (zi (k)), .int (zi (what))])).length) Slot.unset).toArray = ls at hl ⊢
  have hl : lv_has ls 4 [(0, .ref m0), (1, .int (zi (q))), (2, .int (zi (k))), (3, .int (zi (what)))] := hl
  obtain ⟨QQ, hQQ⟩ : ∃ Q, Q = MQ below (WrQ (some (.int (zi 0))) (dC, dI) vwCl [(m0, .inr (3, [.int (zi (1)), .int (zi ((mp : Int))), .ref a1, .ref a2, .ref a3, .ref a4, .ref a5, .ref a6, .int (zi ((mb : Int))), .ref a7, .ref a8, .int (zi ((ml : Int))), .ref a9, .ref a10, .int (zi ((mz : Int))), .ref a11, .long (zl (ab)), .long (zl (be))]))] A) args s 0 0 A := ⟨_, rfl⟩
  rw [← hQQ]
  obtain ⟨H, hHe⟩ : ∃ H : Heap, H = s.heap := ⟨_, rfl⟩
  obtain ⟨locs, hlc⟩ : ∃ x : List Loc, x = [] := ⟨_, rfl⟩
  have hS : va_S A s.heap H locs := by rw [hHe, hlc]; exact va_S.rf
  have hP : va_P (dC, dI) vwCl [(m0, .inr (3, [.int (zi (tw)), .int (zi ((mp : Int))), .ref a1, .ref a2, .ref a3, .ref a4, .ref a5, .ref a6, .int (zi ((mb : Int))), .ref a7, .ref a8, .int (zi ((ml : Int))), .ref a9, .ref a10, .int (zi ((mz : Int))), .ref a11, .long (zl (ab)), .long (zl (be))]))] H := by rw [hHe]; exact hP
  have hD : va_D A [(m0, .inr (3, [.int (zi (tw)), .int (zi ((mp : Int))), .ref a1, .ref a2, .ref a3, .ref a4, .ref a5, .ref a6, .int (zi ((mb : Int))), .ref a7, .ref a8, .int (zi ((ml : Int))), .ref a9, .ref a10, .int (zi ((mz : Int))), .ref a11, .long (zl (ab)), .long (zl (be))]))] := hD
  rw [← hHe, ← hlc]
  refine lv_aload_n hx hb dX3_at_0 rfl (lv_at hl 0 rfl) ?_
  refine lv_aload_n hx hb dX3_at_1 rfl (lv_at hl 0 rfl) ?_
  refine lv_iload_n hx hb dX3_at_2 rfl (lv_at hl 1 rfl) ?_
  refine rdV (As := [.int (zi (q))]) (rest := [.ref m0]) (n := 1) hx hb hml hown hg (c_X3_isProfile l dC dI m0 a1 a2 a3 a4 a5 a6 a7 a8 a9 a10 a11 (tw) (ab) (be) mp mb ml mz (q) hmp (by omega)) (gwV wl_X3_70 wm_X3_isProfile we_X3_isProfile wi_X3 wc_X3_isProfile) rfl rfl (by decide +kernel) ⟨Nat.le_of_ble_eq_true rfl, Nat.le_of_ble_eq_true rfl⟩ (hK.sub [] rfl) (hP.sub [0] rfl) 0 rfl rfl rfl rfl hl.1 rfl (Nat.le_of_ble_eq_true rfl) dX3_at_3 ⟨Nat.zero_le _, Nat.zero_le _⟩ ?_
  refine zz_topi (z := 0) (congrArg zi (zb_f (decide_eq_false (by omega)))) ?_
  refine zz_if_eq (tgt := 34) hx hb (by omega) dX3_at_6 (by decide) (fun c_6 => ?_) (fun c_6 => ?_)
  · refine lv_iconst (v := zi (1)) hx hb dX3_at_34 rfl ?_
    refine lv_goto (tgt := 39) hx hb dX3_at_35 (by decide) ?_
    refine lv_iconst (v := zi (0)) hx hb dX3_at_39 rfl ?_
    refine lv_iconst (v := zi (0)) hx hb dX3_at_40 rfl ?_
    refine wrV (As := [.int (zi (1)), .int (zi (0)), .int (zi (0))]) (rest := []) (n := 3) (ws' := [(m0, .inr (3, [.int (zi (1)), .int (zi ((mp : Int))), .ref a1, .ref a2, .ref a3, .ref a4, .ref a5, .ref a6, .int (zi ((mb : Int))), .ref a7, .ref a8, .int (zi ((ml : Int))), .ref a9, .ref a10, .int (zi ((mz : Int))), .ref a11, .long (zl (ab)), .long (zl (be))]))]) hx hb hml hown hg (c_throwing l dC dI H.size m0 a1 a2 a3 a4 a5 a6 a7 a8 a9 a10 a11 (tw) (ab) (be) mp mb ml mz 1 0 0 (by decide) (by decide) (by decide)) (gwV wl_X3_59 wm_X3_throwing we_X3_throwing wi_X3 wc_X3_throwing) rfl rfl (by decide +kernel) ⟨Nat.le_of_ble_eq_true rfl, Nat.le_of_ble_eq_true rfl⟩ (hK.sub [] rfl) hP hD hS hA [0] rfl (by decide) [(true, 0)] rfl (by decide) rfl 0 rfl rfl rfl rfl hl.1 rfl (Nat.le_of_ble_eq_true rfl) dX3_at_41 ⟨Nat.zero_le _, Nat.zero_le _⟩ (fun H locs hP hD hS => ?_)
    refine zz_topi (z := 1) (congrArg zi (by decide)) ?_
    refine zz_if_eq (tgt := 49) hx hb (by omega) dX3_at_44 (by decide) (fun c_44 => ?_) (fun c_44 => ?_)
    · exact absurd c_44 (by decide)
    · refine lv_iconst (v := zi (0)) hx hb dX3_at_47 rfl ?_
      have hP9 : va_P (dC, dI) vwCl [(m0, .inr (3, [.int (zi (1)), .int (zi ((mp : Int))), .ref a1, .ref a2, .ref a3, .ref a4, .ref a5, .ref a6, .int (zi ((mb : Int))), .ref a7, .ref a8, .int (zi ((ml : Int))), .ref a9, .ref a10, .int (zi ((mz : Int))), .ref a11, .long (zl (ab)), .long (zl (be))]))] H := hP
      rw [hQQ]
      exact wr_i hx hb hr hlocks rfl hP9 hS dX3_at_48
  · exact absurd c_6 (by decide)

set_option maxHeartbeats 4000000 in
set_option maxRecDepth 100000 in
theorem e_at_2 (l : Launch) (dC : Nat → ClassId) (dI : Nat → Nat → Nat) (sz : Nat) (m0 a1 a2 a3 a4 a5 a6 a7 a8 a9 a10 a11 : Nat) (tw ab be : Int) (mp mb ml mz : Nat) (cA : ClassId) (j n : Nat) (sf hh rr hs rs : Nat → Int) (k what : Int) (hj : j < 6) (hsf : sf j = (n : Int)) (hhs : ∀ k, k < 12 → hh (12 * j + k) = hs k) (hrs : ∀ k, k < 12 → rr (12 * j + k) = rs k) (hn : n ≤ 12) (hH : ∀ j, 0 ≤ hs j ∧ hs j ≤ 400) (hR : ∀ j, 0 ≤ rs j ∧ rs j ≤ 200) (hmp : mp ≤ 6) (hjp : j < mp) (h_k : -2147483648 ≤ k ∧ k < 2147483648) (h_what : -2147483648 ≤ what ∧ what < 2147483648) (hbad : ¬ ((k = -1 ∨ (0 ≤ k ∧ k < n)) ∧ (what = 0 ∨ what = 1))) : Met l yX3_at (Cond.code yX3_at cX3_at 4 ((Option.some Jvm.ClassFile.FieldType.int)) :: gw) rm_X3_at (PcW [.ref m0, .int (zi ((j : Int))), .int (zi (k)), .int (zi (what))] (dC, dI) vwCl [(m0, .inr (3, [.int (zi (tw)), .int (zi ((mp : Int))), .ref a1, .ref a2, .ref a3, .ref a4, .ref a5, .ref a6, .int (zi ((mb : Int))), .ref a7, .ref a8, .int (zi ((ml : Int))), .ref a9, .ref a10, .int (zi ((mz : Int))), .ref a11, .long (zl (ab)), .long (zl (be))])), (a1, .inl (cA, 6, .inl (zA (sf)))), (a2, .inl (cA, 72, .inl (zA (hh)))), (a3, .inl (cA, 72, .inl (zA (rr))))] [(cA, .int)] sz) (WrQ (some (.int (zi 0))) (dC, dI) vwCl [(m0, .inr (3, [.int (zi (1)), .int (zi ((mp : Int))), .ref a1, .ref a2, .ref a3, .ref a4, .ref a5, .ref a6, .int (zi ((mb : Int))), .ref a7, .ref a8, .int (zi ((ml : Int))), .ref a9, .ref a10, .int (zi ((mz : Int))), .ref a11, .long (zl (ab)), .long (zl (be))])), (a1, .inl (cA, 6, .inl (zA (sf)))), (a2, .inl (cA, 72, .inl (zA (hh)))), (a3, .inl (cA, 72, .inl (zA (rr))))] (va_A [(m0, .inr (3, [.int (zi (tw)), .int (zi ((mp : Int))), .ref a1, .ref a2, .ref a3, .ref a4, .ref a5, .ref a6, .int (zi ((mb : Int))), .ref a7, .ref a8, .int (zi ((ml : Int))), .ref a9, .ref a10, .int (zi ((mz : Int))), .ref a11, .long (zl (ab)), .long (zl (be))])), (a1, .inl (cA, 6, .inl (zA (sf)))), (a2, .inl (cA, 72, .inl (zA (hh)))), (a3, .inl (cA, 72, .inl (zA (rr))))] sz)) 0 0 (va_A [(m0, .inr (3, [.int (zi (tw)), .int (zi ((mp : Int))), .ref a1, .ref a2, .ref a3, .ref a4, .ref a5, .ref a6, .int (zi ((mb : Int))), .ref a7, .ref a8, .int (zi ((ml : Int))), .ref a9, .ref a10, .int (zi ((mz : Int))), .ref a11, .long (zl (ab)), .long (zl (be))])), (a1, .inl (cA, 6, .inl (zA (sf)))), (a2, .inl (cA, 72, .inl (zA (hh)))), (a3, .inl (cA, 72, .inl (zA (rr))))] sz) := by
  refine Met.ofW (cc := cX3_at) (maxL := 4) (ret := ((Option.some Jvm.ClassFile.FieldType.int))) (by decide) rfl ?_
  intro p e s m args below meth c s₁ B hml hv
  obtain ⟨hargs, hsz, hP, hK, hD0⟩ := hv
  have hx := B.exec
  have hb := B.bytes
  have hr := B.returns
  have hts := atoms_spec (ws := Cond.code yX3_at cX3_at 4 ((Option.some Jvm.ClassFile.FieldType.int)) :: gw) B.pre
  have hg : ∀ w ∈ gw, w.before args s = true := fun w h => hts w (List.mem_cons_of_mem _ h)
  have hown : s.vm.findClass RX3 = some m.cls := findClass_of_methodNamed B.named
  have hlocks := B.notSynchronized
  subst hsz
  have hD := hD0.self (sz := s.heap.size)
  generalize hAe : va_A [(m0, .inr (3, [.int (zi (tw)), .int (zi ((mp : Int))), .ref a1, .ref a2, .ref a3, .ref a4, .ref a5, .ref a6, .int (zi ((mb : Int))), .ref a7, .ref a8, .int (zi ((ml : Int))), .ref a9, .ref a10, .int (zi ((mz : Int))), .ref a11, .long (zl (ab)), .long (zl (be))])), (a1, .inl (cA, 6, .inl (zA (sf)))), (a2, .inl (cA, 72, .inl (zA (hh)))), (a3, .inl (cA, 72, .inl (zA (rr))))] s.heap.size = A at hD ⊢
  have hA : ∀ q : Nat, s.heap.size ≤ q → A q := fun q h => by rw [← hAe]; exact Or.inr h
  show W p l e rm_X3_at s m args below meth c s.heap [] 0 0 _ _
  have hl := lv_entry ([.ref m0, .int (zi ((j : Int))), .int (zi (k)), .int (zi (what))]) (n := 4) (Nat.le_of_ble_eq_true rfl)
  rw [show entryFrame m args 4 = entryFrame m ([.ref m0, .int (zi ((j : Int))), .int (zi (k)), .int (zi (what))] : List Value).toArray 4 by rw [hargs], lg_entry_eq]
  generalize (lg_sl ([.ref m0, .int (zi ((j : Int))), .int (zi (k)), .int (zi (what))]) ++ List.replicate (4 - (lg_sl ([.ref m0, .int (zi ((j : Int))), .int (zi (k)), .int (zi (what))])).length) Slot.unset).toArray = ls at hl ⊢
  have hl : lv_has ls 4 [(0, .ref m0), (1, .int (zi ((j : Int)))), (2, .int (zi (k))), (3, .int (zi (what)))] := hl
  obtain ⟨QQ, hQQ⟩ : ∃ Q, Q = MQ below (WrQ (some (.int (zi 0))) (dC, dI) vwCl [(m0, .inr (3, [.int (zi (1)), .int (zi ((mp : Int))), .ref a1, .ref a2, .ref a3, .ref a4, .ref a5, .ref a6, .int (zi ((mb : Int))), .ref a7, .ref a8, .int (zi ((ml : Int))), .ref a9, .ref a10, .int (zi ((mz : Int))), .ref a11, .long (zl (ab)), .long (zl (be))])), (a1, .inl (cA, 6, .inl (zA (sf)))), (a2, .inl (cA, 72, .inl (zA (hh)))), (a3, .inl (cA, 72, .inl (zA (rr))))] A) args s 0 0 A := ⟨_, rfl⟩
  rw [← hQQ]
  obtain ⟨H, hHe⟩ : ∃ H : Heap, H = s.heap := ⟨_, rfl⟩
  obtain ⟨locs, hlc⟩ : ∃ x : List Loc, x = [] := ⟨_, rfl⟩
  have hS : va_S A s.heap H locs := by rw [hHe, hlc]; exact va_S.rf
  have hP : va_P (dC, dI) vwCl [(m0, .inr (3, [.int (zi (tw)), .int (zi ((mp : Int))), .ref a1, .ref a2, .ref a3, .ref a4, .ref a5, .ref a6, .int (zi ((mb : Int))), .ref a7, .ref a8, .int (zi ((ml : Int))), .ref a9, .ref a10, .int (zi ((mz : Int))), .ref a11, .long (zl (ab)), .long (zl (be))])), (a1, .inl (cA, 6, .inl (zA (sf)))), (a2, .inl (cA, 72, .inl (zA (hh)))), (a3, .inl (cA, 72, .inl (zA (rr))))] H := by rw [hHe]; exact hP
  have hD : va_D A [(m0, .inr (3, [.int (zi (tw)), .int (zi ((mp : Int))), .ref a1, .ref a2, .ref a3, .ref a4, .ref a5, .ref a6, .int (zi ((mb : Int))), .ref a7, .ref a8, .int (zi ((ml : Int))), .ref a9, .ref a10, .int (zi ((mz : Int))), .ref a11, .long (zl (ab)), .long (zl (be))])), (a1, .inl (cA, 6, .inl (zA (sf)))), (a2, .inl (cA, 72, .inl (zA (hh)))), (a3, .inl (cA, 72, .inl (zA (rr))))] := hD
  rw [← hHe, ← hlc]
  refine lv_aload_n hx hb dX3_at_0 rfl (lv_at hl 0 rfl) ?_
  refine lv_aload_n hx hb dX3_at_1 rfl (lv_at hl 0 rfl) ?_
  refine lv_iload_n hx hb dX3_at_2 rfl (lv_at hl 1 rfl) ?_
  refine rdV (As := [.int (zi ((j : Int)))]) (rest := [.ref m0]) (n := 1) hx hb hml hown hg (c_X3_isProfile l dC dI m0 a1 a2 a3 a4 a5 a6 a7 a8 a9 a10 a11 (tw) (ab) (be) mp mb ml mz ((j : Int)) hmp (by omega)) (gwV wl_X3_70 wm_X3_isProfile we_X3_isProfile wi_X3 wc_X3_isProfile) rfl rfl (by decide +kernel) ⟨Nat.le_of_ble_eq_true rfl, Nat.le_of_ble_eq_true rfl⟩ (hK.sub [] rfl) (hP.sub [0] rfl) 0 rfl rfl rfl rfl hl.1 rfl (Nat.le_of_ble_eq_true rfl) dX3_at_3 ⟨Nat.zero_le _, Nat.zero_le _⟩ ?_
  refine zz_topi (z := 1) (congrArg zi (zb_t (decide_eq_true (by omega)))) ?_
  refine zz_if_eq (tgt := 34) hx hb (by omega) dX3_at_6 (by decide) (fun c_6 => ?_) (fun c_6 => ?_)
  · exact absurd c_6 (by decide)
  · refine lv_iload_n hx hb dX3_at_9 rfl (lv_at hl 2 rfl) ?_
    refine lv_iconst (v := zi (-1)) hx hb dX3_at_10 rfl ?_
    refine lv_aload_n hx hb dX3_at_11 rfl (lv_at hl 0 rfl) ?_
    refine va_get (D := (dC, dI)) (ci := 3) (v := .ref a1) (C := RX3) (T := TX3) (N := 18) hx hb hg inX3 hown hK hP 0 rfl rfl 2 (by decide) (hg _ wl_X3_7) (fun _ h9 => h9) rfl dX3_at_12 ?_
    refine lv_iload_n hx hb dX3_at_15 rfl (lv_at hl 1 rfl) ?_
    refine zz_iald hx hb hK hP 1 0 rfl rfl (j) (by omega) (by omega) (by decide) dX3_at_16 ?_
    refine zz_topi (z := (n : Int)) (congrArg zi hsf) ?_
    refine lv_iconst (v := zi (1)) hx hb dX3_at_17 rfl ?_
    refine zz_isub hx hb dX3_at_18 ?_
    refine rdS (As := [.int (zi (k)), .int (zi (-1)), .int (zi (((n : Int)) - (1)))]) (rest := [.ref m0]) (n := 3) hx hb hml hown hg (c_X3_in l (k) (-1) (((n : Int)) - (1)) (by omega) (by omega) (by omega)) (gwS wl_X3_55 wt_X3_in wi_X3 wc_X3_in) rfl rfl (by decide +kernel) ⟨Nat.le_of_ble_eq_true rfl, Nat.le_of_ble_eq_true rfl⟩ rfl hl.1 rfl (Nat.le_of_ble_eq_true rfl) dX3_at_19 ⟨Nat.zero_le _, Nat.zero_le _⟩ ?_
    refine zz_zb_eq (tgt := 34) hx hb dX3_at_22 (by decide) (fun c_22 => ?_) (fun c_22 => ?_)
    · refine lv_iconst (v := zi (1)) hx hb dX3_at_34 rfl ?_
      refine lv_goto (tgt := 39) hx hb dX3_at_35 (by decide) ?_
      refine lv_iconst (v := zi (0)) hx hb dX3_at_39 rfl ?_
      refine lv_iconst (v := zi (0)) hx hb dX3_at_40 rfl ?_
      refine wrV (As := [.int (zi (1)), .int (zi (0)), .int (zi (0))]) (rest := []) (n := 3) (ws' := [(m0, .inr (3, [.int (zi (1)), .int (zi ((mp : Int))), .ref a1, .ref a2, .ref a3, .ref a4, .ref a5, .ref a6, .int (zi ((mb : Int))), .ref a7, .ref a8, .int (zi ((ml : Int))), .ref a9, .ref a10, .int (zi ((mz : Int))), .ref a11, .long (zl (ab)), .long (zl (be))])), (a1, .inl (cA, 6, .inl (zA (sf)))), (a2, .inl (cA, 72, .inl (zA (hh)))), (a3, .inl (cA, 72, .inl (zA (rr))))]) hx hb hml hown hg (c_throwing l dC dI H.size m0 a1 a2 a3 a4 a5 a6 a7 a8 a9 a10 a11 (tw) (ab) (be) mp mb ml mz 1 0 0 (by decide) (by decide) (by decide)) (gwV wl_X3_59 wm_X3_throwing we_X3_throwing wi_X3 wc_X3_throwing) rfl rfl (by decide +kernel) ⟨Nat.le_of_ble_eq_true rfl, Nat.le_of_ble_eq_true rfl⟩ (hK.sub [] rfl) hP hD hS hA [0] rfl (by decide) [(true, 0), (false, 1), (false, 2), (false, 3)] rfl (by decide) rfl 0 rfl rfl rfl rfl hl.1 rfl (Nat.le_of_ble_eq_true rfl) dX3_at_41 ⟨Nat.zero_le _, Nat.zero_le _⟩ (fun H locs hP hD hS => ?_)
      refine zz_topi (z := 1) (congrArg zi (by decide)) ?_
      refine zz_if_eq (tgt := 49) hx hb (by omega) dX3_at_44 (by decide) (fun c_44 => ?_) (fun c_44 => ?_)
      · exact absurd c_44 (by decide)
      · refine lv_iconst (v := zi (0)) hx hb dX3_at_47 rfl ?_
        have hP9 : va_P (dC, dI) vwCl [(m0, .inr (3, [.int (zi (1)), .int (zi ((mp : Int))), .ref a1, .ref a2, .ref a3, .ref a4, .ref a5, .ref a6, .int (zi ((mb : Int))), .ref a7, .ref a8, .int (zi ((ml : Int))), .ref a9, .ref a10, .int (zi ((mz : Int))), .ref a11, .long (zl (ab)), .long (zl (be))])), (a1, .inl (cA, 6, .inl (zA (sf)))), (a2, .inl (cA, 72, .inl (zA (hh)))), (a3, .inl (cA, 72, .inl (zA (rr))))] H := hP
        rw [hQQ]
        exact wr_i hx hb hr hlocks rfl hP9 hS dX3_at_48
    · refine lv_iload_n hx hb dX3_at_25 rfl (lv_at hl 3 rfl) ?_
      refine lv_iconst (v := zi (0)) hx hb dX3_at_26 rfl ?_
      refine lv_iconst (v := zi (1)) hx hb dX3_at_27 rfl ?_
      refine rdS (As := [.int (zi (what)), .int (zi (0)), .int (zi (1))]) (rest := [.ref m0]) (n := 3) hx hb hml hown hg (c_X3_in l (what) (0) (1) (by omega) (by omega) (by omega)) (gwS wl_X3_55 wt_X3_in wi_X3 wc_X3_in) rfl rfl (by decide +kernel) ⟨Nat.le_of_ble_eq_true rfl, Nat.le_of_ble_eq_true rfl⟩ rfl hl.1 rfl (Nat.le_of_ble_eq_true rfl) dX3_at_28 ⟨Nat.zero_le _, Nat.zero_le _⟩ ?_
      refine zz_zb_ne (tgt := 38) hx hb dX3_at_31 (by decide) (fun c_31 => ?_) (fun c_31 => ?_)
      · exact False.elim (by omega)
      · refine lv_iconst (v := zi (1)) hx hb dX3_at_34 rfl ?_
        refine lv_goto (tgt := 39) hx hb dX3_at_35 (by decide) ?_
        refine lv_iconst (v := zi (0)) hx hb dX3_at_39 rfl ?_
        refine lv_iconst (v := zi (0)) hx hb dX3_at_40 rfl ?_
        refine wrV (As := [.int (zi (1)), .int (zi (0)), .int (zi (0))]) (rest := []) (n := 3) (ws' := [(m0, .inr (3, [.int (zi (1)), .int (zi ((mp : Int))), .ref a1, .ref a2, .ref a3, .ref a4, .ref a5, .ref a6, .int (zi ((mb : Int))), .ref a7, .ref a8, .int (zi ((ml : Int))), .ref a9, .ref a10, .int (zi ((mz : Int))), .ref a11, .long (zl (ab)), .long (zl (be))])), (a1, .inl (cA, 6, .inl (zA (sf)))), (a2, .inl (cA, 72, .inl (zA (hh)))), (a3, .inl (cA, 72, .inl (zA (rr))))]) hx hb hml hown hg (c_throwing l dC dI H.size m0 a1 a2 a3 a4 a5 a6 a7 a8 a9 a10 a11 (tw) (ab) (be) mp mb ml mz 1 0 0 (by decide) (by decide) (by decide)) (gwV wl_X3_59 wm_X3_throwing we_X3_throwing wi_X3 wc_X3_throwing) rfl rfl (by decide +kernel) ⟨Nat.le_of_ble_eq_true rfl, Nat.le_of_ble_eq_true rfl⟩ (hK.sub [] rfl) hP hD hS hA [0] rfl (by decide) [(true, 0), (false, 1), (false, 2), (false, 3)] rfl (by decide) rfl 0 rfl rfl rfl rfl hl.1 rfl (Nat.le_of_ble_eq_true rfl) dX3_at_41 ⟨Nat.zero_le _, Nat.zero_le _⟩ (fun H locs hP hD hS => ?_)
        refine zz_topi (z := 1) (congrArg zi (by decide)) ?_
        refine zz_if_eq (tgt := 49) hx hb (by omega) dX3_at_44 (by decide) (fun c_44 => ?_) (fun c_44 => ?_)
        · exact absurd c_44 (by decide)
        · refine lv_iconst (v := zi (0)) hx hb dX3_at_47 rfl ?_
          have hP9 : va_P (dC, dI) vwCl [(m0, .inr (3, [.int (zi (1)), .int (zi ((mp : Int))), .ref a1, .ref a2, .ref a3, .ref a4, .ref a5, .ref a6, .int (zi ((mb : Int))), .ref a7, .ref a8, .int (zi ((ml : Int))), .ref a9, .ref a10, .int (zi ((mz : Int))), .ref a11, .long (zl (ab)), .long (zl (be))])), (a1, .inl (cA, 6, .inl (zA (sf)))), (a2, .inl (cA, 72, .inl (zA (hh)))), (a3, .inl (cA, 72, .inl (zA (rr))))] H := hP
          rw [hQQ]
          exact wr_i hx hb hr hlocks rfl hP9 hS dX3_at_48

set_option maxHeartbeats 4000000 in
set_option maxRecDepth 100000 in
theorem k_at (l : Launch) (dC : Nat → ClassId) (dI : Nat → Nat → Nat) (sz : Nat) (m0 a1 a2 a3 a4 a5 a6 a7 a8 a9 a10 a11 : Nat) (tw ab be : Int) (mp mb ml mz : Nat) (cA : ClassId) (j n : Nat) (sf hh rr hs rs : Nat → Int) (k what : Int) (hj : j < 6) (hsf : sf j = (n : Int)) (hhs : ∀ k, k < 12 → hh (12 * j + k) = hs k) (hrs : ∀ k, k < 12 → rr (12 * j + k) = rs k) (hn : n ≤ 12) (hH : ∀ j, 0 ≤ hs j ∧ hs j ≤ 400) (hR : ∀ j, 0 ≤ rs j ∧ rs j ≤ 200) (hmp : mp ≤ 6) (hjp : j < mp) (h_k : -2147483648 ≤ k ∧ k < 2147483648) (h_what : -2147483648 ≤ what ∧ what < 2147483648) (hwh : what = 0 ∨ what = 1) (hok : k = -1 ∨ (0 ≤ k ∧ k < n)) : Met l yX3_at (Cond.code yX3_at cX3_at 4 ((Option.some Jvm.ClassFile.FieldType.int)) :: gw) rm_X3_at (PcW [.ref m0, .int (zi ((j : Int))), .int (zi (k)), .int (zi (what))] (dC, dI) vwCl [(m0, .inr (3, [.int (zi (tw)), .int (zi ((mp : Int))), .ref a1, .ref a2, .ref a3, .ref a4, .ref a5, .ref a6, .int (zi ((mb : Int))), .ref a7, .ref a8, .int (zi ((ml : Int))), .ref a9, .ref a10, .int (zi ((mz : Int))), .ref a11, .long (zl (ab)), .long (zl (be))])), (a1, .inl (cA, 6, .inl (zA (sf)))), (a2, .inl (cA, 72, .inl (zA (hh)))), (a3, .inl (cA, 72, .inl (zA (rr))))] [(cA, .int)] sz) (WrQ (some (.int (zi (p_at n hs rs k what)))) (dC, dI) vwCl [(m0, .inr (3, [.int (zi (0)), .int (zi ((mp : Int))), .ref a1, .ref a2, .ref a3, .ref a4, .ref a5, .ref a6, .int (zi ((mb : Int))), .ref a7, .ref a8, .int (zi ((ml : Int))), .ref a9, .ref a10, .int (zi ((mz : Int))), .ref a11, .long (zl (ab)), .long (zl (be))])), (a1, .inl (cA, 6, .inl (zA (sf)))), (a2, .inl (cA, 72, .inl (zA (hh)))), (a3, .inl (cA, 72, .inl (zA (rr))))] (va_A [(m0, .inr (3, [.int (zi (tw)), .int (zi ((mp : Int))), .ref a1, .ref a2, .ref a3, .ref a4, .ref a5, .ref a6, .int (zi ((mb : Int))), .ref a7, .ref a8, .int (zi ((ml : Int))), .ref a9, .ref a10, .int (zi ((mz : Int))), .ref a11, .long (zl (ab)), .long (zl (be))])), (a1, .inl (cA, 6, .inl (zA (sf)))), (a2, .inl (cA, 72, .inl (zA (hh)))), (a3, .inl (cA, 72, .inl (zA (rr))))] sz)) 0 0 (va_A [(m0, .inr (3, [.int (zi (tw)), .int (zi ((mp : Int))), .ref a1, .ref a2, .ref a3, .ref a4, .ref a5, .ref a6, .int (zi ((mb : Int))), .ref a7, .ref a8, .int (zi ((ml : Int))), .ref a9, .ref a10, .int (zi ((mz : Int))), .ref a11, .long (zl (ab)), .long (zl (be))])), (a1, .inl (cA, 6, .inl (zA (sf)))), (a2, .inl (cA, 72, .inl (zA (hh)))), (a3, .inl (cA, 72, .inl (zA (rr))))] sz) := by
  refine Met.ofW (cc := cX3_at) (maxL := 4) (ret := ((Option.some Jvm.ClassFile.FieldType.int))) (by decide) rfl ?_
  intro p e s m args below meth c s₁ B hml hv
  obtain ⟨hargs, hsz, hP, hK, hD0⟩ := hv
  have hx := B.exec
  have hb := B.bytes
  have hr := B.returns
  have hts := atoms_spec (ws := Cond.code yX3_at cX3_at 4 ((Option.some Jvm.ClassFile.FieldType.int)) :: gw) B.pre
  have hg : ∀ w ∈ gw, w.before args s = true := fun w h => hts w (List.mem_cons_of_mem _ h)
  have hown : s.vm.findClass RX3 = some m.cls := findClass_of_methodNamed B.named
  have hlocks := B.notSynchronized
  subst hsz
  have hD := hD0.self (sz := s.heap.size)
  generalize hAe : va_A [(m0, .inr (3, [.int (zi (tw)), .int (zi ((mp : Int))), .ref a1, .ref a2, .ref a3, .ref a4, .ref a5, .ref a6, .int (zi ((mb : Int))), .ref a7, .ref a8, .int (zi ((ml : Int))), .ref a9, .ref a10, .int (zi ((mz : Int))), .ref a11, .long (zl (ab)), .long (zl (be))])), (a1, .inl (cA, 6, .inl (zA (sf)))), (a2, .inl (cA, 72, .inl (zA (hh)))), (a3, .inl (cA, 72, .inl (zA (rr))))] s.heap.size = A at hD ⊢
  have hA : ∀ q : Nat, s.heap.size ≤ q → A q := fun q h => by rw [← hAe]; exact Or.inr h
  show W p l e rm_X3_at s m args below meth c s.heap [] 0 0 _ _
  have hl := lv_entry ([.ref m0, .int (zi ((j : Int))), .int (zi (k)), .int (zi (what))]) (n := 4) (Nat.le_of_ble_eq_true rfl)
  rw [show entryFrame m args 4 = entryFrame m ([.ref m0, .int (zi ((j : Int))), .int (zi (k)), .int (zi (what))] : List Value).toArray 4 by rw [hargs], lg_entry_eq]
  generalize (lg_sl ([.ref m0, .int (zi ((j : Int))), .int (zi (k)), .int (zi (what))]) ++ List.replicate (4 - (lg_sl ([.ref m0, .int (zi ((j : Int))), .int (zi (k)), .int (zi (what))])).length) Slot.unset).toArray = ls at hl ⊢
  have hl : lv_has ls 4 [(0, .ref m0), (1, .int (zi ((j : Int)))), (2, .int (zi (k))), (3, .int (zi (what)))] := hl
  obtain ⟨QQ, hQQ⟩ : ∃ Q, Q = MQ below (WrQ (some (.int (zi (p_at n hs rs k what)))) (dC, dI) vwCl [(m0, .inr (3, [.int (zi (0)), .int (zi ((mp : Int))), .ref a1, .ref a2, .ref a3, .ref a4, .ref a5, .ref a6, .int (zi ((mb : Int))), .ref a7, .ref a8, .int (zi ((ml : Int))), .ref a9, .ref a10, .int (zi ((mz : Int))), .ref a11, .long (zl (ab)), .long (zl (be))])), (a1, .inl (cA, 6, .inl (zA (sf)))), (a2, .inl (cA, 72, .inl (zA (hh)))), (a3, .inl (cA, 72, .inl (zA (rr))))] A) args s 0 0 A := ⟨_, rfl⟩
  rw [← hQQ]
  obtain ⟨H, hHe⟩ : ∃ H : Heap, H = s.heap := ⟨_, rfl⟩
  obtain ⟨locs, hlc⟩ : ∃ x : List Loc, x = [] := ⟨_, rfl⟩
  have hS : va_S A s.heap H locs := by rw [hHe, hlc]; exact va_S.rf
  have hP : va_P (dC, dI) vwCl [(m0, .inr (3, [.int (zi (tw)), .int (zi ((mp : Int))), .ref a1, .ref a2, .ref a3, .ref a4, .ref a5, .ref a6, .int (zi ((mb : Int))), .ref a7, .ref a8, .int (zi ((ml : Int))), .ref a9, .ref a10, .int (zi ((mz : Int))), .ref a11, .long (zl (ab)), .long (zl (be))])), (a1, .inl (cA, 6, .inl (zA (sf)))), (a2, .inl (cA, 72, .inl (zA (hh)))), (a3, .inl (cA, 72, .inl (zA (rr))))] H := by rw [hHe]; exact hP
  have hD : va_D A [(m0, .inr (3, [.int (zi (tw)), .int (zi ((mp : Int))), .ref a1, .ref a2, .ref a3, .ref a4, .ref a5, .ref a6, .int (zi ((mb : Int))), .ref a7, .ref a8, .int (zi ((ml : Int))), .ref a9, .ref a10, .int (zi ((mz : Int))), .ref a11, .long (zl (ab)), .long (zl (be))])), (a1, .inl (cA, 6, .inl (zA (sf)))), (a2, .inl (cA, 72, .inl (zA (hh)))), (a3, .inl (cA, 72, .inl (zA (rr))))] := hD
  rw [← hHe, ← hlc]
  refine lv_aload_n hx hb dX3_at_0 rfl (lv_at hl 0 rfl) ?_
  refine lv_aload_n hx hb dX3_at_1 rfl (lv_at hl 0 rfl) ?_
  refine lv_iload_n hx hb dX3_at_2 rfl (lv_at hl 1 rfl) ?_
  refine rdV (As := [.int (zi ((j : Int)))]) (rest := [.ref m0]) (n := 1) hx hb hml hown hg (c_X3_isProfile l dC dI m0 a1 a2 a3 a4 a5 a6 a7 a8 a9 a10 a11 (tw) (ab) (be) mp mb ml mz ((j : Int)) hmp (by omega)) (gwV wl_X3_70 wm_X3_isProfile we_X3_isProfile wi_X3 wc_X3_isProfile) rfl rfl (by decide +kernel) ⟨Nat.le_of_ble_eq_true rfl, Nat.le_of_ble_eq_true rfl⟩ (hK.sub [] rfl) (hP.sub [0] rfl) 0 rfl rfl rfl rfl hl.1 rfl (Nat.le_of_ble_eq_true rfl) dX3_at_3 ⟨Nat.zero_le _, Nat.zero_le _⟩ ?_
  refine zz_topi (z := 1) (congrArg zi (zb_t (decide_eq_true (by omega)))) ?_
  refine zz_if_eq (tgt := 34) hx hb (by omega) dX3_at_6 (by decide) (fun c_6 => ?_) (fun c_6 => ?_)
  · exact absurd c_6 (by decide)
  · refine lv_iload_n hx hb dX3_at_9 rfl (lv_at hl 2 rfl) ?_
    refine lv_iconst (v := zi (-1)) hx hb dX3_at_10 rfl ?_
    refine lv_aload_n hx hb dX3_at_11 rfl (lv_at hl 0 rfl) ?_
    refine va_get (D := (dC, dI)) (ci := 3) (v := .ref a1) (C := RX3) (T := TX3) (N := 18) hx hb hg inX3 hown hK hP 0 rfl rfl 2 (by decide) (hg _ wl_X3_7) (fun _ h9 => h9) rfl dX3_at_12 ?_
    refine lv_iload_n hx hb dX3_at_15 rfl (lv_at hl 1 rfl) ?_
    refine zz_iald hx hb hK hP 1 0 rfl rfl (j) (by omega) (by omega) (by decide) dX3_at_16 ?_
    refine zz_topi (z := (n : Int)) (congrArg zi hsf) ?_
    refine lv_iconst (v := zi (1)) hx hb dX3_at_17 rfl ?_
    refine zz_isub hx hb dX3_at_18 ?_
    refine rdS (As := [.int (zi (k)), .int (zi (-1)), .int (zi (((n : Int)) - (1)))]) (rest := [.ref m0]) (n := 3) hx hb hml hown hg (c_X3_in l (k) (-1) (((n : Int)) - (1)) (by omega) (by omega) (by omega)) (gwS wl_X3_55 wt_X3_in wi_X3 wc_X3_in) rfl rfl (by decide +kernel) ⟨Nat.le_of_ble_eq_true rfl, Nat.le_of_ble_eq_true rfl⟩ rfl hl.1 rfl (Nat.le_of_ble_eq_true rfl) dX3_at_19 ⟨Nat.zero_le _, Nat.zero_le _⟩ ?_
    refine zz_topi (z := 1) (congrArg zi (zb_t (decide_eq_true (by omega)))) ?_
    refine zz_if_eq (tgt := 34) hx hb (by omega) dX3_at_22 (by decide) (fun c_22 => ?_) (fun c_22 => ?_)
    · exact absurd c_22 (by decide)
    · refine lv_iload_n hx hb dX3_at_25 rfl (lv_at hl 3 rfl) ?_
      refine lv_iconst (v := zi (0)) hx hb dX3_at_26 rfl ?_
      refine lv_iconst (v := zi (1)) hx hb dX3_at_27 rfl ?_
      refine rdS (As := [.int (zi (what)), .int (zi (0)), .int (zi (1))]) (rest := [.ref m0]) (n := 3) hx hb hml hown hg (c_X3_in l (what) (0) (1) (by omega) (by omega) (by omega)) (gwS wl_X3_55 wt_X3_in wi_X3 wc_X3_in) rfl rfl (by decide +kernel) ⟨Nat.le_of_ble_eq_true rfl, Nat.le_of_ble_eq_true rfl⟩ rfl hl.1 rfl (Nat.le_of_ble_eq_true rfl) dX3_at_28 ⟨Nat.zero_le _, Nat.zero_le _⟩ ?_
      refine zz_topi (z := 1) (congrArg zi (zb_t (decide_eq_true (by omega)))) ?_
      refine zz_if_ne (tgt := 38) hx hb (by omega) dX3_at_31 (by decide) (fun c_31 => ?_) (fun c_31 => ?_)
      · refine lv_iconst (v := zi (0)) hx hb dX3_at_38 rfl ?_
        refine lv_iconst (v := zi (0)) hx hb dX3_at_39 rfl ?_
        refine lv_iconst (v := zi (0)) hx hb dX3_at_40 rfl ?_
        refine wrV (As := [.int (zi (0)), .int (zi (0)), .int (zi (0))]) (rest := []) (n := 3) (ws' := [(m0, .inr (3, [.int (zi (0)), .int (zi ((mp : Int))), .ref a1, .ref a2, .ref a3, .ref a4, .ref a5, .ref a6, .int (zi ((mb : Int))), .ref a7, .ref a8, .int (zi ((ml : Int))), .ref a9, .ref a10, .int (zi ((mz : Int))), .ref a11, .long (zl (ab)), .long (zl (be))])), (a1, .inl (cA, 6, .inl (zA (sf)))), (a2, .inl (cA, 72, .inl (zA (hh)))), (a3, .inl (cA, 72, .inl (zA (rr))))]) hx hb hml hown hg (c_throwing l dC dI H.size m0 a1 a2 a3 a4 a5 a6 a7 a8 a9 a10 a11 (tw) (ab) (be) mp mb ml mz 0 0 0 (by decide) (by decide) (by decide)) (gwV wl_X3_59 wm_X3_throwing we_X3_throwing wi_X3 wc_X3_throwing) rfl rfl (by decide +kernel) ⟨Nat.le_of_ble_eq_true rfl, Nat.le_of_ble_eq_true rfl⟩ (hK.sub [] rfl) hP hD hS hA [0] rfl (by decide) [(true, 0), (false, 1), (false, 2), (false, 3)] rfl (by decide) rfl 0 rfl rfl rfl rfl hl.1 rfl (Nat.le_of_ble_eq_true rfl) dX3_at_41 ⟨Nat.zero_le _, Nat.zero_le _⟩ (fun H locs hP hD hS => ?_)
        refine zz_topi (z := 0) (congrArg zi (by decide)) ?_
        refine zz_if_eq (tgt := 49) hx hb (by omega) dX3_at_44 (by decide) (fun c_44 => ?_) (fun c_44 => ?_)
        · refine lv_iload_n hx hb dX3_at_49 rfl (lv_at hl 2 rfl) ?_
          refine lv_iconst (v := zi (-1)) hx hb dX3_at_50 rfl ?_
          refine zz_icmp_ne (tgt := 61) hx hb (by omega) (by omega) dX3_at_51 (by decide) (fun c_51 => ?_) (fun c_51 => ?_)
          · refine lv_iload_n hx hb dX3_at_61 rfl (lv_at hl 3 rfl) ?_
            refine zz_if_ne (tgt := 74) hx hb (by omega) dX3_at_62 (by decide) (fun c_62 => ?_) (fun c_62 => ?_)
            · refine lv_aload_n hx hb dX3_at_74 rfl (lv_at hl 0 rfl) ?_
              refine lv_iload_n hx hb dX3_at_75 rfl (lv_at hl 1 rfl) ?_
              refine lv_iload_n hx hb dX3_at_76 rfl (lv_at hl 2 rfl) ?_
              refine zz_topi (z := ((k.toNat : Nat) : Int)) (congrArg zi (by omega)) ?_
              refine rdV (As := [.int (zi ((j : Int))), .int (zi (((k.toNat : Nat) : Int)))]) (rest := []) (n := 2) hx hb hml hown hg (c_X3_radiusAt l dC dI m0 a1 a2 a3 a4 a5 a6 a7 a8 a9 a10 a11 (0) (ab) (be) mp mb ml mz cA j rr rs (k.toNat) hj hrs (by omega)) (gwV wl_X3_67 wm_X3_radiusAt we_X3_radiusAt wi_X3 wc_X3_radiusAt) rfl rfl (by decide +kernel) ⟨Nat.le_of_ble_eq_true rfl, Nat.le_of_ble_eq_true rfl⟩ (hK.sub [0] rfl) (hP.sub [0, 3] rfl) 0 rfl rfl rfl rfl hl.1 rfl (Nat.le_of_ble_eq_true rfl) dX3_at_77 ⟨Nat.zero_le _, Nat.zero_le _⟩ ?_
              have hv_1 := hR (k.toNat)
              have hP9 : va_P (dC, dI) vwCl [(m0, .inr (3, [.int (zi (0)), .int (zi ((mp : Int))), .ref a1, .ref a2, .ref a3, .ref a4, .ref a5, .ref a6, .int (zi ((mb : Int))), .ref a7, .ref a8, .int (zi ((ml : Int))), .ref a9, .ref a10, .int (zi ((mz : Int))), .ref a11, .long (zl (ab)), .long (zl (be))])), (a1, .inl (cA, 6, .inl (zA (sf)))), (a2, .inl (cA, 72, .inl (zA (hh)))), (a3, .inl (cA, 72, .inl (zA (rr))))] H := hP
              rw [hQQ]
              exact wr_i hx hb hr hlocks (by unfold p_at; rw [if_neg (by omega), if_neg (by omega)]) hP9 hS dX3_at_80
            · refine lv_aload_n hx hb dX3_at_65 rfl (lv_at hl 0 rfl) ?_
              refine lv_iload_n hx hb dX3_at_66 rfl (lv_at hl 1 rfl) ?_
              refine lv_iload_n hx hb dX3_at_67 rfl (lv_at hl 2 rfl) ?_
              refine zz_topi (z := ((k.toNat : Nat) : Int)) (congrArg zi (by omega)) ?_
              refine rdV (As := [.int (zi ((j : Int))), .int (zi (((k.toNat : Nat) : Int)))]) (rest := []) (n := 2) hx hb hml hown hg (c_X3_height l dC dI m0 a1 a2 a3 a4 a5 a6 a7 a8 a9 a10 a11 (0) (ab) (be) mp mb ml mz cA j hh hs (k.toNat) hj hhs (by omega)) (gwV wl_X3_63 wm_X3_height we_X3_height wi_X3 wc_X3_height) rfl rfl (by decide +kernel) ⟨Nat.le_of_ble_eq_true rfl, Nat.le_of_ble_eq_true rfl⟩ (hK.sub [0] rfl) (hP.sub [0, 2] rfl) 0 rfl rfl rfl rfl hl.1 rfl (Nat.le_of_ble_eq_true rfl) dX3_at_68 ⟨Nat.zero_le _, Nat.zero_le _⟩ ?_
              have hv_2 := hH (k.toNat)
              refine lv_goto (tgt := 80) hx hb dX3_at_71 (by decide) ?_
              have hP9 : va_P (dC, dI) vwCl [(m0, .inr (3, [.int (zi (0)), .int (zi ((mp : Int))), .ref a1, .ref a2, .ref a3, .ref a4, .ref a5, .ref a6, .int (zi ((mb : Int))), .ref a7, .ref a8, .int (zi ((ml : Int))), .ref a9, .ref a10, .int (zi ((mz : Int))), .ref a11, .long (zl (ab)), .long (zl (be))])), (a1, .inl (cA, 6, .inl (zA (sf)))), (a2, .inl (cA, 72, .inl (zA (hh)))), (a3, .inl (cA, 72, .inl (zA (rr))))] H := hP
              rw [hQQ]
              exact wr_i hx hb hr hlocks (by unfold p_at; rw [if_neg (by omega), if_pos (by omega)]) hP9 hS dX3_at_80
          · refine lv_aload_n hx hb dX3_at_54 rfl (lv_at hl 0 rfl) ?_
            refine va_get (D := (dC, dI)) (ci := 3) (v := .ref a1) (C := RX3) (T := TX3) (N := 18) hx hb hg inX3 hown hK hP 0 rfl rfl 2 (by decide) (hg _ wl_X3_7) (fun _ h9 => h9) rfl dX3_at_55 ?_
            refine lv_iload_n hx hb dX3_at_58 rfl (lv_at hl 1 rfl) ?_
            refine zz_iald hx hb hK hP 1 0 rfl rfl (j) (by omega) (by omega) (by decide) dX3_at_59 ?_
            refine zz_topi (z := (n : Int)) (congrArg zi hsf) ?_
            have hP9 : va_P (dC, dI) vwCl [(m0, .inr (3, [.int (zi (0)), .int (zi ((mp : Int))), .ref a1, .ref a2, .ref a3, .ref a4, .ref a5, .ref a6, .int (zi ((mb : Int))), .ref a7, .ref a8, .int (zi ((ml : Int))), .ref a9, .ref a10, .int (zi ((mz : Int))), .ref a11, .long (zl (ab)), .long (zl (be))])), (a1, .inl (cA, 6, .inl (zA (sf)))), (a2, .inl (cA, 72, .inl (zA (hh)))), (a3, .inl (cA, 72, .inl (zA (rr))))] H := hP
            rw [hQQ]
            exact wr_i hx hb hr hlocks (by unfold p_at; rw [if_pos (by omega)]) hP9 hS dX3_at_60
        · exact absurd c_44 (by decide)
      · exact absurd c_31 (by decide)

abbrev rm_X3_radiusOf : Room := { frames := 1, cells := 0, slots := 0, locals := 22 }
set_option maxHeartbeats 4000000 in
set_option maxRecDepth 100000 in
theorem c_X3_radiusOf (l : Launch) (dC : Nat → ClassId) (dI : Nat → Nat → Nat) (m0 a1 a2 a3 a4 a5 a6 a7 a8 a9 a10 a11 : Nat) (tw ab be : Int) (mp mb ml mz : Nat) (cA : ClassId) (j n : Nat) (sf hh rr hs rs : Nat → Int) (h : Int) (hj : j < 6) (hsf : sf j = (n : Int)) (hhs : ∀ k, k < 12 → hh (12 * j + k) = hs k) (hrs : ∀ k, k < 12 → rr (12 * j + k) = rs k) (hn : n ≤ 12) (hH : ∀ j, 0 ≤ hs j ∧ hs j ≤ 400) (hR : ∀ j, 0 ≤ rs j ∧ rs j ≤ 200) (h_h : -2147483648 ≤ h ∧ h < 2147483648) : Met l yX3_radiusOf (Cond.code yX3_radiusOf cX3_radiusOf 8 ((Option.some Jvm.ClassFile.FieldType.int)) :: gw) rm_X3_radiusOf (PcR [.ref m0, .int (zi ((j : Int))), .int (zi (h))] (dC, dI) vwCl [(m0, .inr (3, [.int (zi (tw)), .int (zi ((mp : Int))), .ref a1, .ref a2, .ref a3, .ref a4, .ref a5, .ref a6, .int (zi ((mb : Int))), .ref a7, .ref a8, .int (zi ((ml : Int))), .ref a9, .ref a10, .int (zi ((mz : Int))), .ref a11, .long (zl (ab)), .long (zl (be))])), (a1, .inl (cA, 6, .inl (zA (sf)))), (a2, .inl (cA, 72, .inl (zA (hh)))), (a3, .inl (cA, 72, .inl (zA (rr))))] [(cA, .int)]) (RdQ (some (.int (zi (m_rad n hs rs h n 0 (-1)))))) 0 0 (fun _ => False) := by
  refine Met.ofW (cc := cX3_radiusOf) (maxL := 8) (ret := ((Option.some Jvm.ClassFile.FieldType.int))) (by decide) rfl ?_
  intro p e s m args below meth c s₁ B hml hv
  obtain ⟨hargs, hP, hK⟩ := hv
  have hx := B.exec
  have hb := B.bytes
  have hr := B.returns
  have hts := atoms_spec (ws := Cond.code yX3_radiusOf cX3_radiusOf 8 ((Option.some Jvm.ClassFile.FieldType.int)) :: gw) B.pre
  have hg : ∀ w ∈ gw, w.before args s = true := fun w h => hts w (List.mem_cons_of_mem _ h)
  have hown : s.vm.findClass RX3 = some m.cls := findClass_of_methodNamed B.named
  have hlocks := B.notSynchronized
  show W p l e rm_X3_radiusOf s m args below meth c s.heap [] 0 0 _ _
  have hl := lv_entry ([.ref m0, .int (zi ((j : Int))), .int (zi (h))]) (n := 8) (Nat.le_of_ble_eq_true rfl)
  rw [show entryFrame m args 8 = entryFrame m ([.ref m0, .int (zi ((j : Int))), .int (zi (h))] : List Value).toArray 8 by rw [hargs], lg_entry_eq]
  generalize (lg_sl ([.ref m0, .int (zi ((j : Int))), .int (zi (h))]) ++ List.replicate (8 - (lg_sl ([.ref m0, .int (zi ((j : Int))), .int (zi (h))])).length) Slot.unset).toArray = ls at hl ⊢
  have hl : lv_has ls 8 [(0, .ref m0), (1, .int (zi ((j : Int)))), (2, .int (zi (h)))] := hl
  obtain ⟨QQ, hQQ⟩ : ∃ Q, Q = MQ below (RdQ (some (.int (zi (m_rad n hs rs h n 0 (-1)))))) args s 0 0 (fun _ => False) := ⟨_, rfl⟩
  rw [← hQQ]
  refine lv_iconst (v := zi (-1)) hx hb dX3_radiusOf_0 rfl ?_
  refine lv_istore_n (lv' := [(3, .int (zi (-1))), (0, .ref m0), (1, .int (zi ((j : Int)))), (2, .int (zi (h)))]) hx hb dX3_radiusOf_1 rfl hl (by decide) rfl (fun ls hl => ?_)
  refine lv_iconst (v := zi (0)) hx hb dX3_radiusOf_2 rfl ?_
  refine lv_istore (lv' := [(4, .int (zi (0))), (3, .int (zi (-1))), (0, .ref m0), (1, .int (zi ((j : Int)))), (2, .int (zi (h)))]) hx hb dX3_radiusOf_3 hl (by decide) rfl (fun ls hl => ?_)
  have key_5 : ∀ (n_ : Nat) (k : Nat) (b : Int), k ≤ n → -1 ≤ b ∧ b ≤ 200 → m_rad n hs rs h (n - k) k b = m_rad n hs rs h n 0 (-1) → n - k < n_ → ∀ (ls : Array Slot), lv_has ls 8 [(4, .int (zi ((k : Int)))), (3, .int (zi (b))), (2, .int (zi (h))), (1, .int (zi ((j : Int)))), (0, .ref m0)] → W p l e rm_X3_radiusOf s m args below meth c s.heap [] 0 0 QQ (F0 m 5 ls []) := by
    intro n_
    induction n_ with
    | zero => intro k b hk hb9 ht hm_; exact absurd hm_ (Nat.not_lt_zero _)
    | succ n_ ih =>
      intro k b hk hb9 ht hm_ ls hl
      refine lv_iload hx hb dX3_radiusOf_5 (lv_at hl 0 rfl) ?_
      refine lv_aload_n hx hb dX3_radiusOf_7 rfl (lv_at hl 4 rfl) ?_
      refine va_get (D := (dC, dI)) (ci := 3) (v := .ref a1) (C := RX3) (T := TX3) (N := 18) hx hb hg inX3 hown hK hP 0 rfl rfl 2 (by decide) (hg _ wl_X3_7) (fun _ h9 => h9) rfl dX3_radiusOf_8 ?_
      refine lv_iload_n hx hb dX3_radiusOf_11 rfl (lv_at hl 3 rfl) ?_
      refine zz_iald hx hb hK hP 1 0 rfl rfl (j) (by omega) (by omega) (by decide) dX3_radiusOf_12 ?_
      refine zz_topi (z := (n : Int)) (congrArg zi hsf) ?_
      refine zz_icmp_ge (tgt := 131) hx hb (by omega) (by omega) dX3_radiusOf_13 (by decide) (fun c_13 => ?_) (fun c_13 => ?_)
      · refine lv_iload_n hx hb dX3_radiusOf_131 rfl (lv_at hl 1 rfl) ?_
        rw [hQQ]
        exact rd_i hx hb hr hlocks (by rw [← ht, show n - k = 0 by omega, m_rad]) dX3_radiusOf_132
      · refine lv_aload_n hx hb dX3_radiusOf_16 rfl (lv_at hl 4 rfl) ?_
        refine lv_iload_n hx hb dX3_radiusOf_17 rfl (lv_at hl 3 rfl) ?_
        refine lv_iload hx hb dX3_radiusOf_18 (lv_at hl 0 rfl) ?_
        refine rdV (As := [.int (zi ((j : Int))), .int (zi ((k : Int)))]) (rest := []) (n := 2) hx hb hml hown hg (c_X3_height l dC dI m0 a1 a2 a3 a4 a5 a6 a7 a8 a9 a10 a11 (tw) (ab) (be) mp mb ml mz cA j hh hs (k) hj hhs (by omega)) (gwV wl_X3_63 wm_X3_height we_X3_height wi_X3 wc_X3_height) rfl rfl (by decide +kernel) ⟨Nat.le_of_ble_eq_true rfl, Nat.le_of_ble_eq_true rfl⟩ (hK.sub [0] rfl) (hP.sub [0, 2] rfl) 0 rfl rfl rfl rfl hl.1 rfl (Nat.le_of_ble_eq_true rfl) dX3_radiusOf_20 ⟨Nat.zero_le _, Nat.zero_le _⟩ ?_
        have hv_1 := hH (k)
        refine lv_istore (lv' := [(5, .int (zi (hs (k)))), (4, .int (zi ((k : Int)))), (3, .int (zi (b))), (2, .int (zi (h))), (1, .int (zi ((j : Int)))), (0, .ref m0)]) hx hb dX3_radiusOf_23 hl (by decide) rfl (fun ls hl => ?_)
        refine lv_aload_n hx hb dX3_radiusOf_25 rfl (lv_at hl 5 rfl) ?_
        refine lv_iload_n hx hb dX3_radiusOf_26 rfl (lv_at hl 4 rfl) ?_
        refine lv_iload hx hb dX3_radiusOf_27 (lv_at hl 1 rfl) ?_
        refine rdV (As := [.int (zi ((j : Int))), .int (zi ((k : Int)))]) (rest := []) (n := 2) hx hb hml hown hg (c_X3_radiusAt l dC dI m0 a1 a2 a3 a4 a5 a6 a7 a8 a9 a10 a11 (tw) (ab) (be) mp mb ml mz cA j rr rs (k) hj hrs (by omega)) (gwV wl_X3_67 wm_X3_radiusAt we_X3_radiusAt wi_X3 wc_X3_radiusAt) rfl rfl (by decide +kernel) ⟨Nat.le_of_ble_eq_true rfl, Nat.le_of_ble_eq_true rfl⟩ (hK.sub [0] rfl) (hP.sub [0, 3] rfl) 0 rfl rfl rfl rfl hl.1 rfl (Nat.le_of_ble_eq_true rfl) dX3_radiusOf_29 ⟨Nat.zero_le _, Nat.zero_le _⟩ ?_
        have hv_2 := hR (k)
        refine lv_istore (lv' := [(6, .int (zi (rs (k)))), (5, .int (zi (hs (k)))), (4, .int (zi ((k : Int)))), (3, .int (zi (b))), (2, .int (zi (h))), (1, .int (zi ((j : Int)))), (0, .ref m0)]) hx hb dX3_radiusOf_32 hl (by decide) rfl (fun ls hl => ?_)
        refine lv_iload hx hb dX3_radiusOf_34 (lv_at hl 1 rfl) ?_
        refine lv_iload_n hx hb dX3_radiusOf_36 rfl (lv_at hl 4 rfl) ?_
        refine zz_icmp_ne (tgt := 49) hx hb (by omega) (by omega) dX3_radiusOf_37 (by decide) (fun c_37 => ?_) (fun c_37 => ?_)
        · refine lv_iload hx hb dX3_radiusOf_49 (lv_at hl 2 rfl) ?_
          refine lv_iconst (v := zi (1)) hx hb dX3_radiusOf_51 rfl ?_
          refine zz_iadd hx hb dX3_radiusOf_52 ?_
          refine lv_aload_n hx hb dX3_radiusOf_53 rfl (lv_at hl 6 rfl) ?_
          refine va_get (D := (dC, dI)) (ci := 3) (v := .ref a1) (C := RX3) (T := TX3) (N := 18) hx hb hg inX3 hown hK hP 0 rfl rfl 2 (by decide) (hg _ wl_X3_7) (fun _ h9 => h9) rfl dX3_radiusOf_54 ?_
          refine lv_iload_n hx hb dX3_radiusOf_57 rfl (lv_at hl 5 rfl) ?_
          refine zz_iald hx hb hK hP 1 0 rfl rfl (j) (by omega) (by omega) (by decide) dX3_radiusOf_58 ?_
          refine zz_topi (z := (n : Int)) (congrArg zi hsf) ?_
          refine zz_icmp_eq (tgt := 125) hx hb (by omega) (by omega) dX3_radiusOf_59 (by decide) (fun c_59 => ?_) (fun c_59 => ?_)
          · refine lv_iinc (v := zi (((k : Int)) + (1))) (lv' := [(4, .int (zi (((k : Int)) + (1)))), (6, .int (zi (rs (k)))), (5, .int (zi (hs (k)))), (3, .int (zi (b))), (2, .int (zi (h))), (1, .int (zi ((j : Int)))), (0, .ref m0)]) hx hb dX3_radiusOf_125 hl (k := 2) rfl (zi_add _ _) (by decide) rfl (fun ls hl => ?_)
            refine lv_goto (tgt := 5) hx hb dX3_radiusOf_128 (by decide) ?_
            have hb_ : m_rst n hs rs h k b = b := by unfold m_rst; rw [if_pos (by omega), if_neg (by omega)]
            rw [← hb_] at hl
            exact ih (k + 1) (m_rst n hs rs h k b) (by omega) (m_rst_bd hR hb9) (by rw [← ht, show n - k = (n - (k + 1)) + 1 by omega, m_rad]) (by omega) ls (lv_sub hl [0, 3, 4, 5, 6] rfl)
          · refine lv_iload hx hb dX3_radiusOf_62 (lv_at hl 1 rfl) ?_
            refine lv_iload_n hx hb dX3_radiusOf_64 rfl (lv_at hl 4 rfl) ?_
            refine zz_icmp_ge (tgt := 125) hx hb (by omega) (by omega) dX3_radiusOf_65 (by decide) (fun c_65 => ?_) (fun c_65 => ?_)
            · refine lv_iinc (v := zi (((k : Int)) + (1))) (lv' := [(4, .int (zi (((k : Int)) + (1)))), (6, .int (zi (rs (k)))), (5, .int (zi (hs (k)))), (3, .int (zi (b))), (2, .int (zi (h))), (1, .int (zi ((j : Int)))), (0, .ref m0)]) hx hb dX3_radiusOf_125 hl (k := 2) rfl (zi_add _ _) (by decide) rfl (fun ls hl => ?_)
              refine lv_goto (tgt := 5) hx hb dX3_radiusOf_128 (by decide) ?_
              have hb_ : m_rst n hs rs h k b = b := by unfold m_rst; rw [if_pos (by omega), if_neg (by omega)]
              rw [← hb_] at hl
              exact ih (k + 1) (m_rst n hs rs h k b) (by omega) (m_rst_bd hR hb9) (by rw [← ht, show n - k = (n - (k + 1)) + 1 by omega, m_rad]) (by omega) ls (lv_sub hl [0, 3, 4, 5, 6] rfl)
            · refine lv_aload_n hx hb dX3_radiusOf_68 rfl (lv_at hl 6 rfl) ?_
              refine lv_iload_n hx hb dX3_radiusOf_69 rfl (lv_at hl 5 rfl) ?_
              refine lv_iload hx hb dX3_radiusOf_70 (lv_at hl 2 rfl) ?_
              refine lv_iconst (v := zi (1)) hx hb dX3_radiusOf_72 rfl ?_
              refine zz_iadd hx hb dX3_radiusOf_73 ?_
              refine zz_topi (z := ((k + 1 : Nat) : Int)) (congrArg zi (by omega)) ?_
              refine rdV (As := [.int (zi ((j : Int))), .int (zi (((k + 1 : Nat) : Int)))]) (rest := []) (n := 2) hx hb hml hown hg (c_X3_height l dC dI m0 a1 a2 a3 a4 a5 a6 a7 a8 a9 a10 a11 (tw) (ab) (be) mp mb ml mz cA j hh hs (k + 1) hj hhs (by omega)) (gwV wl_X3_63 wm_X3_height we_X3_height wi_X3 wc_X3_height) rfl rfl (by decide +kernel) ⟨Nat.le_of_ble_eq_true rfl, Nat.le_of_ble_eq_true rfl⟩ (hK.sub [0] rfl) (hP.sub [0, 2] rfl) 0 rfl rfl rfl rfl hl.1 rfl (Nat.le_of_ble_eq_true rfl) dX3_radiusOf_74 ⟨Nat.zero_le _, Nat.zero_le _⟩ ?_
              have hv_3 := hH (k + 1)
              refine lv_iload_n hx hb dX3_radiusOf_77 rfl (lv_at hl 4 rfl) ?_
              refine zz_icmp_gt (tgt := 84) hx hb (by omega) (by omega) dX3_radiusOf_78 (by decide) (fun c_78 => ?_) (fun c_78 => ?_)
              · refine lv_aload_n hx hb dX3_radiusOf_84 rfl (lv_at hl 6 rfl) ?_
                refine lv_iload_n hx hb dX3_radiusOf_85 rfl (lv_at hl 5 rfl) ?_
                refine lv_iload hx hb dX3_radiusOf_86 (lv_at hl 2 rfl) ?_
                refine lv_iconst (v := zi (1)) hx hb dX3_radiusOf_88 rfl ?_
                refine zz_iadd hx hb dX3_radiusOf_89 ?_
                refine zz_topi (z := ((k + 1 : Nat) : Int)) (congrArg zi (by omega)) ?_
                refine rdV (As := [.int (zi ((j : Int))), .int (zi (((k + 1 : Nat) : Int)))]) (rest := []) (n := 2) hx hb hml hown hg (c_X3_height l dC dI m0 a1 a2 a3 a4 a5 a6 a7 a8 a9 a10 a11 (tw) (ab) (be) mp mb ml mz cA j hh hs (k + 1) hj hhs (by omega)) (gwV wl_X3_63 wm_X3_height we_X3_height wi_X3 wc_X3_height) rfl rfl (by decide +kernel) ⟨Nat.le_of_ble_eq_true rfl, Nat.le_of_ble_eq_true rfl⟩ (hK.sub [0] rfl) (hP.sub [0, 2] rfl) 0 rfl rfl rfl rfl hl.1 rfl (Nat.le_of_ble_eq_true rfl) dX3_radiusOf_90 ⟨Nat.zero_le _, Nat.zero_le _⟩ ?_
                have hv_4 := hH (k + 1)
                refine lv_iload hx hb dX3_radiusOf_93 (lv_at hl 1 rfl) ?_
                refine zz_isub hx hb dX3_radiusOf_95 ?_
                refine lv_istore (lv' := [(7, .int (zi ((hs (k + 1)) - (hs (k))))), (6, .int (zi (rs (k)))), (5, .int (zi (hs (k)))), (4, .int (zi ((k : Int)))), (3, .int (zi (b))), (2, .int (zi (h))), (1, .int (zi ((j : Int)))), (0, .ref m0)]) hx hb dX3_radiusOf_96 hl (by decide) rfl (fun ls hl => ?_)
                refine lv_iload hx hb dX3_radiusOf_98 (lv_at hl 1 rfl) ?_
                refine lv_iload hx hb dX3_radiusOf_100 (lv_at hl 0 rfl) ?_
                refine zz_imul hx hb dX3_radiusOf_102 ?_
                refine lv_aload_n hx hb dX3_radiusOf_103 rfl (lv_at hl 7 rfl) ?_
                refine lv_iload_n hx hb dX3_radiusOf_104 rfl (lv_at hl 6 rfl) ?_
                refine lv_iload hx hb dX3_radiusOf_105 (lv_at hl 3 rfl) ?_
                refine lv_iconst (v := zi (1)) hx hb dX3_radiusOf_107 rfl ?_
                refine zz_iadd hx hb dX3_radiusOf_108 ?_
                refine zz_topi (z := ((k + 1 : Nat) : Int)) (congrArg zi (by omega)) ?_
                refine rdV (As := [.int (zi ((j : Int))), .int (zi (((k + 1 : Nat) : Int)))]) (rest := [.int (zi ((rs (k)) * ((hs (k + 1)) - (hs (k)))))]) (n := 2) hx hb hml hown hg (c_X3_radiusAt l dC dI m0 a1 a2 a3 a4 a5 a6 a7 a8 a9 a10 a11 (tw) (ab) (be) mp mb ml mz cA j rr rs (k + 1) hj hrs (by omega)) (gwV wl_X3_67 wm_X3_radiusAt we_X3_radiusAt wi_X3 wc_X3_radiusAt) rfl rfl (by decide +kernel) ⟨Nat.le_of_ble_eq_true rfl, Nat.le_of_ble_eq_true rfl⟩ (hK.sub [0] rfl) (hP.sub [0, 3] rfl) 0 rfl rfl rfl rfl hl.1 rfl (Nat.le_of_ble_eq_true rfl) dX3_radiusOf_109 ⟨Nat.zero_le _, Nat.zero_le _⟩ ?_
                have hv_5 := hR (k + 1)
                refine lv_iload hx hb dX3_radiusOf_112 (lv_at hl 1 rfl) ?_
                refine zz_isub hx hb dX3_radiusOf_114 ?_
                refine lv_iload_n hx hb dX3_radiusOf_115 rfl (lv_at hl 5 rfl) ?_
                refine lv_iload hx hb dX3_radiusOf_116 (lv_at hl 2 rfl) ?_
                refine zz_isub hx hb dX3_radiusOf_118 ?_
                refine zz_imul hx hb dX3_radiusOf_119 ?_
                refine zz_iadd hx hb dX3_radiusOf_120 ?_
                refine lv_iload hx hb dX3_radiusOf_121 (lv_at hl 0 rfl) ?_
                refine zz_idiv hx hb (by have e := m_num (r := rs k) (s := rs (k + 1)) (d := hs (k + 1) - hs k) (x := h - hs k) (hR k) (hR (k + 1)) (by omega); omega) (by omega) dX3_radiusOf_123 ?_
                refine lv_istore_n (lv' := [(3, .int (zi (Int.tdiv (((rs (k)) * ((hs (k + 1)) - (hs (k)))) + (((rs (k + 1)) - (rs (k))) * ((h) - (hs (k))))) ((hs (k + 1)) - (hs (k)))))), (7, .int (zi ((hs (k + 1)) - (hs (k))))), (6, .int (zi (rs (k)))), (5, .int (zi (hs (k)))), (4, .int (zi ((k : Int)))), (2, .int (zi (h))), (1, .int (zi ((j : Int)))), (0, .ref m0)]) hx hb dX3_radiusOf_124 rfl hl (by decide) rfl (fun ls hl => ?_)
                refine lv_iinc (v := zi (((k : Int)) + (1))) (lv' := [(4, .int (zi (((k : Int)) + (1)))), (3, .int (zi (Int.tdiv (((rs (k)) * ((hs (k + 1)) - (hs (k)))) + (((rs (k + 1)) - (rs (k))) * ((h) - (hs (k))))) ((hs (k + 1)) - (hs (k)))))), (7, .int (zi ((hs (k + 1)) - (hs (k))))), (6, .int (zi (rs (k)))), (5, .int (zi (hs (k)))), (2, .int (zi (h))), (1, .int (zi ((j : Int)))), (0, .ref m0)]) hx hb dX3_radiusOf_125 hl (k := 4) rfl (zi_add _ _) (by decide) rfl (fun ls hl => ?_)
                refine lv_goto (tgt := 5) hx hb dX3_radiusOf_128 (by decide) ?_
                have hb_ : m_rst n hs rs h k b = Int.tdiv (((rs (k)) * ((hs (k + 1)) - (hs (k)))) + (((rs (k + 1)) - (rs (k))) * ((h) - (hs (k))))) ((hs (k + 1)) - (hs (k))) := by unfold m_rst; rw [if_neg (by omega)]
                rw [← hb_] at hl
                exact ih (k + 1) (m_rst n hs rs h k b) (by omega) (m_rst_bd hR hb9) (by rw [← ht, show n - k = (n - (k + 1)) + 1 by omega, m_rad]) (by omega) ls (lv_sub hl [0, 1, 5, 6, 7] rfl)
              · refine lv_goto (tgt := 125) hx hb dX3_radiusOf_81 (by decide) ?_
                refine lv_iinc (v := zi (((k : Int)) + (1))) (lv' := [(4, .int (zi (((k : Int)) + (1)))), (6, .int (zi (rs (k)))), (5, .int (zi (hs (k)))), (3, .int (zi (b))), (2, .int (zi (h))), (1, .int (zi ((j : Int)))), (0, .ref m0)]) hx hb dX3_radiusOf_125 hl (k := 2) rfl (zi_add _ _) (by decide) rfl (fun ls hl => ?_)
                refine lv_goto (tgt := 5) hx hb dX3_radiusOf_128 (by decide) ?_
                have hb_ : m_rst n hs rs h k b = b := by unfold m_rst; rw [if_pos (by omega), if_neg (by omega)]
                rw [← hb_] at hl
                exact ih (k + 1) (m_rst n hs rs h k b) (by omega) (m_rst_bd hR hb9) (by rw [← ht, show n - k = (n - (k + 1)) + 1 by omega, m_rad]) (by omega) ls (lv_sub hl [0, 3, 4, 5, 6] rfl)
        · refine lv_iload hx hb dX3_radiusOf_40 (lv_at hl 0 rfl) ?_
          refine lv_iload_n hx hb dX3_radiusOf_42 rfl (lv_at hl 3 rfl) ?_
          refine zz_icmp_le (tgt := 49) hx hb (by omega) (by omega) dX3_radiusOf_43 (by decide) (fun c_43 => ?_) (fun c_43 => ?_)
          · refine lv_iload hx hb dX3_radiusOf_49 (lv_at hl 2 rfl) ?_
            refine lv_iconst (v := zi (1)) hx hb dX3_radiusOf_51 rfl ?_
            refine zz_iadd hx hb dX3_radiusOf_52 ?_
            refine lv_aload_n hx hb dX3_radiusOf_53 rfl (lv_at hl 6 rfl) ?_
            refine va_get (D := (dC, dI)) (ci := 3) (v := .ref a1) (C := RX3) (T := TX3) (N := 18) hx hb hg inX3 hown hK hP 0 rfl rfl 2 (by decide) (hg _ wl_X3_7) (fun _ h9 => h9) rfl dX3_radiusOf_54 ?_
            refine lv_iload_n hx hb dX3_radiusOf_57 rfl (lv_at hl 5 rfl) ?_
            refine zz_iald hx hb hK hP 1 0 rfl rfl (j) (by omega) (by omega) (by decide) dX3_radiusOf_58 ?_
            refine zz_topi (z := (n : Int)) (congrArg zi hsf) ?_
            refine zz_icmp_eq (tgt := 125) hx hb (by omega) (by omega) dX3_radiusOf_59 (by decide) (fun c_59 => ?_) (fun c_59 => ?_)
            · refine lv_iinc (v := zi (((k : Int)) + (1))) (lv' := [(4, .int (zi (((k : Int)) + (1)))), (6, .int (zi (rs (k)))), (5, .int (zi (hs (k)))), (3, .int (zi (b))), (2, .int (zi (h))), (1, .int (zi ((j : Int)))), (0, .ref m0)]) hx hb dX3_radiusOf_125 hl (k := 2) rfl (zi_add _ _) (by decide) rfl (fun ls hl => ?_)
              refine lv_goto (tgt := 5) hx hb dX3_radiusOf_128 (by decide) ?_
              have hb_ : m_rst n hs rs h k b = b := by unfold m_rst; rw [if_pos (by omega), if_neg (by omega)]
              rw [← hb_] at hl
              exact ih (k + 1) (m_rst n hs rs h k b) (by omega) (m_rst_bd hR hb9) (by rw [← ht, show n - k = (n - (k + 1)) + 1 by omega, m_rad]) (by omega) ls (lv_sub hl [0, 3, 4, 5, 6] rfl)
            · refine lv_iload hx hb dX3_radiusOf_62 (lv_at hl 1 rfl) ?_
              refine lv_iload_n hx hb dX3_radiusOf_64 rfl (lv_at hl 4 rfl) ?_
              refine zz_icmp_ge (tgt := 125) hx hb (by omega) (by omega) dX3_radiusOf_65 (by decide) (fun c_65 => ?_) (fun c_65 => ?_)
              · refine lv_iinc (v := zi (((k : Int)) + (1))) (lv' := [(4, .int (zi (((k : Int)) + (1)))), (6, .int (zi (rs (k)))), (5, .int (zi (hs (k)))), (3, .int (zi (b))), (2, .int (zi (h))), (1, .int (zi ((j : Int)))), (0, .ref m0)]) hx hb dX3_radiusOf_125 hl (k := 2) rfl (zi_add _ _) (by decide) rfl (fun ls hl => ?_)
                refine lv_goto (tgt := 5) hx hb dX3_radiusOf_128 (by decide) ?_
                have hb_ : m_rst n hs rs h k b = b := by unfold m_rst; rw [if_pos (by omega), if_neg (by omega)]
                rw [← hb_] at hl
                exact ih (k + 1) (m_rst n hs rs h k b) (by omega) (m_rst_bd hR hb9) (by rw [← ht, show n - k = (n - (k + 1)) + 1 by omega, m_rad]) (by omega) ls (lv_sub hl [0, 3, 4, 5, 6] rfl)
              · refine lv_aload_n hx hb dX3_radiusOf_68 rfl (lv_at hl 6 rfl) ?_
                refine lv_iload_n hx hb dX3_radiusOf_69 rfl (lv_at hl 5 rfl) ?_
                refine lv_iload hx hb dX3_radiusOf_70 (lv_at hl 2 rfl) ?_
                refine lv_iconst (v := zi (1)) hx hb dX3_radiusOf_72 rfl ?_
                refine zz_iadd hx hb dX3_radiusOf_73 ?_
                refine zz_topi (z := ((k + 1 : Nat) : Int)) (congrArg zi (by omega)) ?_
                refine rdV (As := [.int (zi ((j : Int))), .int (zi (((k + 1 : Nat) : Int)))]) (rest := []) (n := 2) hx hb hml hown hg (c_X3_height l dC dI m0 a1 a2 a3 a4 a5 a6 a7 a8 a9 a10 a11 (tw) (ab) (be) mp mb ml mz cA j hh hs (k + 1) hj hhs (by omega)) (gwV wl_X3_63 wm_X3_height we_X3_height wi_X3 wc_X3_height) rfl rfl (by decide +kernel) ⟨Nat.le_of_ble_eq_true rfl, Nat.le_of_ble_eq_true rfl⟩ (hK.sub [0] rfl) (hP.sub [0, 2] rfl) 0 rfl rfl rfl rfl hl.1 rfl (Nat.le_of_ble_eq_true rfl) dX3_radiusOf_74 ⟨Nat.zero_le _, Nat.zero_le _⟩ ?_
                have hv_6 := hH (k + 1)
                refine lv_iload_n hx hb dX3_radiusOf_77 rfl (lv_at hl 4 rfl) ?_
                refine zz_icmp_gt (tgt := 84) hx hb (by omega) (by omega) dX3_radiusOf_78 (by decide) (fun c_78 => ?_) (fun c_78 => ?_)
                · refine lv_aload_n hx hb dX3_radiusOf_84 rfl (lv_at hl 6 rfl) ?_
                  refine lv_iload_n hx hb dX3_radiusOf_85 rfl (lv_at hl 5 rfl) ?_
                  refine lv_iload hx hb dX3_radiusOf_86 (lv_at hl 2 rfl) ?_
                  refine lv_iconst (v := zi (1)) hx hb dX3_radiusOf_88 rfl ?_
                  refine zz_iadd hx hb dX3_radiusOf_89 ?_
                  refine zz_topi (z := ((k + 1 : Nat) : Int)) (congrArg zi (by omega)) ?_
                  refine rdV (As := [.int (zi ((j : Int))), .int (zi (((k + 1 : Nat) : Int)))]) (rest := []) (n := 2) hx hb hml hown hg (c_X3_height l dC dI m0 a1 a2 a3 a4 a5 a6 a7 a8 a9 a10 a11 (tw) (ab) (be) mp mb ml mz cA j hh hs (k + 1) hj hhs (by omega)) (gwV wl_X3_63 wm_X3_height we_X3_height wi_X3 wc_X3_height) rfl rfl (by decide +kernel) ⟨Nat.le_of_ble_eq_true rfl, Nat.le_of_ble_eq_true rfl⟩ (hK.sub [0] rfl) (hP.sub [0, 2] rfl) 0 rfl rfl rfl rfl hl.1 rfl (Nat.le_of_ble_eq_true rfl) dX3_radiusOf_90 ⟨Nat.zero_le _, Nat.zero_le _⟩ ?_
                  have hv_7 := hH (k + 1)
                  refine lv_iload hx hb dX3_radiusOf_93 (lv_at hl 1 rfl) ?_
                  refine zz_isub hx hb dX3_radiusOf_95 ?_
                  refine lv_istore (lv' := [(7, .int (zi ((hs (k + 1)) - (hs (k))))), (6, .int (zi (rs (k)))), (5, .int (zi (hs (k)))), (4, .int (zi ((k : Int)))), (3, .int (zi (b))), (2, .int (zi (h))), (1, .int (zi ((j : Int)))), (0, .ref m0)]) hx hb dX3_radiusOf_96 hl (by decide) rfl (fun ls hl => ?_)
                  refine lv_iload hx hb dX3_radiusOf_98 (lv_at hl 1 rfl) ?_
                  refine lv_iload hx hb dX3_radiusOf_100 (lv_at hl 0 rfl) ?_
                  refine zz_imul hx hb dX3_radiusOf_102 ?_
                  refine lv_aload_n hx hb dX3_radiusOf_103 rfl (lv_at hl 7 rfl) ?_
                  refine lv_iload_n hx hb dX3_radiusOf_104 rfl (lv_at hl 6 rfl) ?_
                  refine lv_iload hx hb dX3_radiusOf_105 (lv_at hl 3 rfl) ?_
                  refine lv_iconst (v := zi (1)) hx hb dX3_radiusOf_107 rfl ?_
                  refine zz_iadd hx hb dX3_radiusOf_108 ?_
                  refine zz_topi (z := ((k + 1 : Nat) : Int)) (congrArg zi (by omega)) ?_
                  refine rdV (As := [.int (zi ((j : Int))), .int (zi (((k + 1 : Nat) : Int)))]) (rest := [.int (zi ((rs (k)) * ((hs (k + 1)) - (hs (k)))))]) (n := 2) hx hb hml hown hg (c_X3_radiusAt l dC dI m0 a1 a2 a3 a4 a5 a6 a7 a8 a9 a10 a11 (tw) (ab) (be) mp mb ml mz cA j rr rs (k + 1) hj hrs (by omega)) (gwV wl_X3_67 wm_X3_radiusAt we_X3_radiusAt wi_X3 wc_X3_radiusAt) rfl rfl (by decide +kernel) ⟨Nat.le_of_ble_eq_true rfl, Nat.le_of_ble_eq_true rfl⟩ (hK.sub [0] rfl) (hP.sub [0, 3] rfl) 0 rfl rfl rfl rfl hl.1 rfl (Nat.le_of_ble_eq_true rfl) dX3_radiusOf_109 ⟨Nat.zero_le _, Nat.zero_le _⟩ ?_
                  have hv_8 := hR (k + 1)
                  refine lv_iload hx hb dX3_radiusOf_112 (lv_at hl 1 rfl) ?_
                  refine zz_isub hx hb dX3_radiusOf_114 ?_
                  refine lv_iload_n hx hb dX3_radiusOf_115 rfl (lv_at hl 5 rfl) ?_
                  refine lv_iload hx hb dX3_radiusOf_116 (lv_at hl 2 rfl) ?_
                  refine zz_isub hx hb dX3_radiusOf_118 ?_
                  refine zz_imul hx hb dX3_radiusOf_119 ?_
                  refine zz_iadd hx hb dX3_radiusOf_120 ?_
                  refine lv_iload hx hb dX3_radiusOf_121 (lv_at hl 0 rfl) ?_
                  refine zz_idiv hx hb (by have e := m_num (r := rs k) (s := rs (k + 1)) (d := hs (k + 1) - hs k) (x := h - hs k) (hR k) (hR (k + 1)) (by omega); omega) (by omega) dX3_radiusOf_123 ?_
                  refine lv_istore_n (lv' := [(3, .int (zi (Int.tdiv (((rs (k)) * ((hs (k + 1)) - (hs (k)))) + (((rs (k + 1)) - (rs (k))) * ((h) - (hs (k))))) ((hs (k + 1)) - (hs (k)))))), (7, .int (zi ((hs (k + 1)) - (hs (k))))), (6, .int (zi (rs (k)))), (5, .int (zi (hs (k)))), (4, .int (zi ((k : Int)))), (2, .int (zi (h))), (1, .int (zi ((j : Int)))), (0, .ref m0)]) hx hb dX3_radiusOf_124 rfl hl (by decide) rfl (fun ls hl => ?_)
                  refine lv_iinc (v := zi (((k : Int)) + (1))) (lv' := [(4, .int (zi (((k : Int)) + (1)))), (3, .int (zi (Int.tdiv (((rs (k)) * ((hs (k + 1)) - (hs (k)))) + (((rs (k + 1)) - (rs (k))) * ((h) - (hs (k))))) ((hs (k + 1)) - (hs (k)))))), (7, .int (zi ((hs (k + 1)) - (hs (k))))), (6, .int (zi (rs (k)))), (5, .int (zi (hs (k)))), (2, .int (zi (h))), (1, .int (zi ((j : Int)))), (0, .ref m0)]) hx hb dX3_radiusOf_125 hl (k := 4) rfl (zi_add _ _) (by decide) rfl (fun ls hl => ?_)
                  refine lv_goto (tgt := 5) hx hb dX3_radiusOf_128 (by decide) ?_
                  have hb_ : m_rst n hs rs h k b = Int.tdiv (((rs (k)) * ((hs (k + 1)) - (hs (k)))) + (((rs (k + 1)) - (rs (k))) * ((h) - (hs (k))))) ((hs (k + 1)) - (hs (k))) := by unfold m_rst; rw [if_neg (by omega)]
                  rw [← hb_] at hl
                  exact ih (k + 1) (m_rst n hs rs h k b) (by omega) (m_rst_bd hR hb9) (by rw [← ht, show n - k = (n - (k + 1)) + 1 by omega, m_rad]) (by omega) ls (lv_sub hl [0, 1, 5, 6, 7] rfl)
                · refine lv_goto (tgt := 125) hx hb dX3_radiusOf_81 (by decide) ?_
                  refine lv_iinc (v := zi (((k : Int)) + (1))) (lv' := [(4, .int (zi (((k : Int)) + (1)))), (6, .int (zi (rs (k)))), (5, .int (zi (hs (k)))), (3, .int (zi (b))), (2, .int (zi (h))), (1, .int (zi ((j : Int)))), (0, .ref m0)]) hx hb dX3_radiusOf_125 hl (k := 2) rfl (zi_add _ _) (by decide) rfl (fun ls hl => ?_)
                  refine lv_goto (tgt := 5) hx hb dX3_radiusOf_128 (by decide) ?_
                  have hb_ : m_rst n hs rs h k b = b := by unfold m_rst; rw [if_pos (by omega), if_neg (by omega)]
                  rw [← hb_] at hl
                  exact ih (k + 1) (m_rst n hs rs h k b) (by omega) (m_rst_bd hR hb9) (by rw [← ht, show n - k = (n - (k + 1)) + 1 by omega, m_rad]) (by omega) ls (lv_sub hl [0, 3, 4, 5, 6] rfl)
          · refine lv_iload hx hb dX3_radiusOf_46 (lv_at hl 0 rfl) ?_
            refine lv_istore_n (lv' := [(3, .int (zi (rs (k)))), (6, .int (zi (rs (k)))), (5, .int (zi (hs (k)))), (4, .int (zi ((k : Int)))), (2, .int (zi (h))), (1, .int (zi ((j : Int)))), (0, .ref m0)]) hx hb dX3_radiusOf_48 rfl hl (by decide) rfl (fun ls hl => ?_)
            refine lv_iload hx hb dX3_radiusOf_49 (lv_at hl 3 rfl) ?_
            refine lv_iconst (v := zi (1)) hx hb dX3_radiusOf_51 rfl ?_
            refine zz_iadd hx hb dX3_radiusOf_52 ?_
            refine lv_aload_n hx hb dX3_radiusOf_53 rfl (lv_at hl 6 rfl) ?_
            refine va_get (D := (dC, dI)) (ci := 3) (v := .ref a1) (C := RX3) (T := TX3) (N := 18) hx hb hg inX3 hown hK hP 0 rfl rfl 2 (by decide) (hg _ wl_X3_7) (fun _ h9 => h9) rfl dX3_radiusOf_54 ?_
            refine lv_iload_n hx hb dX3_radiusOf_57 rfl (lv_at hl 5 rfl) ?_
            refine zz_iald hx hb hK hP 1 0 rfl rfl (j) (by omega) (by omega) (by decide) dX3_radiusOf_58 ?_
            refine zz_topi (z := (n : Int)) (congrArg zi hsf) ?_
            refine zz_icmp_eq (tgt := 125) hx hb (by omega) (by omega) dX3_radiusOf_59 (by decide) (fun c_59 => ?_) (fun c_59 => ?_)
            · refine lv_iinc (v := zi (((k : Int)) + (1))) (lv' := [(4, .int (zi (((k : Int)) + (1)))), (3, .int (zi (rs (k)))), (6, .int (zi (rs (k)))), (5, .int (zi (hs (k)))), (2, .int (zi (h))), (1, .int (zi ((j : Int)))), (0, .ref m0)]) hx hb dX3_radiusOf_125 hl (k := 3) rfl (zi_add _ _) (by decide) rfl (fun ls hl => ?_)
              refine lv_goto (tgt := 5) hx hb dX3_radiusOf_128 (by decide) ?_
              have hb_ : m_rst n hs rs h k b = rs (k) := by unfold m_rst; rw [if_pos (by omega), if_pos (by omega)]
              rw [← hb_] at hl
              exact ih (k + 1) (m_rst n hs rs h k b) (by omega) (m_rst_bd hR hb9) (by rw [← ht, show n - k = (n - (k + 1)) + 1 by omega, m_rad]) (by omega) ls (lv_sub hl [0, 1, 4, 5, 6] rfl)
            · refine lv_iload hx hb dX3_radiusOf_62 (lv_at hl 2 rfl) ?_
              refine lv_iload_n hx hb dX3_radiusOf_64 rfl (lv_at hl 4 rfl) ?_
              refine zz_icmp_ge (tgt := 125) hx hb (by omega) (by omega) dX3_radiusOf_65 (by decide) (fun c_65 => ?_) (fun c_65 => ?_)
              · refine lv_iinc (v := zi (((k : Int)) + (1))) (lv' := [(4, .int (zi (((k : Int)) + (1)))), (3, .int (zi (rs (k)))), (6, .int (zi (rs (k)))), (5, .int (zi (hs (k)))), (2, .int (zi (h))), (1, .int (zi ((j : Int)))), (0, .ref m0)]) hx hb dX3_radiusOf_125 hl (k := 3) rfl (zi_add _ _) (by decide) rfl (fun ls hl => ?_)
                refine lv_goto (tgt := 5) hx hb dX3_radiusOf_128 (by decide) ?_
                have hb_ : m_rst n hs rs h k b = rs (k) := by unfold m_rst; rw [if_pos (by omega), if_pos (by omega)]
                rw [← hb_] at hl
                exact ih (k + 1) (m_rst n hs rs h k b) (by omega) (m_rst_bd hR hb9) (by rw [← ht, show n - k = (n - (k + 1)) + 1 by omega, m_rad]) (by omega) ls (lv_sub hl [0, 1, 4, 5, 6] rfl)
              · refine lv_aload_n hx hb dX3_radiusOf_68 rfl (lv_at hl 6 rfl) ?_
                refine lv_iload_n hx hb dX3_radiusOf_69 rfl (lv_at hl 5 rfl) ?_
                refine lv_iload hx hb dX3_radiusOf_70 (lv_at hl 3 rfl) ?_
                refine lv_iconst (v := zi (1)) hx hb dX3_radiusOf_72 rfl ?_
                refine zz_iadd hx hb dX3_radiusOf_73 ?_
                refine zz_topi (z := ((k + 1 : Nat) : Int)) (congrArg zi (by omega)) ?_
                refine rdV (As := [.int (zi ((j : Int))), .int (zi (((k + 1 : Nat) : Int)))]) (rest := []) (n := 2) hx hb hml hown hg (c_X3_height l dC dI m0 a1 a2 a3 a4 a5 a6 a7 a8 a9 a10 a11 (tw) (ab) (be) mp mb ml mz cA j hh hs (k + 1) hj hhs (by omega)) (gwV wl_X3_63 wm_X3_height we_X3_height wi_X3 wc_X3_height) rfl rfl (by decide +kernel) ⟨Nat.le_of_ble_eq_true rfl, Nat.le_of_ble_eq_true rfl⟩ (hK.sub [0] rfl) (hP.sub [0, 2] rfl) 0 rfl rfl rfl rfl hl.1 rfl (Nat.le_of_ble_eq_true rfl) dX3_radiusOf_74 ⟨Nat.zero_le _, Nat.zero_le _⟩ ?_
                have hv_9 := hH (k + 1)
                refine lv_iload_n hx hb dX3_radiusOf_77 rfl (lv_at hl 4 rfl) ?_
                refine zz_icmp_gt (tgt := 84) hx hb (by omega) (by omega) dX3_radiusOf_78 (by decide) (fun c_78 => ?_) (fun c_78 => ?_)
                · refine lv_aload_n hx hb dX3_radiusOf_84 rfl (lv_at hl 6 rfl) ?_
                  refine lv_iload_n hx hb dX3_radiusOf_85 rfl (lv_at hl 5 rfl) ?_
                  refine lv_iload hx hb dX3_radiusOf_86 (lv_at hl 3 rfl) ?_
                  refine lv_iconst (v := zi (1)) hx hb dX3_radiusOf_88 rfl ?_
                  refine zz_iadd hx hb dX3_radiusOf_89 ?_
                  refine zz_topi (z := ((k + 1 : Nat) : Int)) (congrArg zi (by omega)) ?_
                  refine rdV (As := [.int (zi ((j : Int))), .int (zi (((k + 1 : Nat) : Int)))]) (rest := []) (n := 2) hx hb hml hown hg (c_X3_height l dC dI m0 a1 a2 a3 a4 a5 a6 a7 a8 a9 a10 a11 (tw) (ab) (be) mp mb ml mz cA j hh hs (k + 1) hj hhs (by omega)) (gwV wl_X3_63 wm_X3_height we_X3_height wi_X3 wc_X3_height) rfl rfl (by decide +kernel) ⟨Nat.le_of_ble_eq_true rfl, Nat.le_of_ble_eq_true rfl⟩ (hK.sub [0] rfl) (hP.sub [0, 2] rfl) 0 rfl rfl rfl rfl hl.1 rfl (Nat.le_of_ble_eq_true rfl) dX3_radiusOf_90 ⟨Nat.zero_le _, Nat.zero_le _⟩ ?_
                  have hv_10 := hH (k + 1)
                  refine lv_iload hx hb dX3_radiusOf_93 (lv_at hl 2 rfl) ?_
                  refine zz_isub hx hb dX3_radiusOf_95 ?_
                  refine lv_istore (lv' := [(7, .int (zi ((hs (k + 1)) - (hs (k))))), (3, .int (zi (rs (k)))), (6, .int (zi (rs (k)))), (5, .int (zi (hs (k)))), (4, .int (zi ((k : Int)))), (2, .int (zi (h))), (1, .int (zi ((j : Int)))), (0, .ref m0)]) hx hb dX3_radiusOf_96 hl (by decide) rfl (fun ls hl => ?_)
                  refine lv_iload hx hb dX3_radiusOf_98 (lv_at hl 2 rfl) ?_
                  refine lv_iload hx hb dX3_radiusOf_100 (lv_at hl 0 rfl) ?_
                  refine zz_imul hx hb dX3_radiusOf_102 ?_
                  refine lv_aload_n hx hb dX3_radiusOf_103 rfl (lv_at hl 7 rfl) ?_
                  refine lv_iload_n hx hb dX3_radiusOf_104 rfl (lv_at hl 6 rfl) ?_
                  refine lv_iload hx hb dX3_radiusOf_105 (lv_at hl 4 rfl) ?_
                  refine lv_iconst (v := zi (1)) hx hb dX3_radiusOf_107 rfl ?_
                  refine zz_iadd hx hb dX3_radiusOf_108 ?_
                  refine zz_topi (z := ((k + 1 : Nat) : Int)) (congrArg zi (by omega)) ?_
                  refine rdV (As := [.int (zi ((j : Int))), .int (zi (((k + 1 : Nat) : Int)))]) (rest := [.int (zi ((rs (k)) * ((hs (k + 1)) - (hs (k)))))]) (n := 2) hx hb hml hown hg (c_X3_radiusAt l dC dI m0 a1 a2 a3 a4 a5 a6 a7 a8 a9 a10 a11 (tw) (ab) (be) mp mb ml mz cA j rr rs (k + 1) hj hrs (by omega)) (gwV wl_X3_67 wm_X3_radiusAt we_X3_radiusAt wi_X3 wc_X3_radiusAt) rfl rfl (by decide +kernel) ⟨Nat.le_of_ble_eq_true rfl, Nat.le_of_ble_eq_true rfl⟩ (hK.sub [0] rfl) (hP.sub [0, 3] rfl) 0 rfl rfl rfl rfl hl.1 rfl (Nat.le_of_ble_eq_true rfl) dX3_radiusOf_109 ⟨Nat.zero_le _, Nat.zero_le _⟩ ?_
                  have hv_11 := hR (k + 1)
                  refine lv_iload hx hb dX3_radiusOf_112 (lv_at hl 2 rfl) ?_
                  refine zz_isub hx hb dX3_radiusOf_114 ?_
                  refine lv_iload_n hx hb dX3_radiusOf_115 rfl (lv_at hl 5 rfl) ?_
                  refine lv_iload hx hb dX3_radiusOf_116 (lv_at hl 3 rfl) ?_
                  refine zz_isub hx hb dX3_radiusOf_118 ?_
                  refine zz_imul hx hb dX3_radiusOf_119 ?_
                  refine zz_iadd hx hb dX3_radiusOf_120 ?_
                  refine lv_iload hx hb dX3_radiusOf_121 (lv_at hl 0 rfl) ?_
                  refine zz_idiv hx hb (by have e := m_num (r := rs k) (s := rs (k + 1)) (d := hs (k + 1) - hs k) (x := h - hs k) (hR k) (hR (k + 1)) (by omega); omega) (by omega) dX3_radiusOf_123 ?_
                  refine lv_istore_n (lv' := [(3, .int (zi (Int.tdiv (((rs (k)) * ((hs (k + 1)) - (hs (k)))) + (((rs (k + 1)) - (rs (k))) * ((h) - (hs (k))))) ((hs (k + 1)) - (hs (k)))))), (7, .int (zi ((hs (k + 1)) - (hs (k))))), (6, .int (zi (rs (k)))), (5, .int (zi (hs (k)))), (4, .int (zi ((k : Int)))), (2, .int (zi (h))), (1, .int (zi ((j : Int)))), (0, .ref m0)]) hx hb dX3_radiusOf_124 rfl hl (by decide) rfl (fun ls hl => ?_)
                  refine lv_iinc (v := zi (((k : Int)) + (1))) (lv' := [(4, .int (zi (((k : Int)) + (1)))), (3, .int (zi (Int.tdiv (((rs (k)) * ((hs (k + 1)) - (hs (k)))) + (((rs (k + 1)) - (rs (k))) * ((h) - (hs (k))))) ((hs (k + 1)) - (hs (k)))))), (7, .int (zi ((hs (k + 1)) - (hs (k))))), (6, .int (zi (rs (k)))), (5, .int (zi (hs (k)))), (2, .int (zi (h))), (1, .int (zi ((j : Int)))), (0, .ref m0)]) hx hb dX3_radiusOf_125 hl (k := 4) rfl (zi_add _ _) (by decide) rfl (fun ls hl => ?_)
                  refine lv_goto (tgt := 5) hx hb dX3_radiusOf_128 (by decide) ?_
                  have hb_ : m_rst n hs rs h k b = Int.tdiv (((rs (k)) * ((hs (k + 1)) - (hs (k)))) + (((rs (k + 1)) - (rs (k))) * ((h) - (hs (k))))) ((hs (k + 1)) - (hs (k))) := by unfold m_rst; rw [if_neg (by omega)]
                  rw [← hb_] at hl
                  exact ih (k + 1) (m_rst n hs rs h k b) (by omega) (m_rst_bd hR hb9) (by rw [← ht, show n - k = (n - (k + 1)) + 1 by omega, m_rad]) (by omega) ls (lv_sub hl [0, 1, 5, 6, 7] rfl)
                · refine lv_goto (tgt := 125) hx hb dX3_radiusOf_81 (by decide) ?_
                  refine lv_iinc (v := zi (((k : Int)) + (1))) (lv' := [(4, .int (zi (((k : Int)) + (1)))), (3, .int (zi (rs (k)))), (6, .int (zi (rs (k)))), (5, .int (zi (hs (k)))), (2, .int (zi (h))), (1, .int (zi ((j : Int)))), (0, .ref m0)]) hx hb dX3_radiusOf_125 hl (k := 3) rfl (zi_add _ _) (by decide) rfl (fun ls hl => ?_)
                  refine lv_goto (tgt := 5) hx hb dX3_radiusOf_128 (by decide) ?_
                  have hb_ : m_rst n hs rs h k b = rs (k) := by unfold m_rst; rw [if_pos (by omega), if_pos (by omega)]
                  rw [← hb_] at hl
                  exact ih (k + 1) (m_rst n hs rs h k b) (by omega) (m_rst_bd hR hb9) (by rw [← ht, show n - k = (n - (k + 1)) + 1 by omega, m_rad]) (by omega) ls (lv_sub hl [0, 1, 4, 5, 6] rfl)
  exact key_5 _ 0 (-1) (Nat.zero_le _) (by decide) rfl (Nat.lt_succ_self _) ls (lv_sub hl [0, 1, 4, 3, 2] rfl)

abbrev rm_X3_radius : Room := { frames := 2, cells := 0, slots := 0, locals := 49 }
set_option maxHeartbeats 4000000 in
set_option maxRecDepth 100000 in
theorem e_radius (l : Launch) (dC : Nat → ClassId) (dI : Nat → Nat → Nat) (sz : Nat) (m0 a1 a2 a3 a4 a5 a6 a7 a8 a9 a10 a11 : Nat) (tw ab be : Int) (mp mb ml mz : Nat) (q h : Int) (hmp : mp ≤ 6) (h_q : -2147483648 ≤ q ∧ q < 2147483648) (hbad : ¬ (0 ≤ q ∧ q < (mp : Int))) : Met l yX3_radius (Cond.code yX3_radius cX3_radius 3 ((Option.some Jvm.ClassFile.FieldType.int)) :: gw) rm_X3_radius (PcW [.ref m0, .int (zi (q)), .int (zi (h))] (dC, dI) vwCl [(m0, .inr (3, [.int (zi (tw)), .int (zi ((mp : Int))), .ref a1, .ref a2, .ref a3, .ref a4, .ref a5, .ref a6, .int (zi ((mb : Int))), .ref a7, .ref a8, .int (zi ((ml : Int))), .ref a9, .ref a10, .int (zi ((mz : Int))), .ref a11, .long (zl (ab)), .long (zl (be))]))] [] sz) (WrQ (some (.int (zi 0))) (dC, dI) vwCl [(m0, .inr (3, [.int (zi (1)), .int (zi ((mp : Int))), .ref a1, .ref a2, .ref a3, .ref a4, .ref a5, .ref a6, .int (zi ((mb : Int))), .ref a7, .ref a8, .int (zi ((ml : Int))), .ref a9, .ref a10, .int (zi ((mz : Int))), .ref a11, .long (zl (ab)), .long (zl (be))]))] (va_A [(m0, .inr (3, [.int (zi (tw)), .int (zi ((mp : Int))), .ref a1, .ref a2, .ref a3, .ref a4, .ref a5, .ref a6, .int (zi ((mb : Int))), .ref a7, .ref a8, .int (zi ((ml : Int))), .ref a9, .ref a10, .int (zi ((mz : Int))), .ref a11, .long (zl (ab)), .long (zl (be))]))] sz)) 0 0 (va_A [(m0, .inr (3, [.int (zi (tw)), .int (zi ((mp : Int))), .ref a1, .ref a2, .ref a3, .ref a4, .ref a5, .ref a6, .int (zi ((mb : Int))), .ref a7, .ref a8, .int (zi ((ml : Int))), .ref a9, .ref a10, .int (zi ((mz : Int))), .ref a11, .long (zl (ab)), .long (zl (be))]))] sz) := by
  refine Met.ofW (cc := cX3_radius) (maxL := 3) (ret := ((Option.some Jvm.ClassFile.FieldType.int))) (by decide) rfl ?_
  intro p e s m args below meth c s₁ B hml hv
  obtain ⟨hargs, hsz, hP, hK, hD0⟩ := hv
  have hx := B.exec
  have hb := B.bytes
  have hr := B.returns
  have hts := atoms_spec (ws := Cond.code yX3_radius cX3_radius 3 ((Option.some Jvm.ClassFile.FieldType.int)) :: gw) B.pre
  have hg : ∀ w ∈ gw, w.before args s = true := fun w h => hts w (List.mem_cons_of_mem _ h)
  have hown : s.vm.findClass RX3 = some m.cls := findClass_of_methodNamed B.named
  have hlocks := B.notSynchronized
  subst hsz
  have hD := hD0.self (sz := s.heap.size)
  generalize hAe : va_A [(m0, .inr (3, [.int (zi (tw)), .int (zi ((mp : Int))), .ref a1, .ref a2, .ref a3, .ref a4, .ref a5, .ref a6, .int (zi ((mb : Int))), .ref a7, .ref a8, .int (zi ((ml : Int))), .ref a9, .ref a10, .int (zi ((mz : Int))), .ref a11, .long (zl (ab)), .long (zl (be))]))] s.heap.size = A at hD ⊢
  have hA : ∀ q : Nat, s.heap.size ≤ q → A q := fun q h => by rw [← hAe]; exact Or.inr h
  show W p l e rm_X3_radius s m args below meth c s.heap [] 0 0 _ _
  have hl := lv_entry ([.ref m0, .int (zi (q)), .int (zi (h))]) (n := 3) (Nat.le_of_ble_eq_true rfl)
  rw [show entryFrame m args 3 = entryFrame m ([.ref m0, .int (zi (q)), .int (zi (h))] : List Value).toArray 3 by rw [hargs], lg_entry_eq]
  generalize (lg_sl ([.ref m0, .int (zi (q)), .int (zi (h))]) ++ List.replicate (3 - (lg_sl ([.ref m0, .int (zi (q)), .int (zi (h))])).length) Slot.unset).toArray = ls at hl ⊢
  have hl : lv_has ls 3 [(0, .ref m0), (1, .int (zi (q))), (2, .int (zi (h)))] := hl
  obtain ⟨QQ, hQQ⟩ : ∃ Q, Q = MQ below (WrQ (some (.int (zi 0))) (dC, dI) vwCl [(m0, .inr (3, [.int (zi (1)), .int (zi ((mp : Int))), .ref a1, .ref a2, .ref a3, .ref a4, .ref a5, .ref a6, .int (zi ((mb : Int))), .ref a7, .ref a8, .int (zi ((ml : Int))), .ref a9, .ref a10, .int (zi ((mz : Int))), .ref a11, .long (zl (ab)), .long (zl (be))]))] A) args s 0 0 A := ⟨_, rfl⟩
  rw [← hQQ]
  obtain ⟨H, hHe⟩ : ∃ H : Heap, H = s.heap := ⟨_, rfl⟩
  obtain ⟨locs, hlc⟩ : ∃ x : List Loc, x = [] := ⟨_, rfl⟩
  have hS : va_S A s.heap H locs := by rw [hHe, hlc]; exact va_S.rf
  have hP : va_P (dC, dI) vwCl [(m0, .inr (3, [.int (zi (tw)), .int (zi ((mp : Int))), .ref a1, .ref a2, .ref a3, .ref a4, .ref a5, .ref a6, .int (zi ((mb : Int))), .ref a7, .ref a8, .int (zi ((ml : Int))), .ref a9, .ref a10, .int (zi ((mz : Int))), .ref a11, .long (zl (ab)), .long (zl (be))]))] H := by rw [hHe]; exact hP
  have hD : va_D A [(m0, .inr (3, [.int (zi (tw)), .int (zi ((mp : Int))), .ref a1, .ref a2, .ref a3, .ref a4, .ref a5, .ref a6, .int (zi ((mb : Int))), .ref a7, .ref a8, .int (zi ((ml : Int))), .ref a9, .ref a10, .int (zi ((mz : Int))), .ref a11, .long (zl (ab)), .long (zl (be))]))] := hD
  rw [← hHe, ← hlc]
  refine lv_aload_n hx hb dX3_radius_0 rfl (lv_at hl 0 rfl) ?_
  refine lv_aload_n hx hb dX3_radius_1 rfl (lv_at hl 0 rfl) ?_
  refine lv_iload_n hx hb dX3_radius_2 rfl (lv_at hl 1 rfl) ?_
  refine rdV (As := [.int (zi (q))]) (rest := [.ref m0]) (n := 1) hx hb hml hown hg (c_X3_isProfile l dC dI m0 a1 a2 a3 a4 a5 a6 a7 a8 a9 a10 a11 (tw) (ab) (be) mp mb ml mz (q) hmp (by omega)) (gwV wl_X3_70 wm_X3_isProfile we_X3_isProfile wi_X3 wc_X3_isProfile) rfl rfl (by decide +kernel) ⟨Nat.le_of_ble_eq_true rfl, Nat.le_of_ble_eq_true rfl⟩ (hK.sub [] rfl) (hP.sub [0] rfl) 0 rfl rfl rfl rfl hl.1 rfl (Nat.le_of_ble_eq_true rfl) dX3_radius_3 ⟨Nat.zero_le _, Nat.zero_le _⟩ ?_
  refine zz_topi (z := 0) (congrArg zi (zb_f (decide_eq_false (by omega)))) ?_
  refine zz_if_ne (tgt := 13) hx hb (by omega) dX3_radius_6 (by decide) (fun c_6 => ?_) (fun c_6 => ?_)
  · exact absurd c_6 (by decide)
  · refine lv_iconst (v := zi (1)) hx hb dX3_radius_9 rfl ?_
    refine lv_goto (tgt := 14) hx hb dX3_radius_10 (by decide) ?_
    refine lv_iconst (v := zi (0)) hx hb dX3_radius_14 rfl ?_
    refine lv_iconst (v := zi (0)) hx hb dX3_radius_15 rfl ?_
    refine wrV (As := [.int (zi (1)), .int (zi (0)), .int (zi (0))]) (rest := []) (n := 3) (ws' := [(m0, .inr (3, [.int (zi (1)), .int (zi ((mp : Int))), .ref a1, .ref a2, .ref a3, .ref a4, .ref a5, .ref a6, .int (zi ((mb : Int))), .ref a7, .ref a8, .int (zi ((ml : Int))), .ref a9, .ref a10, .int (zi ((mz : Int))), .ref a11, .long (zl (ab)), .long (zl (be))]))]) hx hb hml hown hg (c_throwing l dC dI H.size m0 a1 a2 a3 a4 a5 a6 a7 a8 a9 a10 a11 (tw) (ab) (be) mp mb ml mz 1 0 0 (by decide) (by decide) (by decide)) (gwV wl_X3_59 wm_X3_throwing we_X3_throwing wi_X3 wc_X3_throwing) rfl rfl (by decide +kernel) ⟨Nat.le_of_ble_eq_true rfl, Nat.le_of_ble_eq_true rfl⟩ (hK.sub [] rfl) hP hD hS hA [0] rfl (by decide) [(true, 0)] rfl (by decide) rfl 0 rfl rfl rfl rfl hl.1 rfl (Nat.le_of_ble_eq_true rfl) dX3_radius_16 ⟨Nat.zero_le _, Nat.zero_le _⟩ (fun H locs hP hD hS => ?_)
    refine zz_topi (z := 1) (congrArg zi (by decide)) ?_
    refine zz_if_eq (tgt := 24) hx hb (by omega) dX3_radius_19 (by decide) (fun c_19 => ?_) (fun c_19 => ?_)
    · exact absurd c_19 (by decide)
    · refine lv_iconst (v := zi (0)) hx hb dX3_radius_22 rfl ?_
      have hP9 : va_P (dC, dI) vwCl [(m0, .inr (3, [.int (zi (1)), .int (zi ((mp : Int))), .ref a1, .ref a2, .ref a3, .ref a4, .ref a5, .ref a6, .int (zi ((mb : Int))), .ref a7, .ref a8, .int (zi ((ml : Int))), .ref a9, .ref a10, .int (zi ((mz : Int))), .ref a11, .long (zl (ab)), .long (zl (be))]))] H := hP
      rw [hQQ]
      exact wr_i hx hb hr hlocks rfl hP9 hS dX3_radius_23

set_option maxHeartbeats 4000000 in
set_option maxRecDepth 100000 in
theorem k_radius (l : Launch) (dC : Nat → ClassId) (dI : Nat → Nat → Nat) (sz : Nat) (m0 a1 a2 a3 a4 a5 a6 a7 a8 a9 a10 a11 : Nat) (tw ab be : Int) (mp mb ml mz : Nat) (cA : ClassId) (j n : Nat) (sf hh rr hs rs : Nat → Int) (h : Int) (hj : j < 6) (hsf : sf j = (n : Int)) (hhs : ∀ k, k < 12 → hh (12 * j + k) = hs k) (hrs : ∀ k, k < 12 → rr (12 * j + k) = rs k) (hn : n ≤ 12) (hH : ∀ j, 0 ≤ hs j ∧ hs j ≤ 400) (hR : ∀ j, 0 ≤ rs j ∧ rs j ≤ 200) (hmp : mp ≤ 6) (hjp : j < mp) (h_h : -2147483648 ≤ h ∧ h < 2147483648) : Met l yX3_radius (Cond.code yX3_radius cX3_radius 3 ((Option.some Jvm.ClassFile.FieldType.int)) :: gw) rm_X3_radius (PcW [.ref m0, .int (zi ((j : Int))), .int (zi (h))] (dC, dI) vwCl [(m0, .inr (3, [.int (zi (tw)), .int (zi ((mp : Int))), .ref a1, .ref a2, .ref a3, .ref a4, .ref a5, .ref a6, .int (zi ((mb : Int))), .ref a7, .ref a8, .int (zi ((ml : Int))), .ref a9, .ref a10, .int (zi ((mz : Int))), .ref a11, .long (zl (ab)), .long (zl (be))])), (a1, .inl (cA, 6, .inl (zA (sf)))), (a2, .inl (cA, 72, .inl (zA (hh)))), (a3, .inl (cA, 72, .inl (zA (rr))))] [(cA, .int)] sz) (WrQ (some (.int (zi (m_rad n hs rs h n 0 (-1))))) (dC, dI) vwCl [(m0, .inr (3, [.int (zi (0)), .int (zi ((mp : Int))), .ref a1, .ref a2, .ref a3, .ref a4, .ref a5, .ref a6, .int (zi ((mb : Int))), .ref a7, .ref a8, .int (zi ((ml : Int))), .ref a9, .ref a10, .int (zi ((mz : Int))), .ref a11, .long (zl (ab)), .long (zl (be))])), (a1, .inl (cA, 6, .inl (zA (sf)))), (a2, .inl (cA, 72, .inl (zA (hh)))), (a3, .inl (cA, 72, .inl (zA (rr))))] (va_A [(m0, .inr (3, [.int (zi (tw)), .int (zi ((mp : Int))), .ref a1, .ref a2, .ref a3, .ref a4, .ref a5, .ref a6, .int (zi ((mb : Int))), .ref a7, .ref a8, .int (zi ((ml : Int))), .ref a9, .ref a10, .int (zi ((mz : Int))), .ref a11, .long (zl (ab)), .long (zl (be))])), (a1, .inl (cA, 6, .inl (zA (sf)))), (a2, .inl (cA, 72, .inl (zA (hh)))), (a3, .inl (cA, 72, .inl (zA (rr))))] sz)) 0 0 (va_A [(m0, .inr (3, [.int (zi (tw)), .int (zi ((mp : Int))), .ref a1, .ref a2, .ref a3, .ref a4, .ref a5, .ref a6, .int (zi ((mb : Int))), .ref a7, .ref a8, .int (zi ((ml : Int))), .ref a9, .ref a10, .int (zi ((mz : Int))), .ref a11, .long (zl (ab)), .long (zl (be))])), (a1, .inl (cA, 6, .inl (zA (sf)))), (a2, .inl (cA, 72, .inl (zA (hh)))), (a3, .inl (cA, 72, .inl (zA (rr))))] sz) := by
  refine Met.ofW (cc := cX3_radius) (maxL := 3) (ret := ((Option.some Jvm.ClassFile.FieldType.int))) (by decide) rfl ?_
  intro p e s m args below meth c s₁ B hml hv
  obtain ⟨hargs, hsz, hP, hK, hD0⟩ := hv
  have hx := B.exec
  have hb := B.bytes
  have hr := B.returns
  have hts := atoms_spec (ws := Cond.code yX3_radius cX3_radius 3 ((Option.some Jvm.ClassFile.FieldType.int)) :: gw) B.pre
  have hg : ∀ w ∈ gw, w.before args s = true := fun w h => hts w (List.mem_cons_of_mem _ h)
  have hown : s.vm.findClass RX3 = some m.cls := findClass_of_methodNamed B.named
  have hlocks := B.notSynchronized
  subst hsz
  have hD := hD0.self (sz := s.heap.size)
  generalize hAe : va_A [(m0, .inr (3, [.int (zi (tw)), .int (zi ((mp : Int))), .ref a1, .ref a2, .ref a3, .ref a4, .ref a5, .ref a6, .int (zi ((mb : Int))), .ref a7, .ref a8, .int (zi ((ml : Int))), .ref a9, .ref a10, .int (zi ((mz : Int))), .ref a11, .long (zl (ab)), .long (zl (be))])), (a1, .inl (cA, 6, .inl (zA (sf)))), (a2, .inl (cA, 72, .inl (zA (hh)))), (a3, .inl (cA, 72, .inl (zA (rr))))] s.heap.size = A at hD ⊢
  have hA : ∀ q : Nat, s.heap.size ≤ q → A q := fun q h => by rw [← hAe]; exact Or.inr h
  show W p l e rm_X3_radius s m args below meth c s.heap [] 0 0 _ _
  have hl := lv_entry ([.ref m0, .int (zi ((j : Int))), .int (zi (h))]) (n := 3) (Nat.le_of_ble_eq_true rfl)
  rw [show entryFrame m args 3 = entryFrame m ([.ref m0, .int (zi ((j : Int))), .int (zi (h))] : List Value).toArray 3 by rw [hargs], lg_entry_eq]
  generalize (lg_sl ([.ref m0, .int (zi ((j : Int))), .int (zi (h))]) ++ List.replicate (3 - (lg_sl ([.ref m0, .int (zi ((j : Int))), .int (zi (h))])).length) Slot.unset).toArray = ls at hl ⊢
  have hl : lv_has ls 3 [(0, .ref m0), (1, .int (zi ((j : Int)))), (2, .int (zi (h)))] := hl
  obtain ⟨QQ, hQQ⟩ : ∃ Q, Q = MQ below (WrQ (some (.int (zi (m_rad n hs rs h n 0 (-1))))) (dC, dI) vwCl [(m0, .inr (3, [.int (zi (0)), .int (zi ((mp : Int))), .ref a1, .ref a2, .ref a3, .ref a4, .ref a5, .ref a6, .int (zi ((mb : Int))), .ref a7, .ref a8, .int (zi ((ml : Int))), .ref a9, .ref a10, .int (zi ((mz : Int))), .ref a11, .long (zl (ab)), .long (zl (be))])), (a1, .inl (cA, 6, .inl (zA (sf)))), (a2, .inl (cA, 72, .inl (zA (hh)))), (a3, .inl (cA, 72, .inl (zA (rr))))] A) args s 0 0 A := ⟨_, rfl⟩
  rw [← hQQ]
  obtain ⟨H, hHe⟩ : ∃ H : Heap, H = s.heap := ⟨_, rfl⟩
  obtain ⟨locs, hlc⟩ : ∃ x : List Loc, x = [] := ⟨_, rfl⟩
  have hS : va_S A s.heap H locs := by rw [hHe, hlc]; exact va_S.rf
  have hP : va_P (dC, dI) vwCl [(m0, .inr (3, [.int (zi (tw)), .int (zi ((mp : Int))), .ref a1, .ref a2, .ref a3, .ref a4, .ref a5, .ref a6, .int (zi ((mb : Int))), .ref a7, .ref a8, .int (zi ((ml : Int))), .ref a9, .ref a10, .int (zi ((mz : Int))), .ref a11, .long (zl (ab)), .long (zl (be))])), (a1, .inl (cA, 6, .inl (zA (sf)))), (a2, .inl (cA, 72, .inl (zA (hh)))), (a3, .inl (cA, 72, .inl (zA (rr))))] H := by rw [hHe]; exact hP
  have hD : va_D A [(m0, .inr (3, [.int (zi (tw)), .int (zi ((mp : Int))), .ref a1, .ref a2, .ref a3, .ref a4, .ref a5, .ref a6, .int (zi ((mb : Int))), .ref a7, .ref a8, .int (zi ((ml : Int))), .ref a9, .ref a10, .int (zi ((mz : Int))), .ref a11, .long (zl (ab)), .long (zl (be))])), (a1, .inl (cA, 6, .inl (zA (sf)))), (a2, .inl (cA, 72, .inl (zA (hh)))), (a3, .inl (cA, 72, .inl (zA (rr))))] := hD
  rw [← hHe, ← hlc]
  refine lv_aload_n hx hb dX3_radius_0 rfl (lv_at hl 0 rfl) ?_
  refine lv_aload_n hx hb dX3_radius_1 rfl (lv_at hl 0 rfl) ?_
  refine lv_iload_n hx hb dX3_radius_2 rfl (lv_at hl 1 rfl) ?_
  refine rdV (As := [.int (zi ((j : Int)))]) (rest := [.ref m0]) (n := 1) hx hb hml hown hg (c_X3_isProfile l dC dI m0 a1 a2 a3 a4 a5 a6 a7 a8 a9 a10 a11 (tw) (ab) (be) mp mb ml mz ((j : Int)) hmp (by omega)) (gwV wl_X3_70 wm_X3_isProfile we_X3_isProfile wi_X3 wc_X3_isProfile) rfl rfl (by decide +kernel) ⟨Nat.le_of_ble_eq_true rfl, Nat.le_of_ble_eq_true rfl⟩ (hK.sub [] rfl) (hP.sub [0] rfl) 0 rfl rfl rfl rfl hl.1 rfl (Nat.le_of_ble_eq_true rfl) dX3_radius_3 ⟨Nat.zero_le _, Nat.zero_le _⟩ ?_
  refine zz_topi (z := 1) (congrArg zi (zb_t (decide_eq_true (by omega)))) ?_
  refine zz_if_ne (tgt := 13) hx hb (by omega) dX3_radius_6 (by decide) (fun c_6 => ?_) (fun c_6 => ?_)
  · refine lv_iconst (v := zi (0)) hx hb dX3_radius_13 rfl ?_
    refine lv_iconst (v := zi (0)) hx hb dX3_radius_14 rfl ?_
    refine lv_iconst (v := zi (0)) hx hb dX3_radius_15 rfl ?_
    refine wrV (As := [.int (zi (0)), .int (zi (0)), .int (zi (0))]) (rest := []) (n := 3) (ws' := [(m0, .inr (3, [.int (zi (0)), .int (zi ((mp : Int))), .ref a1, .ref a2, .ref a3, .ref a4, .ref a5, .ref a6, .int (zi ((mb : Int))), .ref a7, .ref a8, .int (zi ((ml : Int))), .ref a9, .ref a10, .int (zi ((mz : Int))), .ref a11, .long (zl (ab)), .long (zl (be))])), (a1, .inl (cA, 6, .inl (zA (sf)))), (a2, .inl (cA, 72, .inl (zA (hh)))), (a3, .inl (cA, 72, .inl (zA (rr))))]) hx hb hml hown hg (c_throwing l dC dI H.size m0 a1 a2 a3 a4 a5 a6 a7 a8 a9 a10 a11 (tw) (ab) (be) mp mb ml mz 0 0 0 (by decide) (by decide) (by decide)) (gwV wl_X3_59 wm_X3_throwing we_X3_throwing wi_X3 wc_X3_throwing) rfl rfl (by decide +kernel) ⟨Nat.le_of_ble_eq_true rfl, Nat.le_of_ble_eq_true rfl⟩ (hK.sub [] rfl) hP hD hS hA [0] rfl (by decide) [(true, 0), (false, 1), (false, 2), (false, 3)] rfl (by decide) rfl 0 rfl rfl rfl rfl hl.1 rfl (Nat.le_of_ble_eq_true rfl) dX3_radius_16 ⟨Nat.zero_le _, Nat.zero_le _⟩ (fun H locs hP hD hS => ?_)
    refine zz_topi (z := 0) (congrArg zi (by decide)) ?_
    refine zz_if_eq (tgt := 24) hx hb (by omega) dX3_radius_19 (by decide) (fun c_19 => ?_) (fun c_19 => ?_)
    · refine lv_aload_n hx hb dX3_radius_24 rfl (lv_at hl 0 rfl) ?_
      refine lv_iload_n hx hb dX3_radius_25 rfl (lv_at hl 1 rfl) ?_
      refine lv_iload_n hx hb dX3_radius_26 rfl (lv_at hl 2 rfl) ?_
      refine rdV (As := [.int (zi ((j : Int))), .int (zi (h))]) (rest := []) (n := 2) hx hb hml hown hg (c_X3_radiusOf l dC dI m0 a1 a2 a3 a4 a5 a6 a7 a8 a9 a10 a11 (0) (ab) (be) mp mb ml mz cA j n sf hh rr hs rs (h) hj hsf hhs hrs hn hH hR (by omega)) (gwV wl_X3_81 wm_X3_radiusOf we_X3_radiusOf wi_X3 wc_X3_radiusOf) rfl rfl (by decide +kernel) ⟨Nat.le_of_ble_eq_true rfl, Nat.le_of_ble_eq_true rfl⟩ (hK.sub [0] rfl) (hP.sub [0, 1, 2, 3] rfl) 0 rfl rfl rfl rfl hl.1 rfl (Nat.le_of_ble_eq_true rfl) dX3_radius_27 ⟨Nat.zero_le _, Nat.zero_le _⟩ ?_
      have hP9 : va_P (dC, dI) vwCl [(m0, .inr (3, [.int (zi (0)), .int (zi ((mp : Int))), .ref a1, .ref a2, .ref a3, .ref a4, .ref a5, .ref a6, .int (zi ((mb : Int))), .ref a7, .ref a8, .int (zi ((ml : Int))), .ref a9, .ref a10, .int (zi ((mz : Int))), .ref a11, .long (zl (ab)), .long (zl (be))])), (a1, .inl (cA, 6, .inl (zA (sf)))), (a2, .inl (cA, 72, .inl (zA (hh)))), (a3, .inl (cA, 72, .inl (zA (rr))))] H := hP
      rw [hQQ]
      exact wr_i hx hb hr hlocks rfl hP9 hS dX3_radius_30
    · exact absurd c_19 (by decide)
  · exact absurd c_6 (by decide)

abbrev rm_X3_common : Room := { frames := 0, cells := 0, slots := 0, locals := 0 }
set_option maxHeartbeats 4000000 in
set_option maxRecDepth 100000 in
theorem c_X3_common (l : Launch) (a b : Nat) (ha : a < 9223372036854775808) (hb9 : b < 9223372036854775808) : Met l yX3_common (Cond.code yX3_common cX3_common 10 ((Option.some Jvm.ClassFile.FieldType.long)) :: gw) rm_X3_common (PcS [.long (zl ((a : Int))), .long (zl ((b : Int)))]) (RdQ (some (.long (zl ((Nat.gcd a b : Nat) : Int))))) 0 0 (fun _ => False) := by
  refine Met.ofW (cc := cX3_common) (maxL := 10) (ret := ((Option.some Jvm.ClassFile.FieldType.long))) (by decide) rfl ?_
  intro p e s m args below meth c s₁ B hml hv
  obtain ⟨hargs, -⟩ := hv
  have hx := B.exec
  have hb := B.bytes
  have hr := B.returns
  have hts := atoms_spec (ws := Cond.code yX3_common cX3_common 10 ((Option.some Jvm.ClassFile.FieldType.long)) :: gw) B.pre
  have hg : ∀ w ∈ gw, w.before args s = true := fun w h => hts w (List.mem_cons_of_mem _ h)
  have hown : s.vm.findClass RX3 = some m.cls := findClass_of_methodNamed B.named
  have hlocks := B.notSynchronized
  show W p l e rm_X3_common s m args below meth c s.heap [] 0 0 _ _
  have hl := lv_entry ([.long (zl ((a : Int))), .long (zl ((b : Int)))]) (n := 10) (Nat.le_of_ble_eq_true rfl)
  rw [show entryFrame m args 10 = entryFrame m ([.long (zl ((a : Int))), .long (zl ((b : Int)))] : List Value).toArray 10 by rw [hargs], lg_entry_eq]
  generalize (lg_sl ([.long (zl ((a : Int))), .long (zl ((b : Int)))]) ++ List.replicate (10 - (lg_sl ([.long (zl ((a : Int))), .long (zl ((b : Int)))])).length) Slot.unset).toArray = ls at hl ⊢
  have hl : lv_has ls 10 [(0, .long (zl ((a : Int)))), (2, .long (zl ((b : Int))))] := hl
  obtain ⟨QQ, hQQ⟩ : ∃ Q, Q = MQ below (RdQ (some (.long (zl ((Nat.gcd a b : Nat) : Int))))) args s 0 0 (fun _ => False) := ⟨_, rfl⟩
  rw [← hQQ]
  refine lv_lload_n hx hb dX3_common_0 rfl (lv_at hl 0 rfl) ?_
  refine lv_lstore (lv' := [(4, .long (zl ((a : Int)))), (0, .long (zl ((a : Int)))), (2, .long (zl ((b : Int))))]) hx hb dX3_common_1 hl (by decide) rfl (fun ls hl => ?_)
  refine lv_lload_n hx hb dX3_common_3 rfl (lv_at hl 2 rfl) ?_
  refine lv_lstore (lv' := [(6, .long (zl ((b : Int)))), (4, .long (zl ((a : Int)))), (0, .long (zl ((a : Int)))), (2, .long (zl ((b : Int))))]) hx hb dX3_common_4 hl (by decide) rfl (fun ls hl => ?_)
  have key_6 : ∀ (n_ : Nat) (x y : Nat), Nat.gcd x y = Nat.gcd a b → x < 9223372036854775808 → y < 9223372036854775808 → y < n_ → ∀ (ls : Array Slot), lv_has ls 10 [(6, .long (zl ((y : Int)))), (4, .long (zl ((x : Int)))), (2, .long (zl ((b : Int)))), (0, .long (zl ((a : Int))))] → W p l e rm_X3_common s m args below meth c s.heap [] 0 0 QQ (F0 m 6 ls []) := by
    intro n_
    induction n_ with
    | zero => intro x y hgc hxb hyb hm_; exact absurd hm_ (Nat.not_lt_zero _)
    | succ n_ ih =>
      intro x y hgc hxb hyb hm_ ls hl
      refine lv_lload hx hb dX3_common_6 (lv_at hl 0 rfl) ?_
      refine lv_lconst (v := zl (0)) hx hb dX3_common_8 (by decide) ?_
      refine zz_lcmp_le (tgt := 31) hx hb (by omega) (by omega) dX3_common_9 dX3_common_10 (by decide) (fun c_9 => ?_) (fun c_9 => ?_)
      · have hy0 : y = 0 := by omega
        subst hy0
        refine lv_lload hx hb dX3_common_31 (lv_at hl 1 rfl) ?_
        rw [hQQ]
        exact rd_l hx hb hr hlocks (by rw [← hgc, Nat.gcd_zero_right]) dX3_common_33
      · refine lv_lload hx hb dX3_common_13 (lv_at hl 1 rfl) ?_
        refine lv_lload hx hb dX3_common_15 (lv_at hl 0 rfl) ?_
        refine zz_lrem hx hb (by omega) (by omega) dX3_common_17 ?_
        refine zz_topl (z := ((x % y : Nat) : Int)) (congrArg zl (ma_tmod x y)) ?_
        refine lv_lstore (lv' := [(8, .long (zl (((x % y : Nat) : Int)))), (6, .long (zl ((y : Int)))), (4, .long (zl ((x : Int)))), (2, .long (zl ((b : Int)))), (0, .long (zl ((a : Int))))]) hx hb dX3_common_18 hl (by decide) rfl (fun ls hl => ?_)
        refine lv_lload hx hb dX3_common_20 (lv_at hl 1 rfl) ?_
        refine lv_lstore (lv' := [(4, .long (zl ((y : Int)))), (8, .long (zl (((x % y : Nat) : Int)))), (6, .long (zl ((y : Int)))), (2, .long (zl ((b : Int)))), (0, .long (zl ((a : Int))))]) hx hb dX3_common_22 hl (by decide) rfl (fun ls hl => ?_)
        refine lv_lload hx hb dX3_common_24 (lv_at hl 1 rfl) ?_
        refine lv_lstore (lv' := [(6, .long (zl (((x % y : Nat) : Int)))), (4, .long (zl ((y : Int)))), (8, .long (zl (((x % y : Nat) : Int)))), (2, .long (zl ((b : Int)))), (0, .long (zl ((a : Int))))]) hx hb dX3_common_26 hl (by decide) rfl (fun ls hl => ?_)
        refine lv_goto (tgt := 6) hx hb dX3_common_28 (by decide) ?_
        exact ih y (x % y) ((ma_gcd x y).trans hgc) (by omega) (by have := Nat.mod_lt x (show 0 < y by omega); omega) (by have := Nat.mod_lt x (show 0 < y by omega); omega) ls (lv_sub hl [0, 1, 3, 4] rfl)
  exact key_6 _ a b rfl ha hb9 (Nat.lt_succ_self _) ls (lv_sub hl [0, 1, 3, 2] rfl)

abbrev rm_X3_lessen : Room := { frames := 1, cells := 0, slots := 0, locals := 29 }
set_option maxHeartbeats 4000000 in
set_option maxRecDepth 100000 in
theorem c_X3_lessen (l : Launch) (dC : Nat → ClassId) (dI : Nat → Nat → Nat) (sz : Nat) (m0 a1 a2 a3 a4 a5 a6 a7 a8 a9 a10 a11 : Nat) (tw : Int) (a b : Nat) (mp mb ml mz : Nat) (hb0 : 0 < b) (ha : a < 9223372036854775808) (hb9 : b < 9223372036854775808) : Met l yX3_lessen (Cond.code yX3_lessen cX3_lessen 3 ((Option.none : Option Jvm.ClassFile.FieldType)) :: gw) rm_X3_lessen (PcW [.ref m0] (dC, dI) vwCl [(m0, .inr (3, [.int (zi (tw)), .int (zi ((mp : Int))), .ref a1, .ref a2, .ref a3, .ref a4, .ref a5, .ref a6, .int (zi ((mb : Int))), .ref a7, .ref a8, .int (zi ((ml : Int))), .ref a9, .ref a10, .int (zi ((mz : Int))), .ref a11, .long (zl ((a : Int))), .long (zl ((b : Int)))]))] [] sz) (WrQ (none) (dC, dI) vwCl [(m0, .inr (3, [.int (zi (tw)), .int (zi ((mp : Int))), .ref a1, .ref a2, .ref a3, .ref a4, .ref a5, .ref a6, .int (zi ((mb : Int))), .ref a7, .ref a8, .int (zi ((ml : Int))), .ref a9, .ref a10, .int (zi ((mz : Int))), .ref a11, .long (zl (((a / Nat.gcd a b : Nat) : Int))), .long (zl (((b / Nat.gcd a b : Nat) : Int)))]))] (va_A [(m0, .inr (3, [.int (zi (tw)), .int (zi ((mp : Int))), .ref a1, .ref a2, .ref a3, .ref a4, .ref a5, .ref a6, .int (zi ((mb : Int))), .ref a7, .ref a8, .int (zi ((ml : Int))), .ref a9, .ref a10, .int (zi ((mz : Int))), .ref a11, .long (zl ((a : Int))), .long (zl ((b : Int)))]))] sz)) 0 0 (va_A [(m0, .inr (3, [.int (zi (tw)), .int (zi ((mp : Int))), .ref a1, .ref a2, .ref a3, .ref a4, .ref a5, .ref a6, .int (zi ((mb : Int))), .ref a7, .ref a8, .int (zi ((ml : Int))), .ref a9, .ref a10, .int (zi ((mz : Int))), .ref a11, .long (zl ((a : Int))), .long (zl ((b : Int)))]))] sz) := by
  refine Met.ofW (cc := cX3_lessen) (maxL := 3) (ret := ((Option.none : Option Jvm.ClassFile.FieldType))) (by decide) rfl ?_
  intro p e s m args below meth c s₁ B hml hv
  obtain ⟨hargs, hsz, hP, hK, hD0⟩ := hv
  have hx := B.exec
  have hb := B.bytes
  have hr := B.returns
  have hts := atoms_spec (ws := Cond.code yX3_lessen cX3_lessen 3 ((Option.none : Option Jvm.ClassFile.FieldType)) :: gw) B.pre
  have hg : ∀ w ∈ gw, w.before args s = true := fun w h => hts w (List.mem_cons_of_mem _ h)
  have hown : s.vm.findClass RX3 = some m.cls := findClass_of_methodNamed B.named
  have hlocks := B.notSynchronized
  subst hsz
  have hD := hD0.self (sz := s.heap.size)
  generalize hAe : va_A [(m0, .inr (3, [.int (zi (tw)), .int (zi ((mp : Int))), .ref a1, .ref a2, .ref a3, .ref a4, .ref a5, .ref a6, .int (zi ((mb : Int))), .ref a7, .ref a8, .int (zi ((ml : Int))), .ref a9, .ref a10, .int (zi ((mz : Int))), .ref a11, .long (zl ((a : Int))), .long (zl ((b : Int)))]))] s.heap.size = A at hD ⊢
  have hA : ∀ q : Nat, s.heap.size ≤ q → A q := fun q h => by rw [← hAe]; exact Or.inr h
  show W p l e rm_X3_lessen s m args below meth c s.heap [] 0 0 _ _
  have hl := lv_entry ([.ref m0]) (n := 3) (Nat.le_of_ble_eq_true rfl)
  rw [show entryFrame m args 3 = entryFrame m ([.ref m0] : List Value).toArray 3 by rw [hargs], lg_entry_eq]
  generalize (lg_sl ([.ref m0]) ++ List.replicate (3 - (lg_sl ([.ref m0])).length) Slot.unset).toArray = ls at hl ⊢
  have hl : lv_has ls 3 [(0, .ref m0)] := hl
  obtain ⟨QQ, hQQ⟩ : ∃ Q, Q = MQ below (WrQ (none) (dC, dI) vwCl [(m0, .inr (3, [.int (zi (tw)), .int (zi ((mp : Int))), .ref a1, .ref a2, .ref a3, .ref a4, .ref a5, .ref a6, .int (zi ((mb : Int))), .ref a7, .ref a8, .int (zi ((ml : Int))), .ref a9, .ref a10, .int (zi ((mz : Int))), .ref a11, .long (zl (((a / Nat.gcd a b : Nat) : Int))), .long (zl (((b / Nat.gcd a b : Nat) : Int)))]))] A) args s 0 0 A := ⟨_, rfl⟩
  rw [← hQQ]
  obtain ⟨H, hHe⟩ : ∃ H : Heap, H = s.heap := ⟨_, rfl⟩
  obtain ⟨locs, hlc⟩ : ∃ x : List Loc, x = [] := ⟨_, rfl⟩
  have hS : va_S A s.heap H locs := by rw [hHe, hlc]; exact va_S.rf
  have hP : va_P (dC, dI) vwCl [(m0, .inr (3, [.int (zi (tw)), .int (zi ((mp : Int))), .ref a1, .ref a2, .ref a3, .ref a4, .ref a5, .ref a6, .int (zi ((mb : Int))), .ref a7, .ref a8, .int (zi ((ml : Int))), .ref a9, .ref a10, .int (zi ((mz : Int))), .ref a11, .long (zl ((a : Int))), .long (zl ((b : Int)))]))] H := by rw [hHe]; exact hP
  have hD : va_D A [(m0, .inr (3, [.int (zi (tw)), .int (zi ((mp : Int))), .ref a1, .ref a2, .ref a3, .ref a4, .ref a5, .ref a6, .int (zi ((mb : Int))), .ref a7, .ref a8, .int (zi ((ml : Int))), .ref a9, .ref a10, .int (zi ((mz : Int))), .ref a11, .long (zl ((a : Int))), .long (zl ((b : Int)))]))] := hD
  rw [← hHe, ← hlc]
  have hgp : 0 < Nat.gcd a b := Nat.gcd_pos_of_pos_right a hb0
  have hgl : Nat.gcd a b ≤ b := Nat.gcd_le_right a hb0
  refine lv_aload_n hx hb dX3_lessen_0 rfl (lv_at hl 0 rfl) ?_
  refine va_get (D := (dC, dI)) (ci := 3) (v := .long (zl ((a : Int)))) (C := RX3) (T := TX3) (N := 18) hx hb hg inX3 hown hK hP 0 rfl rfl 16 (by decide) (hg _ wl_X3_84) (fun _ h9 => h9) rfl dX3_lessen_1 ?_
  refine lv_aload_n hx hb dX3_lessen_4 rfl (lv_at hl 0 rfl) ?_
  refine va_get (D := (dC, dI)) (ci := 3) (v := .long (zl ((b : Int)))) (C := RX3) (T := TX3) (N := 18) hx hb hg inX3 hown hK hP 0 rfl rfl 17 (by decide) (hg _ wl_X3_44) (fun _ h9 => h9) rfl dX3_lessen_5 ?_
  refine rdS (As := [.long (zl ((a : Int))), .long (zl ((b : Int)))]) (rest := []) (n := 2) hx hb hml hown hg (c_X3_common l a b ha hb9) (gwS wl_X3_87 wt_X3_common wi_X3 wc_X3_common) rfl rfl (by decide +kernel) ⟨Nat.le_of_ble_eq_true rfl, Nat.le_of_ble_eq_true rfl⟩ rfl hl.1 rfl (Nat.le_of_ble_eq_true rfl) dX3_lessen_8 ⟨Nat.zero_le _, Nat.zero_le _⟩ ?_
  refine lv_lstore_n (lv' := [(1, .long (zl (((Nat.gcd a b : Nat) : Int)))), (0, .ref m0)]) hx hb dX3_lessen_11 rfl hl (by decide) rfl (fun ls hl => ?_)
  refine lv_aload_n hx hb dX3_lessen_12 rfl (lv_at hl 1 rfl) ?_
  refine lv_aload_n hx hb dX3_lessen_13 rfl (lv_at hl 1 rfl) ?_
  refine va_get (D := (dC, dI)) (ci := 3) (v := .long (zl ((a : Int)))) (C := RX3) (T := TX3) (N := 18) hx hb hg inX3 hown hK hP 0 rfl rfl 16 (by decide) (hg _ wl_X3_84) (fun _ h9 => h9) rfl dX3_lessen_14 ?_
  refine lv_lload_n hx hb dX3_lessen_17 rfl (lv_at hl 0 rfl) ?_
  refine zz_ldiv hx hb (by omega) (by omega) dX3_lessen_18 ?_
  refine zz_topl (z := ((a / Nat.gcd a b : Nat) : Int)) (congrArg zl rfl) ?_
  refine va_put (D := (dC, dI)) (ci := 3) (v := .long (zl (((a / Nat.gcd a b : Nat) : Int)))) (ty := .long) (C := RX3) (T := TX3) (N := 18) hx hb hg inX3 tyX3 tyX3_ok nmX3 hown hK hP hD hS 0 rfl rfl 16 (by decide) (hg _ wl_X3_84) (fun _ h9 => h9) rfl (by decide +kernel) rfl rfl (Nat.le_of_ble_eq_true rfl) dX3_lessen_19 (fun H locs hP hD hS => ?_)
  have hP : va_P (dC, dI) vwCl [(m0, .inr (3, [.int (zi (tw)), .int (zi ((mp : Int))), .ref a1, .ref a2, .ref a3, .ref a4, .ref a5, .ref a6, .int (zi ((mb : Int))), .ref a7, .ref a8, .int (zi ((ml : Int))), .ref a9, .ref a10, .int (zi ((mz : Int))), .ref a11, .long (zl (((a / Nat.gcd a b : Nat) : Int))), .long (zl ((b : Int)))]))] H := hP
  have hD : va_D A [(m0, .inr (3, [.int (zi (tw)), .int (zi ((mp : Int))), .ref a1, .ref a2, .ref a3, .ref a4, .ref a5, .ref a6, .int (zi ((mb : Int))), .ref a7, .ref a8, .int (zi ((ml : Int))), .ref a9, .ref a10, .int (zi ((mz : Int))), .ref a11, .long (zl (((a / Nat.gcd a b : Nat) : Int))), .long (zl ((b : Int)))]))] := hD
  refine lv_aload_n hx hb dX3_lessen_22 rfl (lv_at hl 1 rfl) ?_
  refine lv_aload_n hx hb dX3_lessen_23 rfl (lv_at hl 1 rfl) ?_
  refine va_get (D := (dC, dI)) (ci := 3) (v := .long (zl ((b : Int)))) (C := RX3) (T := TX3) (N := 18) hx hb hg inX3 hown hK hP 0 rfl rfl 17 (by decide) (hg _ wl_X3_44) (fun _ h9 => h9) rfl dX3_lessen_24 ?_
  refine lv_lload_n hx hb dX3_lessen_27 rfl (lv_at hl 0 rfl) ?_
  refine zz_ldiv hx hb (by omega) (by omega) dX3_lessen_28 ?_
  refine zz_topl (z := ((b / Nat.gcd a b : Nat) : Int)) (congrArg zl rfl) ?_
  refine va_put (D := (dC, dI)) (ci := 3) (v := .long (zl (((b / Nat.gcd a b : Nat) : Int)))) (ty := .long) (C := RX3) (T := TX3) (N := 18) hx hb hg inX3 tyX3 tyX3_ok nmX3 hown hK hP hD hS 0 rfl rfl 17 (by decide) (hg _ wl_X3_44) (fun _ h9 => h9) rfl (by decide +kernel) rfl rfl (Nat.le_of_ble_eq_true rfl) dX3_lessen_29 (fun H locs hP hD hS => ?_)
  have hP : va_P (dC, dI) vwCl [(m0, .inr (3, [.int (zi (tw)), .int (zi ((mp : Int))), .ref a1, .ref a2, .ref a3, .ref a4, .ref a5, .ref a6, .int (zi ((mb : Int))), .ref a7, .ref a8, .int (zi ((ml : Int))), .ref a9, .ref a10, .int (zi ((mz : Int))), .ref a11, .long (zl (((a / Nat.gcd a b : Nat) : Int))), .long (zl (((b / Nat.gcd a b : Nat) : Int)))]))] H := hP
  have hD : va_D A [(m0, .inr (3, [.int (zi (tw)), .int (zi ((mp : Int))), .ref a1, .ref a2, .ref a3, .ref a4, .ref a5, .ref a6, .int (zi ((mb : Int))), .ref a7, .ref a8, .int (zi ((ml : Int))), .ref a9, .ref a10, .int (zi ((mz : Int))), .ref a11, .long (zl (((a / Nat.gcd a b : Nat) : Int))), .long (zl (((b / Nat.gcd a b : Nat) : Int)))]))] := hD
  have hP9 : va_P (dC, dI) vwCl [(m0, .inr (3, [.int (zi (tw)), .int (zi ((mp : Int))), .ref a1, .ref a2, .ref a3, .ref a4, .ref a5, .ref a6, .int (zi ((mb : Int))), .ref a7, .ref a8, .int (zi ((ml : Int))), .ref a9, .ref a10, .int (zi ((mz : Int))), .ref a11, .long (zl (((a / Nat.gcd a b : Nat) : Int))), .long (zl (((b / Nat.gcd a b : Nat) : Int)))]))] H := hP
  rw [hQQ]
  exact wr_v hx hb hr hlocks hP9 hS dX3_lessen_32

abbrev rm_X3_add : Room := { frames := 2, cells := 0, slots := 0, locals := 51 }
set_option maxHeartbeats 4000000 in
set_option maxRecDepth 100000 in
theorem c_X3_add (l : Launch) (dC : Nat → ClassId) (dI : Nat → Nat → Nat) (sz : Nat) (m0 a1 a2 a3 a4 a5 a6 a7 a8 a9 a10 a11 : Nat) (tw : Int) (x : Nat × Nat) (mp mb ml mz : Nat) (u q : Nat) (hq0 : 0 < q) (hq9 : q < 9223372036854775808) (hok : m_ok x u q) : Met l yX3_add (Cond.code yX3_add cX3_add 7 ((Option.none : Option Jvm.ClassFile.FieldType)) :: gw) rm_X3_add (PcW [.ref m0, .long (zl ((u : Int))), .long (zl ((q : Int)))] (dC, dI) vwCl [(m0, .inr (3, [.int (zi (tw)), .int (zi ((mp : Int))), .ref a1, .ref a2, .ref a3, .ref a4, .ref a5, .ref a6, .int (zi ((mb : Int))), .ref a7, .ref a8, .int (zi ((ml : Int))), .ref a9, .ref a10, .int (zi ((mz : Int))), .ref a11, .long (zl (((x.1 : Nat) : Int))), .long (zl (((x.2 : Nat) : Int)))]))] [] sz) (WrQ (none) (dC, dI) vwCl [(m0, .inr (3, [.int (zi (tw)), .int (zi ((mp : Int))), .ref a1, .ref a2, .ref a3, .ref a4, .ref a5, .ref a6, .int (zi ((mb : Int))), .ref a7, .ref a8, .int (zi ((ml : Int))), .ref a9, .ref a10, .int (zi ((mz : Int))), .ref a11, .long (zl ((((m_add x u q).1 : Nat) : Int))), .long (zl ((((m_add x u q).2 : Nat) : Int)))]))] (va_A [(m0, .inr (3, [.int (zi (tw)), .int (zi ((mp : Int))), .ref a1, .ref a2, .ref a3, .ref a4, .ref a5, .ref a6, .int (zi ((mb : Int))), .ref a7, .ref a8, .int (zi ((ml : Int))), .ref a9, .ref a10, .int (zi ((mz : Int))), .ref a11, .long (zl (((x.1 : Nat) : Int))), .long (zl (((x.2 : Nat) : Int)))]))] sz)) 0 0 (va_A [(m0, .inr (3, [.int (zi (tw)), .int (zi ((mp : Int))), .ref a1, .ref a2, .ref a3, .ref a4, .ref a5, .ref a6, .int (zi ((mb : Int))), .ref a7, .ref a8, .int (zi ((ml : Int))), .ref a9, .ref a10, .int (zi ((mz : Int))), .ref a11, .long (zl (((x.1 : Nat) : Int))), .long (zl (((x.2 : Nat) : Int)))]))] sz) := by
  refine Met.ofW (cc := cX3_add) (maxL := 7) (ret := ((Option.none : Option Jvm.ClassFile.FieldType))) (by decide) rfl ?_
  intro p e s m args below meth c s₁ B hml hv
  obtain ⟨hargs, hsz, hP, hK, hD0⟩ := hv
  have hx := B.exec
  have hb := B.bytes
  have hr := B.returns
  have hts := atoms_spec (ws := Cond.code yX3_add cX3_add 7 ((Option.none : Option Jvm.ClassFile.FieldType)) :: gw) B.pre
  have hg : ∀ w ∈ gw, w.before args s = true := fun w h => hts w (List.mem_cons_of_mem _ h)
  have hown : s.vm.findClass RX3 = some m.cls := findClass_of_methodNamed B.named
  have hlocks := B.notSynchronized
  subst hsz
  have hD := hD0.self (sz := s.heap.size)
  generalize hAe : va_A [(m0, .inr (3, [.int (zi (tw)), .int (zi ((mp : Int))), .ref a1, .ref a2, .ref a3, .ref a4, .ref a5, .ref a6, .int (zi ((mb : Int))), .ref a7, .ref a8, .int (zi ((ml : Int))), .ref a9, .ref a10, .int (zi ((mz : Int))), .ref a11, .long (zl (((x.1 : Nat) : Int))), .long (zl (((x.2 : Nat) : Int)))]))] s.heap.size = A at hD ⊢
  have hA : ∀ q : Nat, s.heap.size ≤ q → A q := fun q h => by rw [← hAe]; exact Or.inr h
  show W p l e rm_X3_add s m args below meth c s.heap [] 0 0 _ _
  have hl := lv_entry ([.ref m0, .long (zl ((u : Int))), .long (zl ((q : Int)))]) (n := 7) (Nat.le_of_ble_eq_true rfl)
  rw [show entryFrame m args 7 = entryFrame m ([.ref m0, .long (zl ((u : Int))), .long (zl ((q : Int)))] : List Value).toArray 7 by rw [hargs], lg_entry_eq]
  generalize (lg_sl ([.ref m0, .long (zl ((u : Int))), .long (zl ((q : Int)))]) ++ List.replicate (7 - (lg_sl ([.ref m0, .long (zl ((u : Int))), .long (zl ((q : Int)))])).length) Slot.unset).toArray = ls at hl ⊢
  have hl : lv_has ls 7 [(0, .ref m0), (1, .long (zl ((u : Int)))), (3, .long (zl ((q : Int))))] := hl
  obtain ⟨QQ, hQQ⟩ : ∃ Q, Q = MQ below (WrQ (none) (dC, dI) vwCl [(m0, .inr (3, [.int (zi (tw)), .int (zi ((mp : Int))), .ref a1, .ref a2, .ref a3, .ref a4, .ref a5, .ref a6, .int (zi ((mb : Int))), .ref a7, .ref a8, .int (zi ((ml : Int))), .ref a9, .ref a10, .int (zi ((mz : Int))), .ref a11, .long (zl ((((m_add x u q).1 : Nat) : Int))), .long (zl ((((m_add x u q).2 : Nat) : Int)))]))] A) args s 0 0 A := ⟨_, rfl⟩
  rw [← hQQ]
  obtain ⟨H, hHe⟩ : ∃ H : Heap, H = s.heap := ⟨_, rfl⟩
  obtain ⟨locs, hlc⟩ : ∃ x : List Loc, x = [] := ⟨_, rfl⟩
  have hS : va_S A s.heap H locs := by rw [hHe, hlc]; exact va_S.rf
  have hP : va_P (dC, dI) vwCl [(m0, .inr (3, [.int (zi (tw)), .int (zi ((mp : Int))), .ref a1, .ref a2, .ref a3, .ref a4, .ref a5, .ref a6, .int (zi ((mb : Int))), .ref a7, .ref a8, .int (zi ((ml : Int))), .ref a9, .ref a10, .int (zi ((mz : Int))), .ref a11, .long (zl (((x.1 : Nat) : Int))), .long (zl (((x.2 : Nat) : Int)))]))] H := by rw [hHe]; exact hP
  have hD : va_D A [(m0, .inr (3, [.int (zi (tw)), .int (zi ((mp : Int))), .ref a1, .ref a2, .ref a3, .ref a4, .ref a5, .ref a6, .int (zi ((mb : Int))), .ref a7, .ref a8, .int (zi ((ml : Int))), .ref a9, .ref a10, .int (zi ((mz : Int))), .ref a11, .long (zl (((x.1 : Nat) : Int))), .long (zl (((x.2 : Nat) : Int)))]))] := hD
  rw [← hHe, ← hlc]
  obtain ⟨hb0, hb9, hn9, hd9⟩ := hok
  have hgp : 0 < Nat.gcd x.2 q := Nat.gcd_pos_of_pos_right x.2 hq0
  have hgl : Nat.gcd x.2 q ≤ q := Nat.gcd_le_right x.2 hq0
  have hd0 : 0 < x.2 / Nat.gcd x.2 q * q := Nat.mul_pos (Nat.div_pos (Nat.gcd_le_left q hb0) hgp) hq0
  refine lv_aload_n hx hb dX3_add_0 rfl (lv_at hl 0 rfl) ?_
  refine va_get (D := (dC, dI)) (ci := 3) (v := .long (zl (((x.2 : Nat) : Int)))) (C := RX3) (T := TX3) (N := 18) hx hb hg inX3 hown hK hP 0 rfl rfl 17 (by decide) (hg _ wl_X3_44) (fun _ h9 => h9) rfl dX3_add_1 ?_
  refine lv_lload_n hx hb dX3_add_4 rfl (lv_at hl 2 rfl) ?_
  refine rdS (As := [.long (zl (((x.2 : Nat) : Int))), .long (zl ((q : Int)))]) (rest := []) (n := 2) hx hb hml hown hg (c_X3_common l (x.2) q hb9 hq9) (gwS wl_X3_87 wt_X3_common wi_X3 wc_X3_common) rfl rfl (by decide +kernel) ⟨Nat.le_of_ble_eq_true rfl, Nat.le_of_ble_eq_true rfl⟩ rfl hl.1 rfl (Nat.le_of_ble_eq_true rfl) dX3_add_5 ⟨Nat.zero_le _, Nat.zero_le _⟩ ?_
  refine lv_lstore (lv' := [(5, .long (zl (((Nat.gcd (x.2) q : Nat) : Int)))), (0, .ref m0), (1, .long (zl ((u : Int)))), (3, .long (zl ((q : Int))))]) hx hb dX3_add_8 hl (by decide) rfl (fun ls hl => ?_)
  refine lv_aload_n hx hb dX3_add_10 rfl (lv_at hl 1 rfl) ?_
  refine lv_aload_n hx hb dX3_add_11 rfl (lv_at hl 1 rfl) ?_
  refine va_get (D := (dC, dI)) (ci := 3) (v := .long (zl (((x.1 : Nat) : Int)))) (C := RX3) (T := TX3) (N := 18) hx hb hg inX3 hown hK hP 0 rfl rfl 16 (by decide) (hg _ wl_X3_84) (fun _ h9 => h9) rfl dX3_add_12 ?_
  refine lv_lload_n hx hb dX3_add_15 rfl (lv_at hl 3 rfl) ?_
  refine lv_lload hx hb dX3_add_16 (lv_at hl 0 rfl) ?_
  refine zz_ldiv hx hb (by omega) (by omega) dX3_add_18 ?_
  refine zz_topl (z := ((q / Nat.gcd x.2 q : Nat) : Int)) (congrArg zl rfl) ?_
  refine zz_lmul hx hb dX3_add_19 ?_
  refine lv_lload_n hx hb dX3_add_20 rfl (lv_at hl 2 rfl) ?_
  refine lv_aload_n hx hb dX3_add_21 rfl (lv_at hl 1 rfl) ?_
  refine va_get (D := (dC, dI)) (ci := 3) (v := .long (zl (((x.2 : Nat) : Int)))) (C := RX3) (T := TX3) (N := 18) hx hb hg inX3 hown hK hP 0 rfl rfl 17 (by decide) (hg _ wl_X3_44) (fun _ h9 => h9) rfl dX3_add_22 ?_
  refine lv_lload hx hb dX3_add_25 (lv_at hl 0 rfl) ?_
  refine zz_ldiv hx hb (by omega) (by omega) dX3_add_27 ?_
  refine zz_topl (z := ((x.2 / Nat.gcd x.2 q : Nat) : Int)) (congrArg zl rfl) ?_
  refine zz_lmul hx hb dX3_add_28 ?_
  refine zz_ladd hx hb dX3_add_29 ?_
  refine zz_topl (z := ((x.1 * (q / Nat.gcd x.2 q) + u * (x.2 / Nat.gcd x.2 q) : Nat) : Int)) (congrArg zl (by push_cast; rfl)) ?_
  refine va_put (D := (dC, dI)) (ci := 3) (v := .long (zl (((x.1 * (q / Nat.gcd x.2 q) + u * (x.2 / Nat.gcd x.2 q) : Nat) : Int)))) (ty := .long) (C := RX3) (T := TX3) (N := 18) hx hb hg inX3 tyX3 tyX3_ok nmX3 hown hK hP hD hS 0 rfl rfl 16 (by decide) (hg _ wl_X3_84) (fun _ h9 => h9) rfl (by decide +kernel) rfl rfl (Nat.le_of_ble_eq_true rfl) dX3_add_30 (fun H locs hP hD hS => ?_)
  have hP : va_P (dC, dI) vwCl [(m0, .inr (3, [.int (zi (tw)), .int (zi ((mp : Int))), .ref a1, .ref a2, .ref a3, .ref a4, .ref a5, .ref a6, .int (zi ((mb : Int))), .ref a7, .ref a8, .int (zi ((ml : Int))), .ref a9, .ref a10, .int (zi ((mz : Int))), .ref a11, .long (zl (((x.1 * (q / Nat.gcd x.2 q) + u * (x.2 / Nat.gcd x.2 q) : Nat) : Int))), .long (zl (((x.2 : Nat) : Int)))]))] H := hP
  have hD : va_D A [(m0, .inr (3, [.int (zi (tw)), .int (zi ((mp : Int))), .ref a1, .ref a2, .ref a3, .ref a4, .ref a5, .ref a6, .int (zi ((mb : Int))), .ref a7, .ref a8, .int (zi ((ml : Int))), .ref a9, .ref a10, .int (zi ((mz : Int))), .ref a11, .long (zl (((x.1 * (q / Nat.gcd x.2 q) + u * (x.2 / Nat.gcd x.2 q) : Nat) : Int))), .long (zl (((x.2 : Nat) : Int)))]))] := hD
  refine lv_aload_n hx hb dX3_add_33 rfl (lv_at hl 1 rfl) ?_
  refine lv_aload_n hx hb dX3_add_34 rfl (lv_at hl 1 rfl) ?_
  refine va_get (D := (dC, dI)) (ci := 3) (v := .long (zl (((x.2 : Nat) : Int)))) (C := RX3) (T := TX3) (N := 18) hx hb hg inX3 hown hK hP 0 rfl rfl 17 (by decide) (hg _ wl_X3_44) (fun _ h9 => h9) rfl dX3_add_35 ?_
  refine lv_lload hx hb dX3_add_38 (lv_at hl 0 rfl) ?_
  refine zz_ldiv hx hb (by omega) (by omega) dX3_add_40 ?_
  refine zz_topl (z := ((x.2 / Nat.gcd x.2 q : Nat) : Int)) (congrArg zl rfl) ?_
  refine lv_lload_n hx hb dX3_add_41 rfl (lv_at hl 3 rfl) ?_
  refine zz_lmul hx hb dX3_add_42 ?_
  refine zz_topl (z := ((x.2 / Nat.gcd x.2 q * q : Nat) : Int)) (congrArg zl (by push_cast; rfl)) ?_
  refine va_put (D := (dC, dI)) (ci := 3) (v := .long (zl (((x.2 / Nat.gcd x.2 q * q : Nat) : Int)))) (ty := .long) (C := RX3) (T := TX3) (N := 18) hx hb hg inX3 tyX3 tyX3_ok nmX3 hown hK hP hD hS 0 rfl rfl 17 (by decide) (hg _ wl_X3_44) (fun _ h9 => h9) rfl (by decide +kernel) rfl rfl (Nat.le_of_ble_eq_true rfl) dX3_add_43 (fun H locs hP hD hS => ?_)
  have hP : va_P (dC, dI) vwCl [(m0, .inr (3, [.int (zi (tw)), .int (zi ((mp : Int))), .ref a1, .ref a2, .ref a3, .ref a4, .ref a5, .ref a6, .int (zi ((mb : Int))), .ref a7, .ref a8, .int (zi ((ml : Int))), .ref a9, .ref a10, .int (zi ((mz : Int))), .ref a11, .long (zl (((x.1 * (q / Nat.gcd x.2 q) + u * (x.2 / Nat.gcd x.2 q) : Nat) : Int))), .long (zl (((x.2 / Nat.gcd x.2 q * q : Nat) : Int)))]))] H := hP
  have hD : va_D A [(m0, .inr (3, [.int (zi (tw)), .int (zi ((mp : Int))), .ref a1, .ref a2, .ref a3, .ref a4, .ref a5, .ref a6, .int (zi ((mb : Int))), .ref a7, .ref a8, .int (zi ((ml : Int))), .ref a9, .ref a10, .int (zi ((mz : Int))), .ref a11, .long (zl (((x.1 * (q / Nat.gcd x.2 q) + u * (x.2 / Nat.gcd x.2 q) : Nat) : Int))), .long (zl (((x.2 / Nat.gcd x.2 q * q : Nat) : Int)))]))] := hD
  refine lv_aload_n hx hb dX3_add_46 rfl (lv_at hl 1 rfl) ?_
  refine wrV (As := []) (rest := []) (n := 0) (ws' := [(m0, .inr (3, [.int (zi (tw)), .int (zi ((mp : Int))), .ref a1, .ref a2, .ref a3, .ref a4, .ref a5, .ref a6, .int (zi ((mb : Int))), .ref a7, .ref a8, .int (zi ((ml : Int))), .ref a9, .ref a10, .int (zi ((mz : Int))), .ref a11, .long (zl ((((x.1 * (q / Nat.gcd x.2 q) + u * (x.2 / Nat.gcd x.2 q)) / Nat.gcd (x.1 * (q / Nat.gcd x.2 q) + u * (x.2 / Nat.gcd x.2 q)) (x.2 / Nat.gcd x.2 q * q) : Nat) : Int))), .long (zl ((((x.2 / Nat.gcd x.2 q * q) / Nat.gcd (x.1 * (q / Nat.gcd x.2 q) + u * (x.2 / Nat.gcd x.2 q)) (x.2 / Nat.gcd x.2 q * q) : Nat) : Int)))]))]) hx hb hml hown hg (c_X3_lessen l dC dI H.size m0 a1 a2 a3 a4 a5 a6 a7 a8 a9 a10 a11 (tw) (x.1 * (q / Nat.gcd x.2 q) + u * (x.2 / Nat.gcd x.2 q)) (x.2 / Nat.gcd x.2 q * q) mp mb ml mz hd0 hn9 hd9) (gwV wl_X3_91 wm_X3_lessen we_X3_lessen wi_X3 wc_X3_lessen) rfl rfl (by decide +kernel) ⟨Nat.le_of_ble_eq_true rfl, Nat.le_of_ble_eq_true rfl⟩ (hK.sub [] rfl) hP hD hS hA [0] rfl (by decide) [(true, 0)] rfl (by decide) rfl 0 rfl rfl rfl rfl hl.1 rfl (Nat.le_of_ble_eq_true rfl) dX3_add_47 ⟨Nat.zero_le _, Nat.zero_le _⟩ (fun H locs hP hD hS => ?_)
  have hP9 : va_P (dC, dI) vwCl [(m0, .inr (3, [.int (zi (tw)), .int (zi ((mp : Int))), .ref a1, .ref a2, .ref a3, .ref a4, .ref a5, .ref a6, .int (zi ((mb : Int))), .ref a7, .ref a8, .int (zi ((ml : Int))), .ref a9, .ref a10, .int (zi ((mz : Int))), .ref a11, .long (zl ((((m_add x u q).1 : Nat) : Int))), .long (zl ((((m_add x u q).2 : Nat) : Int)))]))] H := hP
  rw [hQQ]
  exact wr_v hx hb hr hlocks hP9 hS dX3_add_50
