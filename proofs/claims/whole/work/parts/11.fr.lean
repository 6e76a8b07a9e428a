theorem ma_gcd (a b : Nat) : Nat.gcd b (a % b) = Nat.gcd a b := by
  rw [Nat.gcd_comm b (a % b), ← Nat.gcd_rec, Nat.gcd_comm]
theorem ma_half {a b : Nat} (hb : 0 < b) (h : b ≤ a) : 2 * (a % b) ≤ a := by
  have h1 := Nat.div_add_mod a b
  have h2 := Nat.mod_lt a hb
  have h3 : 1 ≤ a / b := (Nat.one_le_div_iff hb).mpr h
  have h4 : b * 1 ≤ b * (a / b) := Nat.mul_le_mul_left b h3
  omega
theorem ma_prod {a b t : Nat} (hb : 0 < b) (h : b ≤ a) (hp : a * b < 2 ^ (t + 1)) : b * (a % b) < 2 ^ t := by
  have h1 : b * (2 * (a % b)) ≤ b * a := Nat.mul_le_mul_left b (ma_half hb h)
  have h2 : b * (2 * (a % b)) = 2 * (b * (a % b)) := by rw [Nat.mul_left_comm]
  rw [Nat.mul_comm b a] at h1
  rw [Nat.pow_succ] at hp
  omega
theorem ma_first {a b : Nat} (hb : 0 < b) (h : b < 562949953421312) : b * (a % b) < 2 ^ 98 := by
  have h1 : b * (a % b) ≤ b * b := Nat.mul_le_mul_left b (Nat.le_of_lt (Nat.mod_lt a hb))
  have h2 : b * b < 562949953421312 * 562949953421312 := Nat.mul_lt_mul'' h h
  have h3 : (2 : Nat) ^ 98 = 562949953421312 * 562949953421312 := by decide
  omega
/-- what Euclid's loop keeps -/
def ma_E (x y t : Nat) : Prop := t = 0 ∨ (t ≤ 99 ∧ y < x ∧ x * y < 2 ^ (99 - t))
theorem ma_E_step {x y t : Nat} (hy0 : 0 < y) (hy : y < 562949953421312) (h : ma_E x y t) : ma_E y (x % y) (t + 1) := by
  have hm := Nat.mod_lt x hy0
  rcases h with rfl | ⟨h1, h2, h3⟩
  · exact Or.inr ⟨by omega, hm, ma_first hy0 hy⟩
  · have h4 : t ≠ 99 := by
      intro q
      subst q
      have h5 : x * y < 1 := h3
      have h6 : 0 < x * y := Nat.mul_pos (by omega) hy0
      omega
    refine Or.inr ⟨by omega, hm, ?_⟩
    have h7 : 99 - t = (99 - (t + 1)) + 1 := by omega
    rw [h7] at h3
    exact ma_prod hy0 (Nat.le_of_lt h2) h3
theorem ma_E_le {x y t : Nat} (h : ma_E x y t) : t ≤ 99 := by
  rcases h with rfl | ⟨h1, -, -⟩
  · omega
  · exact h1
theorem ma_tmod (x y : Nat) : Int.tmod (x : Int) (y : Int) = ((x % y : Nat) : Int) := by
  rw [Int.tmod_eq_emod_of_nonneg (by omega)]
  first | rfl | exact (Int.ofNat_emod x y).symm | exact (Int.natCast_emod x y).symm
abbrev rm_X0_commonDivisor : Room := { frames := 0, cells := 0, slots := 0, locals := 0 }
set_option maxHeartbeats 4000000 in
set_option maxRecDepth 100000 in
theorem c_X0_commonDivisor (l : Launch) (a b : Nat) (ha : a < 9223372036854775808) (hb9 : b < 562949953421312) : Met l yX0_commonDivisor (Cond.code yX0_commonDivisor cX0_commonDivisor 11 ((Option.some Jvm.ClassFile.FieldType.long)) :: gw) rm_X0_commonDivisor (PcS [.long (zl ((a : Int))), .long (zl ((b : Int)))]) (RdQ (some (.long (zl ((Nat.gcd a b : Nat) : Int))))) 0 0 (fun _ => False) := by
  refine Met.ofW (cc := cX0_commonDivisor) (maxL := 11) (ret := ((Option.some Jvm.ClassFile.FieldType.long))) (by decide) rfl ?_
  intro p e s m args below meth c s₁ B hml hv
  obtain ⟨hargs, -⟩ := hv
  have hx := B.exec
  have hb := B.bytes
  have hr := B.returns
  have hts := atoms_spec (ws := Cond.code yX0_commonDivisor cX0_commonDivisor 11 ((Option.some Jvm.ClassFile.FieldType.long)) :: gw) B.pre
  have hg : ∀ w ∈ gw, w.before args s = true := fun w h => hts w (List.mem_cons_of_mem _ h)
  have hown : s.vm.findClass RX0 = some m.cls := findClass_of_methodNamed B.named
  have hlocks := B.notSynchronized
  show W p l e rm_X0_commonDivisor s m args below meth c s.heap [] 0 0 _ _
  have hl := lv_entry ([.long (zl ((a : Int))), .long (zl ((b : Int)))]) (n := 11) (Nat.le_of_ble_eq_true rfl)
  rw [show entryFrame m args 11 = entryFrame m ([.long (zl ((a : Int))), .long (zl ((b : Int)))] : List Value).toArray 11 by rw [hargs], lg_entry_eq]
  generalize (lg_sl ([.long (zl ((a : Int))), .long (zl ((b : Int)))]) ++ List.replicate (11 - (lg_sl ([.long (zl ((a : Int))), .long (zl ((b : Int)))])).length) Slot.unset).toArray = ls at hl ⊢
  have hl : lv_has ls 11 [(0, .long (zl ((a : Int)))), (2, .long (zl ((b : Int))))] := hl
  obtain ⟨QQ, hQQ⟩ : ∃ Q, Q = MQ below (RdQ (some (.long (zl ((Nat.gcd a b : Nat) : Int))))) args s 0 0 (fun _ => False) := ⟨_, rfl⟩
  rw [← hQQ]
  refine lv_lload_n hx hb dX0_commonDivisor_0 rfl (lv_at hl 0 rfl) ?_
  refine lv_lstore (lv' := [(4, .long (zl ((a : Int)))), (0, .long (zl ((a : Int)))), (2, .long (zl ((b : Int))))]) hx hb dX0_commonDivisor_1 hl (by decide) rfl (fun ls hl => ?_)
  refine lv_lload_n hx hb dX0_commonDivisor_3 rfl (lv_at hl 2 rfl) ?_
  refine lv_lstore (lv' := [(6, .long (zl ((b : Int)))), (4, .long (zl ((a : Int)))), (0, .long (zl ((a : Int)))), (2, .long (zl ((b : Int))))]) hx hb dX0_commonDivisor_4 hl (by decide) rfl (fun ls hl => ?_)
  refine lv_iconst (v := zi (0)) hx hb dX0_commonDivisor_6 rfl ?_
  refine lv_istore (lv' := [(8, .int (zi (0))), (6, .long (zl ((b : Int)))), (4, .long (zl ((a : Int)))), (0, .long (zl ((a : Int)))), (2, .long (zl ((b : Int))))]) hx hb dX0_commonDivisor_7 hl (by decide) rfl (fun ls hl => ?_)
  have key_9 : ∀ (n_ : Nat) (x y t : Nat), Nat.gcd x y = Nat.gcd a b → x < 9223372036854775808 → y < 562949953421312 → ma_E x y t → 100 - t < n_ → ∀ (ls : Array Slot), lv_has ls 11 [(8, .int (zi ((t : Int)))), (6, .long (zl ((y : Int)))), (4, .long (zl ((x : Int)))), (2, .long (zl ((b : Int)))), (0, .long (zl ((a : Int))))] → W p l e rm_X0_commonDivisor s m args below meth c s.heap [] 0 0 QQ (F0 m 9 ls []) := by
    intro n_
    induction n_ with
    | zero => intro x y t hgc hxb hyb hE hm_; exact absurd hm_ (Nat.not_lt_zero _)
    | succ n_ ih =>
      intro x y t hgc hxb hyb hE hm_ ls hl
      refine lv_iload hx hb dX0_commonDivisor_9 (lv_at hl 0 rfl) ?_
      refine lv_bipush (v := zi (100)) hx hb dX0_commonDivisor_11 (by decide) ?_
      refine zz_icmp_ge (tgt := 44) hx hb (by have := ma_E_le hE; omega) (by omega) dX0_commonDivisor_13 (by decide) (fun c_13 => ?_) (fun c_13 => ?_)
      · exact absurd (ma_E_le hE) (by omega)
      · refine lv_lload hx hb dX0_commonDivisor_16 (lv_at hl 1 rfl) ?_
        refine lv_lconst (v := zl (0)) hx hb dX0_commonDivisor_18 (by decide) ?_
        refine zz_lcmp_eq (tgt := 44) hx hb (by omega) (by omega) dX0_commonDivisor_19 dX0_commonDivisor_20 (by decide) (fun c_19 => ?_) (fun c_19 => ?_)
        · have hy0 : y = 0 := by omega
          subst hy0
          refine lv_lload hx hb dX0_commonDivisor_44 (lv_at hl 2 rfl) ?_
          rw [hQQ]
          exact rd_l hx hb hr hlocks (by rw [← hgc, Nat.gcd_zero_right]) dX0_commonDivisor_46
        · refine lv_lload hx hb dX0_commonDivisor_23 (lv_at hl 2 rfl) ?_
          refine lv_lload hx hb dX0_commonDivisor_25 (lv_at hl 1 rfl) ?_
          refine zz_lrem hx hb (by omega) (by omega) dX0_commonDivisor_27 ?_
          refine zz_topl (z := ((x % y : Nat) : Int)) (congrArg zl (ma_tmod x y)) ?_
          refine lv_lstore (lv' := [(9, .long (zl (((x % y : Nat) : Int)))), (8, .int (zi ((t : Int)))), (6, .long (zl ((y : Int)))), (4, .long (zl ((x : Int)))), (2, .long (zl ((b : Int)))), (0, .long (zl ((a : Int))))]) hx hb dX0_commonDivisor_28 hl (by decide) rfl (fun ls hl => ?_)
          refine lv_lload hx hb dX0_commonDivisor_30 (lv_at hl 2 rfl) ?_
          refine lv_lstore (lv' := [(4, .long (zl ((y : Int)))), (9, .long (zl (((x % y : Nat) : Int)))), (8, .int (zi ((t : Int)))), (6, .long (zl ((y : Int)))), (2, .long (zl ((b : Int)))), (0, .long (zl ((a : Int))))]) hx hb dX0_commonDivisor_32 hl (by decide) rfl (fun ls hl => ?_)
          refine lv_lload hx hb dX0_commonDivisor_34 (lv_at hl 1 rfl) ?_
          refine lv_lstore (lv' := [(6, .long (zl (((x % y : Nat) : Int)))), (4, .long (zl ((y : Int)))), (9, .long (zl (((x % y : Nat) : Int)))), (8, .int (zi ((t : Int)))), (2, .long (zl ((b : Int)))), (0, .long (zl ((a : Int))))]) hx hb dX0_commonDivisor_36 hl (by decide) rfl (fun ls hl => ?_)
          refine lv_iinc (v := zi (((t : Int)) + (1))) (lv' := [(8, .int (zi (((t : Int)) + (1)))), (6, .long (zl (((x % y : Nat) : Int)))), (4, .long (zl ((y : Int)))), (9, .long (zl (((x % y : Nat) : Int)))), (2, .long (zl ((b : Int)))), (0, .long (zl ((a : Int))))]) hx hb dX0_commonDivisor_38 hl (k := 3) rfl (zi_add _ _) (by decide) rfl (fun ls hl => ?_)
          refine lv_goto (tgt := 9) hx hb dX0_commonDivisor_41 (by decide) ?_
          exact ih y (x % y) (t + 1) ((ma_gcd x y).trans hgc) (by omega) (by have := Nat.mod_lt x (show 0 < y by omega); omega) (ma_E_step (by omega) hyb hE) (by have := ma_E_le (ma_E_step (by omega) hyb hE); omega) ls (lv_sub hl [0, 1, 2, 4, 5] rfl)
  exact key_9 _ a b 0 rfl ha hb9 (Or.inl rfl) (Nat.lt_succ_self _) ls (lv_sub hl [0, 1, 2, 4, 3] rfl)

theorem zn_bd {n : Nat} (h : n < 9223372036854775808) : -9223372036854775808 ≤ (n : Int) ∧ (n : Int) < 9223372036854775808 := by omega
theorem ma_td (x y f : Nat) (hy : 0 < y) : x / y * f + x % y * f / y = x * f / y := by
  have h1 := Nat.div_add_mod x y
  have h2 : x * f = y * (x / y * f) + x % y * f := by
    calc x * f = (y * (x / y) + x % y) * f := by rw [h1]
      _ = y * (x / y) * f + x % y * f := Nat.add_mul _ _ _
      _ = y * (x / y * f) + x % y * f := by rw [Nat.mul_assoc]
  rw [h2, Nat.mul_add_div hy]
theorem ma_tu (x y f : Nat) (hy : 0 < y) : x / y * f + (x % y * f + y - 1) / y = (x * f + y - 1) / y := by
  have h1 := Nat.div_add_mod x y
  have h2 : x * f = y * (x / y * f) + x % y * f := by
    calc x * f = (y * (x / y) + x % y) * f := by rw [h1]
      _ = y * (x / y) * f + x % y * f := Nat.add_mul _ _ _
      _ = y * (x / y * f) + x % y * f := by rw [Nat.mul_assoc]
  have h3 : x * f + y - 1 = y * (x / y * f) + (x % y * f + y - 1) := by omega
  rw [h3, Nat.mul_add_div hy]
abbrev rm_X0_clearToZero : Room := { frames := 0, cells := 0, slots := 0, locals := 0 }
set_option maxHeartbeats 4000000 in
set_option maxRecDepth 100000 in
theorem c_X0_clearToZero (l : Launch) (dC : Nat → ClassId) (dI : Nat → Nat → Nat) (sz : Nat) (h0 : Nat) (a b : Int)  : Met l yX0_clearToZero (Cond.code yX0_clearToZero cX0_clearToZero 1 ((Option.none : Option Jvm.ClassFile.FieldType)) :: gw) rm_X0_clearToZero (PcW [.ref h0] (dC, dI) vwCl [(h0, .inr (0, [.long (zl (a)), .long (zl (b))]))] [] sz) (WrQ (none) (dC, dI) vwCl [(h0, .inr (0, [.long (zl (0)), .long (zl (1))]))] (va_A [(h0, .inr (0, [.long (zl (a)), .long (zl (b))]))] sz)) 0 0 (va_A [(h0, .inr (0, [.long (zl (a)), .long (zl (b))]))] sz) := by
  refine Met.ofW (cc := cX0_clearToZero) (maxL := 1) (ret := ((Option.none : Option Jvm.ClassFile.FieldType))) (by decide) rfl ?_
  intro p e s m args below meth c s₁ B hml hv
  obtain ⟨hargs, hsz, hP, hK, hD0⟩ := hv
  have hx := B.exec
  have hb := B.bytes
  have hr := B.returns
  have hts := atoms_spec (ws := Cond.code yX0_clearToZero cX0_clearToZero 1 ((Option.none : Option Jvm.ClassFile.FieldType)) :: gw) B.pre
  have hg : ∀ w ∈ gw, w.before args s = true := fun w h => hts w (List.mem_cons_of_mem _ h)
  have hown : s.vm.findClass RX0 = some m.cls := findClass_of_methodNamed B.named
  have hlocks := B.notSynchronized
  subst hsz
  have hD := hD0.self (sz := s.heap.size)
  generalize hAe : va_A [(h0, .inr (0, [.long (zl (a)), .long (zl (b))]))] s.heap.size = A at hD ⊢
  have hA : ∀ q : Nat, s.heap.size ≤ q → A q := fun q h => by rw [← hAe]; exact Or.inr h
  show W p l e rm_X0_clearToZero s m args below meth c s.heap [] 0 0 _ _
  have hl := lv_entry ([.ref h0]) (n := 1) (Nat.le_of_ble_eq_true rfl)
  rw [show entryFrame m args 1 = entryFrame m ([.ref h0] : List Value).toArray 1 by rw [hargs], lg_entry_eq]
  generalize (lg_sl ([.ref h0]) ++ List.replicate (1 - (lg_sl ([.ref h0])).length) Slot.unset).toArray = ls at hl ⊢
  have hl : lv_has ls 1 [(0, .ref h0)] := hl
  obtain ⟨QQ, hQQ⟩ : ∃ Q, Q = MQ below (WrQ (none) (dC, dI) vwCl [(h0, .inr (0, [.long (zl (0)), .long (zl (1))]))] A) args s 0 0 A := ⟨_, rfl⟩
  rw [← hQQ]
  obtain ⟨H, hH⟩ : ∃ H : Heap, H = s.heap := ⟨_, rfl⟩
  obtain ⟨locs, hlc⟩ : ∃ x : List Loc, x = [] := ⟨_, rfl⟩
  have hS : va_S A s.heap H locs := by rw [hH, hlc]; exact va_S.rf
  have hP : va_P (dC, dI) vwCl [(h0, .inr (0, [.long (zl (a)), .long (zl (b))]))] H := by rw [hH]; exact hP
  have hD : va_D A [(h0, .inr (0, [.long (zl (a)), .long (zl (b))]))] := hD
  rw [← hH, ← hlc]
  refine lv_aload_n hx hb dX0_clearToZero_0 rfl (lv_at hl 0 rfl) ?_
  refine lv_lconst (v := zl (0)) hx hb dX0_clearToZero_1 (by decide) ?_
  refine va_put (D := (dC, dI)) (ci := 0) (v := .long (zl (0))) (ty := .long) (C := RX0) (T := TX0) (N := 2) hx hb hg inX0 tyX0 tyX0_ok nmX0 hown hK hP hD hS 0 rfl rfl 0 (by decide) (hg _ wl_X0_15) (fun _ h9 => h9) rfl (by decide +kernel) rfl rfl (Nat.le_of_ble_eq_true rfl) dX0_clearToZero_2 (fun H locs hP hD hS => ?_)
  have hP : va_P (dC, dI) vwCl [(h0, .inr (0, [.long (zl (0)), .long (zl (b))]))] H := hP
  have hD : va_D A [(h0, .inr (0, [.long (zl (0)), .long (zl (b))]))] := hD
  refine lv_aload_n hx hb dX0_clearToZero_5 rfl (lv_at hl 0 rfl) ?_
  refine lv_lconst (v := zl (1)) hx hb dX0_clearToZero_6 (by decide) ?_
  refine va_put (D := (dC, dI)) (ci := 0) (v := .long (zl (1))) (ty := .long) (C := RX0) (T := TX0) (N := 2) hx hb hg inX0 tyX0 tyX0_ok nmX0 hown hK hP hD hS 0 rfl rfl 1 (by decide) (hg _ wl_X0_9) (fun _ h9 => h9) rfl (by decide +kernel) rfl rfl (Nat.le_of_ble_eq_true rfl) dX0_clearToZero_7 (fun H locs hP hD hS => ?_)
  have hP : va_P (dC, dI) vwCl [(h0, .inr (0, [.long (zl (0)), .long (zl (1))]))] H := hP
  have hD : va_D A [(h0, .inr (0, [.long (zl (0)), .long (zl (1))]))] := hD
  have hP9 : va_P (dC, dI) vwCl [(h0, .inr (0, [.long (zl (0)), .long (zl (1))]))] H := hP
  rw [hQQ]
  exact wr_v hx hb hr hlocks hP9 hS dX0_clearToZero_10

abbrev rm_X0_lessen : Room := { frames := 1, cells := 0, slots := 0, locals := 30 }
set_option maxHeartbeats 4000000 in
set_option maxRecDepth 100000 in
theorem c_X0_lessen (l : Launch) (dC : Nat → ClassId) (dI : Nat → Nat → Nat) (sz : Nat) (h0 : Nat) (a b : Nat) (hb0 : 0 < b) (ha : a < 9223372036854775808) (hb9 : b < 562949953421312) : Met l yX0_lessen (Cond.code yX0_lessen cX0_lessen 3 ((Option.none : Option Jvm.ClassFile.FieldType)) :: gw) rm_X0_lessen (PcW [.ref h0] (dC, dI) vwCl [(h0, .inr (0, [.long (zl ((a : Int))), .long (zl ((b : Int)))]))] [] sz) (WrQ (none) (dC, dI) vwCl [(h0, .inr (0, [.long (zl (((a / Nat.gcd a b : Nat) : Int))), .long (zl (((b / Nat.gcd a b : Nat) : Int)))]))] (va_A [(h0, .inr (0, [.long (zl ((a : Int))), .long (zl ((b : Int)))]))] sz)) 0 0 (va_A [(h0, .inr (0, [.long (zl ((a : Int))), .long (zl ((b : Int)))]))] sz) := by
  refine Met.ofW (cc := cX0_lessen) (maxL := 3) (ret := ((Option.none : Option Jvm.ClassFile.FieldType))) (by decide) rfl ?_
  intro p e s m args below meth c s₁ B hml hv
  obtain ⟨hargs, hsz, hP, hK, hD0⟩ := hv
  have hx := B.exec
  have hb := B.bytes
  have hr := B.returns
  have hts := atoms_spec (ws := Cond.code yX0_lessen cX0_lessen 3 ((Option.none : Option Jvm.ClassFile.FieldType)) :: gw) B.pre
  have hg : ∀ w ∈ gw, w.before args s = true := fun w h => hts w (List.mem_cons_of_mem _ h)
  have hown : s.vm.findClass RX0 = some m.cls := findClass_of_methodNamed B.named
  have hlocks := B.notSynchronized
  subst hsz
  have hD := hD0.self (sz := s.heap.size)
  generalize hAe : va_A [(h0, .inr (0, [.long (zl ((a : Int))), .long (zl ((b : Int)))]))] s.heap.size = A at hD ⊢
  have hA : ∀ q : Nat, s.heap.size ≤ q → A q := fun q h => by rw [← hAe]; exact Or.inr h
  show W p l e rm_X0_lessen s m args below meth c s.heap [] 0 0 _ _
  have hl := lv_entry ([.ref h0]) (n := 3) (Nat.le_of_ble_eq_true rfl)
  rw [show entryFrame m args 3 = entryFrame m ([.ref h0] : List Value).toArray 3 by rw [hargs], lg_entry_eq]
  generalize (lg_sl ([.ref h0]) ++ List.replicate (3 - (lg_sl ([.ref h0])).length) Slot.unset).toArray = ls at hl ⊢
  have hl : lv_has ls 3 [(0, .ref h0)] := hl
  obtain ⟨QQ, hQQ⟩ : ∃ Q, Q = MQ below (WrQ (none) (dC, dI) vwCl [(h0, .inr (0, [.long (zl (((a / Nat.gcd a b : Nat) : Int))), .long (zl (((b / Nat.gcd a b : Nat) : Int)))]))] A) args s 0 0 A := ⟨_, rfl⟩
  rw [← hQQ]
  obtain ⟨H, hH⟩ : ∃ H : Heap, H = s.heap := ⟨_, rfl⟩
  obtain ⟨locs, hlc⟩ : ∃ x : List Loc, x = [] := ⟨_, rfl⟩
  have hS : va_S A s.heap H locs := by rw [hH, hlc]; exact va_S.rf
  have hP : va_P (dC, dI) vwCl [(h0, .inr (0, [.long (zl ((a : Int))), .long (zl ((b : Int)))]))] H := by rw [hH]; exact hP
  have hD : va_D A [(h0, .inr (0, [.long (zl ((a : Int))), .long (zl ((b : Int)))]))] := hD
  rw [← hH, ← hlc]
  have hgp : 0 < Nat.gcd a b := Nat.gcd_pos_of_pos_right a hb0
  have hgl : Nat.gcd a b ≤ b := Nat.gcd_le_right a hb0
  refine lv_aload_n hx hb dX0_lessen_0 rfl (lv_at hl 0 rfl) ?_
  refine va_get (D := (dC, dI)) (ci := 0) (v := .long (zl ((a : Int)))) (C := RX0) (T := TX0) (N := 2) hx hb hg inX0 hown hK hP 0 rfl rfl 0 (by decide) (hg _ wl_X0_15) (fun _ h9 => h9) rfl dX0_lessen_1 ?_
  refine lv_aload_n hx hb dX0_lessen_4 rfl (lv_at hl 0 rfl) ?_
  refine va_get (D := (dC, dI)) (ci := 0) (v := .long (zl ((b : Int)))) (C := RX0) (T := TX0) (N := 2) hx hb hg inX0 hown hK hP 0 rfl rfl 1 (by decide) (hg _ wl_X0_9) (fun _ h9 => h9) rfl dX0_lessen_5 ?_
  refine rdS (As := [.long (zl ((a : Int))), .long (zl ((b : Int)))]) (rest := []) (n := 2) hx hb hml hown hg (c_X0_commonDivisor l (a) (b) ha hb9) (gwS wl_X0_18 wt_X0_commonDivisor wi_X0 wc_X0_commonDivisor) rfl rfl (by decide +kernel) ⟨Nat.le_of_ble_eq_true rfl, Nat.le_of_ble_eq_true rfl⟩ rfl hl.1 rfl (Nat.le_of_ble_eq_true rfl) dX0_lessen_8 ⟨Nat.zero_le _, Nat.zero_le _⟩ ?_
  refine lv_lstore_n (lv' := [(1, .long (zl (((Nat.gcd (a) (b) : Nat) : Int)))), (0, .ref h0)]) hx hb dX0_lessen_11 rfl hl (by decide) rfl (fun ls hl => ?_)
  refine lv_lload_n hx hb dX0_lessen_12 rfl (lv_at hl 0 rfl) ?_
  refine lv_lconst (v := zl (1)) hx hb dX0_lessen_13 (by decide) ?_
  refine zz_lcmp_le (tgt := 38) hx hb (by omega) (by omega) dX0_lessen_14 dX0_lessen_15 (by decide) (fun c_14 => ?_) (fun c_14 => ?_)
  · have hP9 : va_P (dC, dI) vwCl [(h0, .inr (0, [.long (zl (((a / Nat.gcd a b : Nat) : Int))), .long (zl (((b / Nat.gcd a b : Nat) : Int)))]))] H := by
      have hg1 : Nat.gcd a b = 1 := by omega
      rw [hg1, Nat.div_one, Nat.div_one]; exact hP
    rw [hQQ]
    exact wr_v hx hb hr hlocks hP9 hS dX0_lessen_38
  · refine lv_aload_n hx hb dX0_lessen_18 rfl (lv_at hl 1 rfl) ?_
    refine lv_aload_n hx hb dX0_lessen_19 rfl (lv_at hl 1 rfl) ?_
    refine va_get (D := (dC, dI)) (ci := 0) (v := .long (zl ((a : Int)))) (C := RX0) (T := TX0) (N := 2) hx hb hg inX0 hown hK hP 0 rfl rfl 0 (by decide) (hg _ wl_X0_15) (fun _ h9 => h9) rfl dX0_lessen_20 ?_
    refine lv_lload_n hx hb dX0_lessen_23 rfl (lv_at hl 0 rfl) ?_
    refine zz_ldiv hx hb (by omega) (by omega) dX0_lessen_24 ?_
    refine zz_topl (z := ((a / Nat.gcd a b : Nat) : Int)) (congrArg zl rfl) ?_
    refine va_put (D := (dC, dI)) (ci := 0) (v := .long (zl (((a / Nat.gcd a b : Nat) : Int)))) (ty := .long) (C := RX0) (T := TX0) (N := 2) hx hb hg inX0 tyX0 tyX0_ok nmX0 hown hK hP hD hS 0 rfl rfl 0 (by decide) (hg _ wl_X0_15) (fun _ h9 => h9) rfl (by decide +kernel) rfl rfl (Nat.le_of_ble_eq_true rfl) dX0_lessen_25 (fun H locs hP hD hS => ?_)
    have hP : va_P (dC, dI) vwCl [(h0, .inr (0, [.long (zl (((a / Nat.gcd a b : Nat) : Int))), .long (zl ((b : Int)))]))] H := hP
    have hD : va_D A [(h0, .inr (0, [.long (zl (((a / Nat.gcd a b : Nat) : Int))), .long (zl ((b : Int)))]))] := hD
    refine lv_aload_n hx hb dX0_lessen_28 rfl (lv_at hl 1 rfl) ?_
    refine lv_aload_n hx hb dX0_lessen_29 rfl (lv_at hl 1 rfl) ?_
    refine va_get (D := (dC, dI)) (ci := 0) (v := .long (zl ((b : Int)))) (C := RX0) (T := TX0) (N := 2) hx hb hg inX0 hown hK hP 0 rfl rfl 1 (by decide) (hg _ wl_X0_9) (fun _ h9 => h9) rfl dX0_lessen_30 ?_
    refine lv_lload_n hx hb dX0_lessen_33 rfl (lv_at hl 0 rfl) ?_
    refine zz_ldiv hx hb (by omega) (by omega) dX0_lessen_34 ?_
    refine zz_topl (z := ((b / Nat.gcd a b : Nat) : Int)) (congrArg zl rfl) ?_
    refine va_put (D := (dC, dI)) (ci := 0) (v := .long (zl (((b / Nat.gcd a b : Nat) : Int)))) (ty := .long) (C := RX0) (T := TX0) (N := 2) hx hb hg inX0 tyX0 tyX0_ok nmX0 hown hK hP hD hS 0 rfl rfl 1 (by decide) (hg _ wl_X0_9) (fun _ h9 => h9) rfl (by decide +kernel) rfl rfl (Nat.le_of_ble_eq_true rfl) dX0_lessen_35 (fun H locs hP hD hS => ?_)
    have hP : va_P (dC, dI) vwCl [(h0, .inr (0, [.long (zl (((a / Nat.gcd a b : Nat) : Int))), .long (zl (((b / Nat.gcd a b : Nat) : Int)))]))] H := hP
    have hD : va_D A [(h0, .inr (0, [.long (zl (((a / Nat.gcd a b : Nat) : Int))), .long (zl (((b / Nat.gcd a b : Nat) : Int)))]))] := hD
    have hP9 : va_P (dC, dI) vwCl [(h0, .inr (0, [.long (zl (((a / Nat.gcd a b : Nat) : Int))), .long (zl (((b / Nat.gcd a b : Nat) : Int)))]))] H := hP
    rw [hQQ]
    exact wr_v hx hb hr hlocks hP9 hS dX0_lessen_38

abbrev rm_X0_add : Room := { frames := 2, cells := 0, slots := 0, locals := 52 }
set_option maxHeartbeats 4000000 in
set_option maxRecDepth 100000 in
theorem c_X0_add (l : Launch) (dC : Nat → ClassId) (dI : Nat → Nat → Nat) (sz : Nat) (h0 : Nat) (a b u q : Nat) (hb0 : 0 < b) (hq0 : 0 < q) (hu : u < 9223372036854775808) (hq9 : q < 562949953421312) (hn : a * (q / Nat.gcd u q) + u / Nat.gcd u q * b < 9223372036854775808) (hd : b * (q / Nat.gcd u q) < 562949953421312) : Met l yX0_add (Cond.code yX0_add cX0_add 11 ((Option.none : Option Jvm.ClassFile.FieldType)) :: gw) rm_X0_add (PcW [.ref h0, .long (zl ((u : Int))), .long (zl ((q : Int)))] (dC, dI) vwCl [(h0, .inr (0, [.long (zl ((a : Int))), .long (zl ((b : Int)))]))] [] sz) (WrQ (none) (dC, dI) vwCl [(h0, .inr (0, [.long (zl ((((a * (q / Nat.gcd u q) + u / Nat.gcd u q * b) / Nat.gcd (a * (q / Nat.gcd u q) + u / Nat.gcd u q * b) (b * (q / Nat.gcd u q)) : Nat) : Int))), .long (zl ((((b * (q / Nat.gcd u q)) / Nat.gcd (a * (q / Nat.gcd u q) + u / Nat.gcd u q * b) (b * (q / Nat.gcd u q)) : Nat) : Int)))]))] (va_A [(h0, .inr (0, [.long (zl ((a : Int))), .long (zl ((b : Int)))]))] sz)) 0 0 (va_A [(h0, .inr (0, [.long (zl ((a : Int))), .long (zl ((b : Int)))]))] sz) := by
  refine Met.ofW (cc := cX0_add) (maxL := 11) (ret := ((Option.none : Option Jvm.ClassFile.FieldType))) (by decide) rfl ?_
  intro p e s m args below meth c s₁ B hml hv
  obtain ⟨hargs, hsz, hP, hK, hD0⟩ := hv
  have hx := B.exec
  have hb := B.bytes
  have hr := B.returns
  have hts := atoms_spec (ws := Cond.code yX0_add cX0_add 11 ((Option.none : Option Jvm.ClassFile.FieldType)) :: gw) B.pre
  have hg : ∀ w ∈ gw, w.before args s = true := fun w h => hts w (List.mem_cons_of_mem _ h)
  have hown : s.vm.findClass RX0 = some m.cls := findClass_of_methodNamed B.named
  have hlocks := B.notSynchronized
  subst hsz
  have hD := hD0.self (sz := s.heap.size)
  generalize hAe : va_A [(h0, .inr (0, [.long (zl ((a : Int))), .long (zl ((b : Int)))]))] s.heap.size = A at hD ⊢
  have hA : ∀ q : Nat, s.heap.size ≤ q → A q := fun q h => by rw [← hAe]; exact Or.inr h
  show W p l e rm_X0_add s m args below meth c s.heap [] 0 0 _ _
  have hl := lv_entry ([.ref h0, .long (zl ((u : Int))), .long (zl ((q : Int)))]) (n := 11) (Nat.le_of_ble_eq_true rfl)
  rw [show entryFrame m args 11 = entryFrame m ([.ref h0, .long (zl ((u : Int))), .long (zl ((q : Int)))] : List Value).toArray 11 by rw [hargs], lg_entry_eq]
  generalize (lg_sl ([.ref h0, .long (zl ((u : Int))), .long (zl ((q : Int)))]) ++ List.replicate (11 - (lg_sl ([.ref h0, .long (zl ((u : Int))), .long (zl ((q : Int)))])).length) Slot.unset).toArray = ls at hl ⊢
  have hl : lv_has ls 11 [(0, .ref h0), (1, .long (zl ((u : Int)))), (3, .long (zl ((q : Int))))] := hl
  obtain ⟨QQ, hQQ⟩ : ∃ Q, Q = MQ below (WrQ (none) (dC, dI) vwCl [(h0, .inr (0, [.long (zl ((((a * (q / Nat.gcd u q) + u / Nat.gcd u q * b) / Nat.gcd (a * (q / Nat.gcd u q) + u / Nat.gcd u q * b) (b * (q / Nat.gcd u q)) : Nat) : Int))), .long (zl ((((b * (q / Nat.gcd u q)) / Nat.gcd (a * (q / Nat.gcd u q) + u / Nat.gcd u q * b) (b * (q / Nat.gcd u q)) : Nat) : Int)))]))] A) args s 0 0 A := ⟨_, rfl⟩
  rw [← hQQ]
  obtain ⟨H, hH⟩ : ∃ H : Heap, H = s.heap := ⟨_, rfl⟩
  obtain ⟨locs, hlc⟩ : ∃ x : List Loc, x = [] := ⟨_, rfl⟩
  have hS : va_S A s.heap H locs := by rw [hH, hlc]; exact va_S.rf
  have hP : va_P (dC, dI) vwCl [(h0, .inr (0, [.long (zl ((a : Int))), .long (zl ((b : Int)))]))] H := by rw [hH]; exact hP
  have hD : va_D A [(h0, .inr (0, [.long (zl ((a : Int))), .long (zl ((b : Int)))]))] := hD
  rw [← hH, ← hlc]
  have hgp : 0 < Nat.gcd u q := Nat.gcd_pos_of_pos_right u hq0
  have hgl : Nat.gcd u q ≤ q := Nat.gcd_le_right u hq0
  have hq1 : 0 < q / Nat.gcd u q := Nat.div_pos hgl hgp
  have hd0 : 0 < b * (q / Nat.gcd u q) := Nat.mul_pos hb0 hq1
  refine lv_lload_n hx hb dX0_add_0 rfl (lv_at hl 1 rfl) ?_
  refine lv_lload_n hx hb dX0_add_1 rfl (lv_at hl 2 rfl) ?_
  refine rdS (As := [.long (zl ((u : Int))), .long (zl ((q : Int)))]) (rest := []) (n := 2) hx hb hml hown hg (c_X0_commonDivisor l (u) (q) hu hq9) (gwS wl_X0_18 wt_X0_commonDivisor wi_X0 wc_X0_commonDivisor) rfl rfl (by decide +kernel) ⟨Nat.le_of_ble_eq_true rfl, Nat.le_of_ble_eq_true rfl⟩ rfl hl.1 rfl (Nat.le_of_ble_eq_true rfl) dX0_add_2 ⟨Nat.zero_le _, Nat.zero_le _⟩ ?_
  refine lv_lstore (lv' := [(5, .long (zl (((Nat.gcd (u) (q) : Nat) : Int)))), (0, .ref h0), (1, .long (zl ((u : Int)))), (3, .long (zl ((q : Int))))]) hx hb dX0_add_5 hl (by decide) rfl (fun ls hl => ?_)
  refine lv_lload hx hb dX0_add_7 (lv_at hl 0 rfl) ?_
  refine lv_lconst (v := zl (0)) hx hb dX0_add_9 (by decide) ?_
  refine zz_lcmp_ne (tgt := 15) hx hb (by omega) (by omega) dX0_add_10 dX0_add_11 (by decide) (fun c_10 => ?_) (fun c_10 => ?_)
  · refine lv_lload_n hx hb dX0_add_15 rfl (lv_at hl 2 rfl) ?_
    refine lv_lload hx hb dX0_add_16 (lv_at hl 0 rfl) ?_
    refine zz_ldiv hx hb (by omega) (by omega) dX0_add_18 ?_
    refine zz_topl (z := ((u / Nat.gcd u q : Nat) : Int)) (congrArg zl rfl) ?_
    refine lv_lstore (lv' := [(7, .long (zl (((u / Nat.gcd u q : Nat) : Int)))), (5, .long (zl (((Nat.gcd (u) (q) : Nat) : Int)))), (0, .ref h0), (1, .long (zl ((u : Int)))), (3, .long (zl ((q : Int))))]) hx hb dX0_add_19 hl (by decide) rfl (fun ls hl => ?_)
    refine lv_lload_n hx hb dX0_add_21 rfl (lv_at hl 4 rfl) ?_
    refine lv_lload hx hb dX0_add_22 (lv_at hl 1 rfl) ?_
    refine zz_ldiv hx hb (by omega) (by omega) dX0_add_24 ?_
    refine zz_topl (z := ((q / Nat.gcd u q : Nat) : Int)) (congrArg zl rfl) ?_
    refine lv_lstore (lv' := [(9, .long (zl (((q / Nat.gcd u q : Nat) : Int)))), (7, .long (zl (((u / Nat.gcd u q : Nat) : Int)))), (5, .long (zl (((Nat.gcd (u) (q) : Nat) : Int)))), (0, .ref h0), (1, .long (zl ((u : Int)))), (3, .long (zl ((q : Int))))]) hx hb dX0_add_25 hl (by decide) rfl (fun ls hl => ?_)
    refine lv_aload_n hx hb dX0_add_27 rfl (lv_at hl 3 rfl) ?_
    refine lv_aload_n hx hb dX0_add_28 rfl (lv_at hl 3 rfl) ?_
    refine va_get (D := (dC, dI)) (ci := 0) (v := .long (zl ((a : Int)))) (C := RX0) (T := TX0) (N := 2) hx hb hg inX0 hown hK hP 0 rfl rfl 0 (by decide) (hg _ wl_X0_15) (fun _ h9 => h9) rfl dX0_add_29 ?_
    refine lv_lload hx hb dX0_add_32 (lv_at hl 0 rfl) ?_
    refine zz_lmul hx hb dX0_add_34 ?_
    refine lv_lload hx hb dX0_add_35 (lv_at hl 1 rfl) ?_
    refine lv_aload_n hx hb dX0_add_37 rfl (lv_at hl 3 rfl) ?_
    refine va_get (D := (dC, dI)) (ci := 0) (v := .long (zl ((b : Int)))) (C := RX0) (T := TX0) (N := 2) hx hb hg inX0 hown hK hP 0 rfl rfl 1 (by decide) (hg _ wl_X0_9) (fun _ h9 => h9) rfl dX0_add_38 ?_
    refine zz_lmul hx hb dX0_add_41 ?_
    refine zz_ladd hx hb dX0_add_42 ?_
    refine zz_topl (z := ((a * (q / Nat.gcd u q) + u / Nat.gcd u q * b : Nat) : Int)) (congrArg zl (by push_cast; rfl)) ?_
    refine va_put (D := (dC, dI)) (ci := 0) (v := .long (zl (((a * (q / Nat.gcd u q) + u / Nat.gcd u q * b : Nat) : Int)))) (ty := .long) (C := RX0) (T := TX0) (N := 2) hx hb hg inX0 tyX0 tyX0_ok nmX0 hown hK hP hD hS 0 rfl rfl 0 (by decide) (hg _ wl_X0_15) (fun _ h9 => h9) rfl (by decide +kernel) rfl rfl (Nat.le_of_ble_eq_true rfl) dX0_add_43 (fun H locs hP hD hS => ?_)
    have hP : va_P (dC, dI) vwCl [(h0, .inr (0, [.long (zl (((a * (q / Nat.gcd u q) + u / Nat.gcd u q * b : Nat) : Int))), .long (zl ((b : Int)))]))] H := hP
    have hD : va_D A [(h0, .inr (0, [.long (zl (((a * (q / Nat.gcd u q) + u / Nat.gcd u q * b : Nat) : Int))), .long (zl ((b : Int)))]))] := hD
    refine lv_aload_n hx hb dX0_add_46 rfl (lv_at hl 3 rfl) ?_
    refine lv_aload_n hx hb dX0_add_47 rfl (lv_at hl 3 rfl) ?_
    refine va_get (D := (dC, dI)) (ci := 0) (v := .long (zl ((b : Int)))) (C := RX0) (T := TX0) (N := 2) hx hb hg inX0 hown hK hP 0 rfl rfl 1 (by decide) (hg _ wl_X0_9) (fun _ h9 => h9) rfl dX0_add_48 ?_
    refine lv_lload hx hb dX0_add_51 (lv_at hl 0 rfl) ?_
    refine zz_lmul hx hb dX0_add_53 ?_
    refine zz_topl (z := ((b * (q / Nat.gcd u q) : Nat) : Int)) (congrArg zl (by push_cast; rfl)) ?_
    refine va_put (D := (dC, dI)) (ci := 0) (v := .long (zl (((b * (q / Nat.gcd u q) : Nat) : Int)))) (ty := .long) (C := RX0) (T := TX0) (N := 2) hx hb hg inX0 tyX0 tyX0_ok nmX0 hown hK hP hD hS 0 rfl rfl 1 (by decide) (hg _ wl_X0_9) (fun _ h9 => h9) rfl (by decide +kernel) rfl rfl (Nat.le_of_ble_eq_true rfl) dX0_add_54 (fun H locs hP hD hS => ?_)
    have hP : va_P (dC, dI) vwCl [(h0, .inr (0, [.long (zl (((a * (q / Nat.gcd u q) + u / Nat.gcd u q * b : Nat) : Int))), .long (zl (((b * (q / Nat.gcd u q) : Nat) : Int)))]))] H := hP
    have hD : va_D A [(h0, .inr (0, [.long (zl (((a * (q / Nat.gcd u q) + u / Nat.gcd u q * b : Nat) : Int))), .long (zl (((b * (q / Nat.gcd u q) : Nat) : Int)))]))] := hD
    refine lv_aload_n hx hb dX0_add_57 rfl (lv_at hl 3 rfl) ?_
    refine wrV (As := []) (rest := []) (n := 0) (ws' := [(h0, .inr (0, [.long (zl ((((a * (q / Nat.gcd u q) + u / Nat.gcd u q * b) / Nat.gcd (a * (q / Nat.gcd u q) + u / Nat.gcd u q * b) (b * (q / Nat.gcd u q)) : Nat) : Int))), .long (zl ((((b * (q / Nat.gcd u q)) / Nat.gcd (a * (q / Nat.gcd u q) + u / Nat.gcd u q * b) (b * (q / Nat.gcd u q)) : Nat) : Int)))]))]) hx hb hml hown hg (c_X0_lessen l dC dI H.size h0 (a * (q / Nat.gcd u q) + u / Nat.gcd u q * b) (b * (q / Nat.gcd u q)) hd0 hn hd) (gwV wl_X0_22 wm_X0_lessen we_X0_lessen wi_X0 wc_X0_lessen) rfl rfl (by decide +kernel) ⟨Nat.le_of_ble_eq_true rfl, Nat.le_of_ble_eq_true rfl⟩ (hK.sub [] rfl) hP hD hS hA [0] rfl (by decide) [(true, 0)] rfl (by decide) rfl 0 rfl rfl rfl rfl hl.1 rfl (Nat.le_of_ble_eq_true rfl) dX0_add_58 ⟨Nat.zero_le _, Nat.zero_le _⟩ (fun H locs hP hD hS => ?_)
    have hP9 : va_P (dC, dI) vwCl [(h0, .inr (0, [.long (zl ((((a * (q / Nat.gcd u q) + u / Nat.gcd u q * b) / Nat.gcd (a * (q / Nat.gcd u q) + u / Nat.gcd u q * b) (b * (q / Nat.gcd u q)) : Nat) : Int))), .long (zl ((((b * (q / Nat.gcd u q)) / Nat.gcd (a * (q / Nat.gcd u q) + u / Nat.gcd u q * b) (b * (q / Nat.gcd u q)) : Nat) : Int)))]))] H := hP
    rw [hQQ]
    exact wr_v hx hb hr hlocks hP9 hS dX0_add_61
  · exact absurd c_10 (by omega)

abbrev rm_X0_tell : Room := { frames := 0, cells := 0, slots := 0, locals := 0 }
set_option maxHeartbeats 4000000 in
set_option maxRecDepth 100000 in
theorem c_X0_tell (l : Launch) (dC : Nat → ClassId) (dI : Nat → Nat → Nat) (h0 : Nat) (a b part : Int) (hp : -2147483648 ≤ part ∧ part < 2147483648) : Met l yX0_tell (Cond.code yX0_tell cX0_tell 2 ((Option.some Jvm.ClassFile.FieldType.long)) :: gw) rm_X0_tell (PcR [.ref h0, .int (zi (part))] (dC, dI) vwCl [(h0, .inr (0, [.long (zl (a)), .long (zl (b))]))] []) (RdQ (some (.long (zl (if part = 0 then a else b))))) 0 0 (fun _ => False) := by
  refine Met.ofW (cc := cX0_tell) (maxL := 2) (ret := ((Option.some Jvm.ClassFile.FieldType.long))) (by decide) rfl ?_
  intro p e s m args below meth c s₁ B hml hv
  obtain ⟨hargs, hP, hK⟩ := hv
  have hx := B.exec
  have hb := B.bytes
  have hr := B.returns
  have hts := atoms_spec (ws := Cond.code yX0_tell cX0_tell 2 ((Option.some Jvm.ClassFile.FieldType.long)) :: gw) B.pre
  have hg : ∀ w ∈ gw, w.before args s = true := fun w h => hts w (List.mem_cons_of_mem _ h)
  have hown : s.vm.findClass RX0 = some m.cls := findClass_of_methodNamed B.named
  have hlocks := B.notSynchronized
  show W p l e rm_X0_tell s m args below meth c s.heap [] 0 0 _ _
  have hl := lv_entry ([.ref h0, .int (zi (part))]) (n := 2) (Nat.le_of_ble_eq_true rfl)
  rw [show entryFrame m args 2 = entryFrame m ([.ref h0, .int (zi (part))] : List Value).toArray 2 by rw [hargs], lg_entry_eq]
  generalize (lg_sl ([.ref h0, .int (zi (part))]) ++ List.replicate (2 - (lg_sl ([.ref h0, .int (zi (part))])).length) Slot.unset).toArray = ls at hl ⊢
  have hl : lv_has ls 2 [(0, .ref h0), (1, .int (zi (part)))] := hl
  obtain ⟨QQ, hQQ⟩ : ∃ Q, Q = MQ below (RdQ (some (.long (zl (if part = 0 then a else b))))) args s 0 0 (fun _ => False) := ⟨_, rfl⟩
  rw [← hQQ]
  refine lv_iload_n hx hb dX0_tell_0 rfl (lv_at hl 1 rfl) ?_
  refine zz_if_ne (tgt := 11) hx hb (by omega) dX0_tell_1 (by decide) (fun c_1 => ?_) (fun c_1 => ?_)
  · refine lv_aload_n hx hb dX0_tell_11 rfl (lv_at hl 0 rfl) ?_
    refine va_get (D := (dC, dI)) (ci := 0) (v := .long (zl (b))) (C := RX0) (T := TX0) (N := 2) hx hb hg inX0 hown hK hP 0 rfl rfl 1 (by decide) (hg _ wl_X0_9) (fun _ h9 => h9) rfl dX0_tell_12 ?_
    rw [hQQ]
    exact rd_l hx hb hr hlocks (by rw [if_neg c_1]) dX0_tell_15
  · refine lv_aload_n hx hb dX0_tell_4 rfl (lv_at hl 0 rfl) ?_
    refine va_get (D := (dC, dI)) (ci := 0) (v := .long (zl (a))) (C := RX0) (T := TX0) (N := 2) hx hb hg inX0 hown hK hP 0 rfl rfl 0 (by decide) (hg _ wl_X0_15) (fun _ h9 => h9) rfl dX0_tell_5 ?_
    refine lv_goto (tgt := 15) hx hb dX0_tell_8 (by decide) ?_
    rw [hQQ]
    exact rd_l hx hb hr hlocks (by rw [if_pos c_1]) dX0_tell_15

abbrev rm_X0_roundedDown : Room := { frames := 0, cells := 0, slots := 0, locals := 0 }
set_option maxHeartbeats 4000000 in
set_option maxRecDepth 100000 in
theorem c_X0_roundedDown (l : Launch) (dC : Nat → ClassId) (dI : Nat → Nat → Nat) (h0 : Nat) (a b : Nat) (hb0 : 0 < b) (ha : a < 9223372036854775808) (hb9 : b < 562949953421312) : Met l yX0_roundedDown (Cond.code yX0_roundedDown cX0_roundedDown 1 ((Option.some Jvm.ClassFile.FieldType.long)) :: gw) rm_X0_roundedDown (PcR [.ref h0] (dC, dI) vwCl [(h0, .inr (0, [.long (zl ((a : Int))), .long (zl ((b : Int)))]))] []) (RdQ (some (.long (zl ((a / b : Nat) : Int))))) 0 0 (fun _ => False) := by
  refine Met.ofW (cc := cX0_roundedDown) (maxL := 1) (ret := ((Option.some Jvm.ClassFile.FieldType.long))) (by decide) rfl ?_
  intro p e s m args below meth c s₁ B hml hv
  obtain ⟨hargs, hP, hK⟩ := hv
  have hx := B.exec
  have hb := B.bytes
  have hr := B.returns
  have hts := atoms_spec (ws := Cond.code yX0_roundedDown cX0_roundedDown 1 ((Option.some Jvm.ClassFile.FieldType.long)) :: gw) B.pre
  have hg : ∀ w ∈ gw, w.before args s = true := fun w h => hts w (List.mem_cons_of_mem _ h)
  have hown : s.vm.findClass RX0 = some m.cls := findClass_of_methodNamed B.named
  have hlocks := B.notSynchronized
  show W p l e rm_X0_roundedDown s m args below meth c s.heap [] 0 0 _ _
  have hl := lv_entry ([.ref h0]) (n := 1) (Nat.le_of_ble_eq_true rfl)
  rw [show entryFrame m args 1 = entryFrame m ([.ref h0] : List Value).toArray 1 by rw [hargs], lg_entry_eq]
  generalize (lg_sl ([.ref h0]) ++ List.replicate (1 - (lg_sl ([.ref h0])).length) Slot.unset).toArray = ls at hl ⊢
  have hl : lv_has ls 1 [(0, .ref h0)] := hl
  obtain ⟨QQ, hQQ⟩ : ∃ Q, Q = MQ below (RdQ (some (.long (zl ((a / b : Nat) : Int))))) args s 0 0 (fun _ => False) := ⟨_, rfl⟩
  rw [← hQQ]
  refine lv_aload_n hx hb dX0_roundedDown_0 rfl (lv_at hl 0 rfl) ?_
  refine va_get (D := (dC, dI)) (ci := 0) (v := .long (zl ((b : Int)))) (C := RX0) (T := TX0) (N := 2) hx hb hg inX0 hown hK hP 0 rfl rfl 1 (by decide) (hg _ wl_X0_9) (fun _ h9 => h9) rfl dX0_roundedDown_1 ?_
  refine lv_lconst (v := zl (0)) hx hb dX0_roundedDown_4 (by decide) ?_
  refine zz_lcmp_ne (tgt := 13) hx hb (by omega) (by omega) dX0_roundedDown_5 dX0_roundedDown_6 (by decide) (fun c_5 => ?_) (fun c_5 => ?_)
  · refine lv_aload_n hx hb dX0_roundedDown_13 rfl (lv_at hl 0 rfl) ?_
    refine va_get (D := (dC, dI)) (ci := 0) (v := .long (zl ((a : Int)))) (C := RX0) (T := TX0) (N := 2) hx hb hg inX0 hown hK hP 0 rfl rfl 0 (by decide) (hg _ wl_X0_15) (fun _ h9 => h9) rfl dX0_roundedDown_14 ?_
    refine lv_aload_n hx hb dX0_roundedDown_17 rfl (lv_at hl 0 rfl) ?_
    refine va_get (D := (dC, dI)) (ci := 0) (v := .long (zl ((b : Int)))) (C := RX0) (T := TX0) (N := 2) hx hb hg inX0 hown hK hP 0 rfl rfl 1 (by decide) (hg _ wl_X0_9) (fun _ h9 => h9) rfl dX0_roundedDown_18 ?_
    refine zz_ldiv hx hb (by omega) (by omega) dX0_roundedDown_21 ?_
    refine zz_topl (z := ((a / b : Nat) : Int)) (congrArg zl rfl) ?_
    rw [hQQ]
    exact rd_l hx hb hr hlocks rfl dX0_roundedDown_22
  · exact absurd c_5 (by omega)

abbrev rm_X0_timesDown : Room := { frames := 0, cells := 0, slots := 0, locals := 0 }
set_option maxHeartbeats 4000000 in
set_option maxRecDepth 100000 in
theorem c_X0_timesDown (l : Launch) (dC : Nat → ClassId) (dI : Nat → Nat → Nat) (h0 : Nat) (a b f : Nat) (hb0 : 0 < b) (ha : a < 9223372036854775808) (hb9 : b < 562949953421312) (hm : a % b * f < 9223372036854775808) : Met l yX0_timesDown (Cond.code yX0_timesDown cX0_timesDown 3 ((Option.some Jvm.ClassFile.FieldType.long)) :: gw) rm_X0_timesDown (PcR [.ref h0, .long (zl ((f : Int)))] (dC, dI) vwCl [(h0, .inr (0, [.long (zl ((a : Int))), .long (zl ((b : Int)))]))] []) (RdQ (some (.long (zl ((a * f / b : Nat) : Int))))) 0 0 (fun _ => False) := by
  refine Met.ofW (cc := cX0_timesDown) (maxL := 3) (ret := ((Option.some Jvm.ClassFile.FieldType.long))) (by decide) rfl ?_
  intro p e s m args below meth c s₁ B hml hv
  obtain ⟨hargs, hP, hK⟩ := hv
  have hx := B.exec
  have hb := B.bytes
  have hr := B.returns
  have hts := atoms_spec (ws := Cond.code yX0_timesDown cX0_timesDown 3 ((Option.some Jvm.ClassFile.FieldType.long)) :: gw) B.pre
  have hg : ∀ w ∈ gw, w.before args s = true := fun w h => hts w (List.mem_cons_of_mem _ h)
  have hown : s.vm.findClass RX0 = some m.cls := findClass_of_methodNamed B.named
  have hlocks := B.notSynchronized
  show W p l e rm_X0_timesDown s m args below meth c s.heap [] 0 0 _ _
  have hl := lv_entry ([.ref h0, .long (zl ((f : Int)))]) (n := 3) (Nat.le_of_ble_eq_true rfl)
  rw [show entryFrame m args 3 = entryFrame m ([.ref h0, .long (zl ((f : Int)))] : List Value).toArray 3 by rw [hargs], lg_entry_eq]
  generalize (lg_sl ([.ref h0, .long (zl ((f : Int)))]) ++ List.replicate (3 - (lg_sl ([.ref h0, .long (zl ((f : Int)))])).length) Slot.unset).toArray = ls at hl ⊢
  have hl : lv_has ls 3 [(0, .ref h0), (1, .long (zl ((f : Int))))] := hl
  obtain ⟨QQ, hQQ⟩ : ∃ Q, Q = MQ below (RdQ (some (.long (zl ((a * f / b : Nat) : Int))))) args s 0 0 (fun _ => False) := ⟨_, rfl⟩
  rw [← hQQ]
  refine lv_aload_n hx hb dX0_timesDown_0 rfl (lv_at hl 0 rfl) ?_
  refine va_get (D := (dC, dI)) (ci := 0) (v := .long (zl ((b : Int)))) (C := RX0) (T := TX0) (N := 2) hx hb hg inX0 hown hK hP 0 rfl rfl 1 (by decide) (hg _ wl_X0_9) (fun _ h9 => h9) rfl dX0_timesDown_1 ?_
  refine lv_lconst (v := zl (0)) hx hb dX0_timesDown_4 (by decide) ?_
  refine zz_lcmp_ne (tgt := 11) hx hb (by omega) (by omega) dX0_timesDown_5 dX0_timesDown_6 (by decide) (fun c_5 => ?_) (fun c_5 => ?_)
  · refine lv_aload_n hx hb dX0_timesDown_11 rfl (lv_at hl 0 rfl) ?_
    refine va_get (D := (dC, dI)) (ci := 0) (v := .long (zl ((a : Int)))) (C := RX0) (T := TX0) (N := 2) hx hb hg inX0 hown hK hP 0 rfl rfl 0 (by decide) (hg _ wl_X0_15) (fun _ h9 => h9) rfl dX0_timesDown_12 ?_
    refine lv_aload_n hx hb dX0_timesDown_15 rfl (lv_at hl 0 rfl) ?_
    refine va_get (D := (dC, dI)) (ci := 0) (v := .long (zl ((b : Int)))) (C := RX0) (T := TX0) (N := 2) hx hb hg inX0 hown hK hP 0 rfl rfl 1 (by decide) (hg _ wl_X0_9) (fun _ h9 => h9) rfl dX0_timesDown_16 ?_
    refine zz_ldiv hx hb (by omega) (by omega) dX0_timesDown_19 ?_
    refine zz_topl (z := ((a / b : Nat) : Int)) (congrArg zl rfl) ?_
    refine lv_lload_n hx hb dX0_timesDown_20 rfl (lv_at hl 1 rfl) ?_
    refine zz_lmul hx hb dX0_timesDown_21 ?_
    refine zz_topl (z := ((a / b * f : Nat) : Int)) (congrArg zl (by push_cast; rfl)) ?_
    refine lv_aload_n hx hb dX0_timesDown_22 rfl (lv_at hl 0 rfl) ?_
    refine va_get (D := (dC, dI)) (ci := 0) (v := .long (zl ((a : Int)))) (C := RX0) (T := TX0) (N := 2) hx hb hg inX0 hown hK hP 0 rfl rfl 0 (by decide) (hg _ wl_X0_15) (fun _ h9 => h9) rfl dX0_timesDown_23 ?_
    refine lv_aload_n hx hb dX0_timesDown_26 rfl (lv_at hl 0 rfl) ?_
    refine va_get (D := (dC, dI)) (ci := 0) (v := .long (zl ((b : Int)))) (C := RX0) (T := TX0) (N := 2) hx hb hg inX0 hown hK hP 0 rfl rfl 1 (by decide) (hg _ wl_X0_9) (fun _ h9 => h9) rfl dX0_timesDown_27 ?_
    refine zz_lrem hx hb (by omega) (by omega) dX0_timesDown_30 ?_
    refine zz_topl (z := ((a % b : Nat) : Int)) (congrArg zl (ma_tmod a b)) ?_
    refine lv_lload_n hx hb dX0_timesDown_31 rfl (lv_at hl 1 rfl) ?_
    refine zz_lmul hx hb dX0_timesDown_32 ?_
    refine zz_topl (z := ((a % b * f : Nat) : Int)) (congrArg zl (by push_cast; rfl)) ?_
    refine lv_aload_n hx hb dX0_timesDown_33 rfl (lv_at hl 0 rfl) ?_
    refine va_get (D := (dC, dI)) (ci := 0) (v := .long (zl ((b : Int)))) (C := RX0) (T := TX0) (N := 2) hx hb hg inX0 hown hK hP 0 rfl rfl 1 (by decide) (hg _ wl_X0_9) (fun _ h9 => h9) rfl dX0_timesDown_34 ?_
    refine zz_ldiv hx hb (by omega) (by omega) dX0_timesDown_37 ?_
    refine zz_topl (z := ((a % b * f / b : Nat) : Int)) (congrArg zl rfl) ?_
    refine zz_ladd hx hb dX0_timesDown_38 ?_
    refine zz_topl (z := ((a / b * f + a % b * f / b : Nat) : Int)) (congrArg zl (by push_cast; rfl)) ?_
    rw [hQQ]
    exact rd_l hx hb hr hlocks (by rw [ma_td a b f hb0]) dX0_timesDown_39
  · exact absurd c_5 (by omega)

abbrev rm_X0_timesUp : Room := { frames := 0, cells := 0, slots := 0, locals := 0 }
set_option maxHeartbeats 4000000 in
set_option maxRecDepth 100000 in
theorem c_X0_timesUp (l : Launch) (dC : Nat → ClassId) (dI : Nat → Nat → Nat) (h0 : Nat) (a b f : Nat) (hb0 : 0 < b) (ha : a < 9223372036854775808) (hb9 : b < 562949953421312) (hm : a % b * f + b < 9223372036854775808) : Met l yX0_timesUp (Cond.code yX0_timesUp cX0_timesUp 3 ((Option.some Jvm.ClassFile.FieldType.long)) :: gw) rm_X0_timesUp (PcR [.ref h0, .long (zl ((f : Int)))] (dC, dI) vwCl [(h0, .inr (0, [.long (zl ((a : Int))), .long (zl ((b : Int)))]))] []) (RdQ (some (.long (zl (((a * f + b - 1) / b : Nat) : Int))))) 0 0 (fun _ => False) := by
  refine Met.ofW (cc := cX0_timesUp) (maxL := 3) (ret := ((Option.some Jvm.ClassFile.FieldType.long))) (by decide) rfl ?_
  intro p e s m args below meth c s₁ B hml hv
  obtain ⟨hargs, hP, hK⟩ := hv
  have hx := B.exec
  have hb := B.bytes
  have hr := B.returns
  have hts := atoms_spec (ws := Cond.code yX0_timesUp cX0_timesUp 3 ((Option.some Jvm.ClassFile.FieldType.long)) :: gw) B.pre
  have hg : ∀ w ∈ gw, w.before args s = true := fun w h => hts w (List.mem_cons_of_mem _ h)
  have hown : s.vm.findClass RX0 = some m.cls := findClass_of_methodNamed B.named
  have hlocks := B.notSynchronized
  show W p l e rm_X0_timesUp s m args below meth c s.heap [] 0 0 _ _
  have hl := lv_entry ([.ref h0, .long (zl ((f : Int)))]) (n := 3) (Nat.le_of_ble_eq_true rfl)
  rw [show entryFrame m args 3 = entryFrame m ([.ref h0, .long (zl ((f : Int)))] : List Value).toArray 3 by rw [hargs], lg_entry_eq]
  generalize (lg_sl ([.ref h0, .long (zl ((f : Int)))]) ++ List.replicate (3 - (lg_sl ([.ref h0, .long (zl ((f : Int)))])).length) Slot.unset).toArray = ls at hl ⊢
  have hl : lv_has ls 3 [(0, .ref h0), (1, .long (zl ((f : Int))))] := hl
  obtain ⟨QQ, hQQ⟩ : ∃ Q, Q = MQ below (RdQ (some (.long (zl (((a * f + b - 1) / b : Nat) : Int))))) args s 0 0 (fun _ => False) := ⟨_, rfl⟩
  rw [← hQQ]
  refine lv_aload_n hx hb dX0_timesUp_0 rfl (lv_at hl 0 rfl) ?_
  refine va_get (D := (dC, dI)) (ci := 0) (v := .long (zl ((b : Int)))) (C := RX0) (T := TX0) (N := 2) hx hb hg inX0 hown hK hP 0 rfl rfl 1 (by decide) (hg _ wl_X0_9) (fun _ h9 => h9) rfl dX0_timesUp_1 ?_
  refine lv_lconst (v := zl (0)) hx hb dX0_timesUp_4 (by decide) ?_
  refine zz_lcmp_ne (tgt := 11) hx hb (by omega) (by omega) dX0_timesUp_5 dX0_timesUp_6 (by decide) (fun c_5 => ?_) (fun c_5 => ?_)
  · refine lv_aload_n hx hb dX0_timesUp_11 rfl (lv_at hl 0 rfl) ?_
    refine va_get (D := (dC, dI)) (ci := 0) (v := .long (zl ((a : Int)))) (C := RX0) (T := TX0) (N := 2) hx hb hg inX0 hown hK hP 0 rfl rfl 0 (by decide) (hg _ wl_X0_15) (fun _ h9 => h9) rfl dX0_timesUp_12 ?_
    refine lv_aload_n hx hb dX0_timesUp_15 rfl (lv_at hl 0 rfl) ?_
    refine va_get (D := (dC, dI)) (ci := 0) (v := .long (zl ((b : Int)))) (C := RX0) (T := TX0) (N := 2) hx hb hg inX0 hown hK hP 0 rfl rfl 1 (by decide) (hg _ wl_X0_9) (fun _ h9 => h9) rfl dX0_timesUp_16 ?_
    refine zz_ldiv hx hb (by omega) (by omega) dX0_timesUp_19 ?_
    refine zz_topl (z := ((a / b : Nat) : Int)) (congrArg zl rfl) ?_
    refine lv_lload_n hx hb dX0_timesUp_20 rfl (lv_at hl 1 rfl) ?_
    refine zz_lmul hx hb dX0_timesUp_21 ?_
    refine zz_topl (z := ((a / b * f : Nat) : Int)) (congrArg zl (by push_cast; rfl)) ?_
    refine lv_aload_n hx hb dX0_timesUp_22 rfl (lv_at hl 0 rfl) ?_
    refine va_get (D := (dC, dI)) (ci := 0) (v := .long (zl ((a : Int)))) (C := RX0) (T := TX0) (N := 2) hx hb hg inX0 hown hK hP 0 rfl rfl 0 (by decide) (hg _ wl_X0_15) (fun _ h9 => h9) rfl dX0_timesUp_23 ?_
    refine lv_aload_n hx hb dX0_timesUp_26 rfl (lv_at hl 0 rfl) ?_
    refine va_get (D := (dC, dI)) (ci := 0) (v := .long (zl ((b : Int)))) (C := RX0) (T := TX0) (N := 2) hx hb hg inX0 hown hK hP 0 rfl rfl 1 (by decide) (hg _ wl_X0_9) (fun _ h9 => h9) rfl dX0_timesUp_27 ?_
    refine zz_lrem hx hb (by omega) (by omega) dX0_timesUp_30 ?_
    refine zz_topl (z := ((a % b : Nat) : Int)) (congrArg zl (ma_tmod a b)) ?_
    refine lv_lload_n hx hb dX0_timesUp_31 rfl (lv_at hl 1 rfl) ?_
    refine zz_lmul hx hb dX0_timesUp_32 ?_
    refine zz_topl (z := ((a % b * f : Nat) : Int)) (congrArg zl (by push_cast; rfl)) ?_
    refine lv_aload_n hx hb dX0_timesUp_33 rfl (lv_at hl 0 rfl) ?_
    refine va_get (D := (dC, dI)) (ci := 0) (v := .long (zl ((b : Int)))) (C := RX0) (T := TX0) (N := 2) hx hb hg inX0 hown hK hP 0 rfl rfl 1 (by decide) (hg _ wl_X0_9) (fun _ h9 => h9) rfl dX0_timesUp_34 ?_
    refine zz_ladd hx hb dX0_timesUp_37 ?_
    refine lv_lconst (v := zl (1)) hx hb dX0_timesUp_38 (by decide) ?_
    refine zz_lsub hx hb dX0_timesUp_39 ?_
    refine zz_topl (z := ((a % b * f + b - 1 : Nat) : Int)) (congrArg zl (by omega)) ?_
    refine lv_aload_n hx hb dX0_timesUp_40 rfl (lv_at hl 0 rfl) ?_
    refine va_get (D := (dC, dI)) (ci := 0) (v := .long (zl ((b : Int)))) (C := RX0) (T := TX0) (N := 2) hx hb hg inX0 hown hK hP 0 rfl rfl 1 (by decide) (hg _ wl_X0_9) (fun _ h9 => h9) rfl dX0_timesUp_41 ?_
    refine zz_ldiv hx hb (by omega) (by omega) dX0_timesUp_44 ?_
    refine zz_topl (z := (((a % b * f + b - 1) / b : Nat) : Int)) (congrArg zl rfl) ?_
    refine zz_ladd hx hb dX0_timesUp_45 ?_
    refine zz_topl (z := ((a / b * f + (a % b * f + b - 1) / b : Nat) : Int)) (congrArg zl (by push_cast; rfl)) ?_
    rw [hQQ]
    exact rd_l hx hb hr hlocks (by rw [ma_tu a b f hb0]) dX0_timesUp_46
  · exact absurd c_5 (by omega)

abbrev rm_X0_circledDown : Room := { frames := 1, cells := 0, slots := 0, locals := 22 }
set_option maxHeartbeats 4000000 in
set_option maxRecDepth 100000 in
theorem c_X0_circledDown (l : Launch) (dC : Nat → ClassId) (dI : Nat → Nat → Nat) (h0 : Nat) (a b : Nat) (hb0 : 0 < b) (hb9 : b < 29000000000) (hv : a ≤ 20000000 * b) : Met l yX0_circledDown (Cond.code yX0_circledDown cX0_circledDown 1 ((Option.some Jvm.ClassFile.FieldType.long)) :: gw) rm_X0_circledDown (PcR [.ref h0] (dC, dI) vwCl [(h0, .inr (0, [.long (zl ((a : Int))), .long (zl ((b : Int)))]))] []) (RdQ (some (.long (zl ((a * 314159265 / b / 100000000 : Nat) : Int))))) 0 0 (fun _ => False) := by
  refine Met.ofW (cc := cX0_circledDown) (maxL := 1) (ret := ((Option.some Jvm.ClassFile.FieldType.long))) (by decide) rfl ?_
  intro p e s m args below meth c s₁ B hml hv
  obtain ⟨hargs, hP, hK⟩ := hv
  have hx := B.exec
  have hb := B.bytes
  have hr := B.returns
  have hts := atoms_spec (ws := Cond.code yX0_circledDown cX0_circledDown 1 ((Option.some Jvm.ClassFile.FieldType.long)) :: gw) B.pre
  have hg : ∀ w ∈ gw, w.before args s = true := fun w h => hts w (List.mem_cons_of_mem _ h)
  have hown : s.vm.findClass RX0 = some m.cls := findClass_of_methodNamed B.named
  have hlocks := B.notSynchronized
  show W p l e rm_X0_circledDown s m args below meth c s.heap [] 0 0 _ _
  have hl := lv_entry ([.ref h0]) (n := 1) (Nat.le_of_ble_eq_true rfl)
  rw [show entryFrame m args 1 = entryFrame m ([.ref h0] : List Value).toArray 1 by rw [hargs], lg_entry_eq]
  generalize (lg_sl ([.ref h0]) ++ List.replicate (1 - (lg_sl ([.ref h0])).length) Slot.unset).toArray = ls at hl ⊢
  have hl : lv_has ls 1 [(0, .ref h0)] := hl
  obtain ⟨QQ, hQQ⟩ : ∃ Q, Q = MQ below (RdQ (some (.long (zl ((a * 314159265 / b / 100000000 : Nat) : Int))))) args s 0 0 (fun _ => False) := ⟨_, rfl⟩
  rw [← hQQ]
  have hm := Nat.mod_lt a hb0
  have hq : a * 314159265 / b ≤ 6283185300000000 := by
    apply Nat.div_le_of_le_mul
    omega
  have hq2 : (a * 314159266 + b - 1) / b ≤ 6283185320000001 := by
    apply Nat.div_le_of_le_mul
    omega
  refine lv_aload_n hx hb dX0_circledDown_0 rfl (lv_at hl 0 rfl) ?_
  refine lv_ldc2 (v := 314159265) hx hb hown (hg _ wl_X0_25) dX0_circledDown_1 ?_
  refine zz_topl (z := 314159265) (by decide) ?_
  refine rdV (As := [.long (zl (314159265))]) (rest := []) (n := 1) hx hb hml hown hg (c_X0_timesDown l dC dI h0 a b 314159265 hb0 (by omega) (by omega) (by omega)) (gwV wl_X0_27 wm_X0_timesDown we_X0_timesDown wi_X0 wc_X0_timesDown) rfl rfl (by decide +kernel) ⟨Nat.le_of_ble_eq_true rfl, Nat.le_of_ble_eq_true rfl⟩ (hK.sub [] rfl) (hP.sub [0] rfl) 0 rfl rfl rfl rfl hl.1 rfl (Nat.le_of_ble_eq_true rfl) dX0_circledDown_4 ⟨Nat.zero_le _, Nat.zero_le _⟩ ?_
  refine lv_ldc2 (v := 100000000) hx hb hown (hg _ wl_X0_31) dX0_circledDown_7 ?_
  refine zz_topl (z := 100000000) (by decide) ?_
  refine zz_ldiv hx hb (zn_bd (by omega)) (by omega) dX0_circledDown_10 ?_
  refine zz_topl (z := ((a * 314159265 / b / 100000000 : Nat) : Int)) (congrArg zl rfl) ?_
  rw [hQQ]
  exact rd_l hx hb hr hlocks rfl dX0_circledDown_11

abbrev rm_X0_circledUp : Room := { frames := 1, cells := 0, slots := 0, locals := 22 }
set_option maxHeartbeats 4000000 in
set_option maxRecDepth 100000 in
theorem c_X0_circledUp (l : Launch) (dC : Nat → ClassId) (dI : Nat → Nat → Nat) (h0 : Nat) (a b : Nat) (hb0 : 0 < b) (hb9 : b < 29000000000) (hv : a ≤ 20000000 * b) : Met l yX0_circledUp (Cond.code yX0_circledUp cX0_circledUp 1 ((Option.some Jvm.ClassFile.FieldType.long)) :: gw) rm_X0_circledUp (PcR [.ref h0] (dC, dI) vwCl [(h0, .inr (0, [.long (zl ((a : Int))), .long (zl ((b : Int)))]))] []) (RdQ (some (.long (zl ((((a * 314159266 + b - 1) / b + 99999999) / 100000000 : Nat) : Int))))) 0 0 (fun _ => False) := by
  refine Met.ofW (cc := cX0_circledUp) (maxL := 1) (ret := ((Option.some Jvm.ClassFile.FieldType.long))) (by decide) rfl ?_
  intro p e s m args below meth c s₁ B hml hv
  obtain ⟨hargs, hP, hK⟩ := hv
  have hx := B.exec
  have hb := B.bytes
  have hr := B.returns
  have hts := atoms_spec (ws := Cond.code yX0_circledUp cX0_circledUp 1 ((Option.some Jvm.ClassFile.FieldType.long)) :: gw) B.pre
  have hg : ∀ w ∈ gw, w.before args s = true := fun w h => hts w (List.mem_cons_of_mem _ h)
  have hown : s.vm.findClass RX0 = some m.cls := findClass_of_methodNamed B.named
  have hlocks := B.notSynchronized
  show W p l e rm_X0_circledUp s m args below meth c s.heap [] 0 0 _ _
  have hl := lv_entry ([.ref h0]) (n := 1) (Nat.le_of_ble_eq_true rfl)
  rw [show entryFrame m args 1 = entryFrame m ([.ref h0] : List Value).toArray 1 by rw [hargs], lg_entry_eq]
  generalize (lg_sl ([.ref h0]) ++ List.replicate (1 - (lg_sl ([.ref h0])).length) Slot.unset).toArray = ls at hl ⊢
  have hl : lv_has ls 1 [(0, .ref h0)] := hl
  obtain ⟨QQ, hQQ⟩ : ∃ Q, Q = MQ below (RdQ (some (.long (zl ((((a * 314159266 + b - 1) / b + 99999999) / 100000000 : Nat) : Int))))) args s 0 0 (fun _ => False) := ⟨_, rfl⟩
  rw [← hQQ]
  have hm := Nat.mod_lt a hb0
  have hq : a * 314159265 / b ≤ 6283185300000000 := by
    apply Nat.div_le_of_le_mul
    omega
  have hq2 : (a * 314159266 + b - 1) / b ≤ 6283185320000001 := by
    apply Nat.div_le_of_le_mul
    omega
  refine lv_aload_n hx hb dX0_circledUp_0 rfl (lv_at hl 0 rfl) ?_
  refine lv_ldc2 (v := 314159266) hx hb hown (hg _ wl_X0_33) dX0_circledUp_1 ?_
  refine zz_topl (z := 314159266) (by decide) ?_
  refine rdV (As := [.long (zl (314159266))]) (rest := []) (n := 1) hx hb hml hown hg (c_X0_timesUp l dC dI h0 a b 314159266 hb0 (by omega) (by omega) (by omega)) (gwV wl_X0_35 wm_X0_timesUp we_X0_timesUp wi_X0 wc_X0_timesUp) rfl rfl (by decide +kernel) ⟨Nat.le_of_ble_eq_true rfl, Nat.le_of_ble_eq_true rfl⟩ (hK.sub [] rfl) (hP.sub [0] rfl) 0 rfl rfl rfl rfl hl.1 rfl (Nat.le_of_ble_eq_true rfl) dX0_circledUp_4 ⟨Nat.zero_le _, Nat.zero_le _⟩ ?_
  refine lv_ldc2 (v := 100000000) hx hb hown (hg _ wl_X0_31) dX0_circledUp_7 ?_
  refine zz_topl (z := 100000000) (by decide) ?_
  refine zz_ladd hx hb dX0_circledUp_10 ?_
  refine lv_lconst (v := zl (1)) hx hb dX0_circledUp_11 (by decide) ?_
  refine zz_lsub hx hb dX0_circledUp_12 ?_
  refine zz_topl (z := (((a * 314159266 + b - 1) / b + 99999999 : Nat) : Int)) (congrArg zl (by omega)) ?_
  refine lv_ldc2 (v := 100000000) hx hb hown (hg _ wl_X0_31) dX0_circledUp_13 ?_
  refine zz_topl (z := 100000000) (by decide) ?_
  refine zz_ldiv hx hb (zn_bd (by omega)) (by omega) dX0_circledUp_16 ?_
  refine zz_topl (z := ((((a * 314159266 + b - 1) / b + 99999999) / 100000000 : Nat) : Int)) (congrArg zl rfl) ?_
  rw [hQQ]
  exact rd_l hx hb hr hlocks rfl dX0_circledUp_17
