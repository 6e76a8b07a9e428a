theorem c_sq_neg (a b c d : Int) : c_sq (a - b) (c - d) = c_sq (b - a) (d - c) := by
  unfold c_sq
  rw [← Int.neg_sub b a, ← Int.neg_sub d c, Int.neg_mul_neg, Int.neg_mul_neg]
theorem m_prd (xs ys : Nat → Int) (m l : Nat) : c_sq (xs 0 - xs m) (ys 0 - ys m) * c_sq (xs m - xs l) (ys m - ys l) * c_sq (xs 0 - xs l) (ys 0 - ys l) = c_prd xs ys m l := by
  unfold c_prd
  rw [show xs l - xs 0 - (xs m - xs 0) = xs l - xs m by omega, show ys l - ys 0 - (ys m - ys 0) = ys l - ys m by omega, c_sq_neg (xs 0) (xs m), c_sq_neg (xs 0) (xs l), c_sq_neg (xs m) (xs l), Int.mul_right_comm]
theorem m_crs (xs ys : Nat → Int) (m l : Nat) : (xs m - xs 0) * (ys l - ys 0) - (xs l - xs 0) * (ys m - ys 0) = c_crs xs ys m l := by
  unfold c_crs
  rw [Int.mul_comm (xs l - xs 0)]
theorem fr_add01 {u q : Nat} (hq : 0 < q) : fr_add (0, 1) u q = (u / Nat.gcd u q, q / Nat.gcd u q) := by
  have hg : 0 < Nat.gcd u q := Nat.gcd_pos_of_pos_right u hq
  unfold fr_add fr_n fr_d
  simp only [Nat.zero_mul, Nat.zero_add, Nat.mul_one, Nat.one_mul]
  rw [Nat.gcd_div (Nat.gcd_dvd_left u q) (Nat.gcd_dvd_right u q), Nat.div_self hg, Nat.div_one, Nat.div_one]
theorem r_rt_dn {v b : Nat} (h : v < 2 ^ b * 2 ^ b) : r_rt v (b + 1) 0 = r_rt v b 0 := by
  rw [r_rt, if_neg (by rw [Nat.zero_add]; omega)]
theorem r_rt_31 {v : Nat} (h : v < 18014398509481984) : r_rt v 31 0 = r_rt v 27 0 := by
  rw [r_rt_dn (b := 30) (by omega), r_rt_dn (b := 29) (by omega), r_rt_dn (b := 28) (by omega), r_rt_dn (b := 27) (by omega)]
theorem c_cir_v {xs ys : Nat → Int} (hX : ∀ j, -200 ≤ xs j ∧ xs j ≤ 200) (hY : ∀ j, -200 ≤ ys j ∧ ys j ≤ 200) (n : Nat) : (c_cir xs ys n).1 / (c_cir xs ys n).2 < 18014398509481984 := by
  unfold c_cir
  have hcb := c_crs_bd hX hY (n / 2) (n - 1)
  have hpb := c_prd_bd hX hY (n / 2) (n - 1)
  split
  · decide
  · rename_i h
    have h4 := c_4_bd hcb h
    generalize c_crs xs ys (n / 2) (n - 1) = z at *
    generalize c_prd xs ys (n / 2) (n - 1) = w at *
    have hz : 4 ≤ 4 * z * z := by
      have e : 4 * z * z = 4 * (z * z) := Int.mul_assoc 4 z z
      omega
    obtain ⟨u, hu⟩ : ∃ u, u = w.toNat := ⟨_, rfl⟩
    obtain ⟨q, hq⟩ : ∃ q, q = (4 * z * z).toNat := ⟨_, rfl⟩
    rw [← hu, ← hq, fr_add01 (by omega)]
    show u / Nat.gcd u q / (q / Nat.gcd u q) < _
    have hg : 0 < Nat.gcd u q := Nat.gcd_pos_of_pos_right u (by omega)
    have e1 : u / Nat.gcd u q / (q / Nat.gcd u q) = u / q := by
      rw [Nat.div_div_eq_div_mul, Nat.mul_div_cancel' (Nat.gcd_dvd_right u q)]
    rw [e1]
    have h5 : u / q ≤ u / 4 := Nat.div_le_div_left (by omega) (by decide)
    omega
theorem m_bit {b : Nat} (h : 1 ≤ b) : 2 ^ b / 2 = 2 ^ (b - 1) ∧ 2 ^ b / 2 / 2 = 2 ^ (b - 1) / 2 ∧ 2 ^ b = 2 * 2 ^ (b - 1) ∧ 0 < 2 ^ (b - 1) := by
  obtain ⟨c, rfl⟩ : ∃ c, b = c + 1 := ⟨b - 1, by omega⟩
  rw [Nat.add_sub_cancel, Nat.pow_succ]
  have : 0 < 2 ^ c := Nat.pow_pos (by decide)
  omega
abbrev rm_X3_apart : Room := { frames := 0, cells := 0, slots := 0, locals := 0 }
set_option maxHeartbeats 4000000 in
set_option maxRecDepth 100000 in
theorem c_X3_apart (l : Launch) (dC : Nat → ClassId) (dI : Nat → Nat → Nat) (m0 a1 a2 a3 a4 a5 a6 a7 a8 a9 a10 a11 : Nat) (tw ab be : Int) (mp mb ml mz : Nat) (cA : ClassId) (xs ys : Nat → Int) (i k : Nat) (hX : ∀ j, -200 ≤ xs j ∧ xs j ≤ 200) (hY : ∀ j, -200 ≤ ys j ∧ ys j ≤ 200) (hi : i < 20) (hk : k < 20) : Met l yX3_apart (Cond.code yX3_apart cX3_apart 7 ((Option.some Jvm.ClassFile.FieldType.long)) :: gw) rm_X3_apart (PcR [.ref m0, .int (zi ((i : Int))), .int (zi ((k : Int)))] (dC, dI) vwCl [(m0, .inr (3, [.int (zi (tw)), .int (zi ((mp : Int))), .ref a1, .ref a2, .ref a3, .ref a4, .ref a5, .ref a6, .int (zi ((mb : Int))), .ref a7, .ref a8, .int (zi ((ml : Int))), .ref a9, .ref a10, .int (zi ((mz : Int))), .ref a11, .long (zl (ab)), .long (zl (be))])), (a7, .inl (cA, 20, .inl (zA (xs)))), (a8, .inl (cA, 20, .inl (zA (ys))))] [(cA, .int)]) (RdQ (some (.long (zl (c_sq (xs i - xs k) (ys i - ys k)))))) 0 0 (fun _ => False) := by
  refine Met.ofW (cc := cX3_apart) (maxL := 7) (ret := ((Option.some Jvm.ClassFile.FieldType.long))) (by decide) rfl ?_
  intro p e s m args below meth c s₁ B hml hv
  obtain ⟨hargs, hP, hK⟩ := hv
  have hx := B.exec
  have hb := B.bytes
  have hr := B.returns
  have hts := atoms_spec (ws := Cond.code yX3_apart cX3_apart 7 ((Option.some Jvm.ClassFile.FieldType.long)) :: gw) B.pre
  have hg : ∀ w ∈ gw, w.before args s = true := fun w h => hts w (List.mem_cons_of_mem _ h)
  have hown : s.vm.findClass RX3 = some m.cls := findClass_of_methodNamed B.named
  have hlocks := B.notSynchronized
  show W p l e rm_X3_apart s m args below meth c s.heap [] 0 0 _ _
  have hl := lv_entry ([.ref m0, .int (zi ((i : Int))), .int (zi ((k : Int)))]) (n := 7) (Nat.le_of_ble_eq_true rfl)
  rw [show entryFrame m args 7 = entryFrame m ([.ref m0, .int (zi ((i : Int))), .int (zi ((k : Int)))] : List Value).toArray 7 by rw [hargs], lg_entry_eq]
  generalize (lg_sl ([.ref m0, .int (zi ((i : Int))), .int (zi ((k : Int)))]) ++ List.replicate (7 - (lg_sl ([.ref m0, .int (zi ((i : Int))), .int (zi ((k : Int)))])).length) Slot.unset).toArray = ls at hl ⊢
  have hl : lv_has ls 7 [(0, .ref m0), (1, .int (zi ((i : Int)))), (2, .int (zi ((k : Int))))] := hl
  obtain ⟨QQ, hQQ⟩ : ∃ Q, Q = MQ below (RdQ (some (.long (zl (c_sq (xs i - xs k) (ys i - ys k)))))) args s 0 0 (fun _ => False) := ⟨_, rfl⟩
  rw [← hQQ]
  refine lv_aload_n hx hb dX3_apart_0 rfl (lv_at hl 0 rfl) ?_
  refine va_get (D := (dC, dI)) (ci := 3) (v := .ref a7) (C := RX3) (T := TX3) (N := 18) hx hb hg inX3 hown hK hP 0 rfl rfl 9 (by decide) (hg _ wl_X3_29) (fun _ h9 => h9) rfl dX3_apart_1 ?_
  refine lv_iload_n hx hb dX3_apart_4 rfl (lv_at hl 1 rfl) ?_
  refine zz_iald hx hb hK hP 1 0 rfl rfl (i) (by omega) (by omega) (by decide) dX3_apart_5 ?_
  have hv_1 := hX (i)
  refine lv_aload_n hx hb dX3_apart_6 rfl (lv_at hl 0 rfl) ?_
  refine va_get (D := (dC, dI)) (ci := 3) (v := .ref a7) (C := RX3) (T := TX3) (N := 18) hx hb hg inX3 hown hK hP 0 rfl rfl 9 (by decide) (hg _ wl_X3_29) (fun _ h9 => h9) rfl dX3_apart_7 ?_
  refine lv_iload_n hx hb dX3_apart_10 rfl (lv_at hl 2 rfl) ?_
  refine zz_iald hx hb hK hP 1 0 rfl rfl (k) (by omega) (by omega) (by decide) dX3_apart_11 ?_
  have hv_2 := hX (k)
  refine zz_isub hx hb dX3_apart_12 ?_
  refine zz_i2l hx hb (by omega) dX3_apart_13 ?_
  refine lv_lstore_n (lv' := [(3, .long (zl ((xs (i)) - (xs (k))))), (0, .ref m0), (1, .int (zi ((i : Int)))), (2, .int (zi ((k : Int))))]) hx hb dX3_apart_14 rfl hl (by decide) rfl (fun ls hl => ?_)
  refine lv_aload_n hx hb dX3_apart_15 rfl (lv_at hl 1 rfl) ?_
  refine va_get (D := (dC, dI)) (ci := 3) (v := .ref a8) (C := RX3) (T := TX3) (N := 18) hx hb hg inX3 hown hK hP 0 rfl rfl 10 (by decide) (hg _ wl_X3_32) (fun _ h9 => h9) rfl dX3_apart_16 ?_
  refine lv_iload_n hx hb dX3_apart_19 rfl (lv_at hl 2 rfl) ?_
  refine zz_iald hx hb hK hP 2 0 rfl rfl (i) (by omega) (by omega) (by decide) dX3_apart_20 ?_
  have hv_3 := hY (i)
  refine lv_aload_n hx hb dX3_apart_21 rfl (lv_at hl 1 rfl) ?_
  refine va_get (D := (dC, dI)) (ci := 3) (v := .ref a8) (C := RX3) (T := TX3) (N := 18) hx hb hg inX3 hown hK hP 0 rfl rfl 10 (by decide) (hg _ wl_X3_32) (fun _ h9 => h9) rfl dX3_apart_22 ?_
  refine lv_iload_n hx hb dX3_apart_25 rfl (lv_at hl 3 rfl) ?_
  refine zz_iald hx hb hK hP 2 0 rfl rfl (k) (by omega) (by omega) (by decide) dX3_apart_26 ?_
  have hv_4 := hY (k)
  refine zz_isub hx hb dX3_apart_27 ?_
  refine zz_i2l hx hb (by omega) dX3_apart_28 ?_
  refine lv_lstore (lv' := [(5, .long (zl ((ys (i)) - (ys (k))))), (3, .long (zl ((xs (i)) - (xs (k))))), (0, .ref m0), (1, .int (zi ((i : Int)))), (2, .int (zi ((k : Int))))]) hx hb dX3_apart_29 hl (by decide) rfl (fun ls hl => ?_)
  refine lv_lload_n hx hb dX3_apart_31 rfl (lv_at hl 1 rfl) ?_
  refine lv_lload_n hx hb dX3_apart_32 rfl (lv_at hl 1 rfl) ?_
  refine zz_lmul hx hb dX3_apart_33 ?_
  refine lv_lload hx hb dX3_apart_34 (lv_at hl 0 rfl) ?_
  refine lv_lload hx hb dX3_apart_36 (lv_at hl 0 rfl) ?_
  refine zz_lmul hx hb dX3_apart_38 ?_
  refine zz_ladd hx hb dX3_apart_39 ?_
  rw [hQQ]
  exact rd_l hx hb hr hlocks rfl dX3_apart_40

abbrev rm_X3_round : Room := { frames := 2, cells := 0, slots := 0, locals := 51 }
set_option maxHeartbeats 4000000 in
set_option maxRecDepth 100000 in
theorem c_X3_round (l : Launch) (dC : Nat → ClassId) (dI : Nat → Nat → Nat) (sz : Nat) (m0 a1 a2 a3 a4 a5 a6 a7 a8 a9 a10 a11 : Nat) (tw ab be : Int) (mp mb ml mz : Nat) (cA : ClassId) (xs ys : Nat → Int) (hl3 : 3 ≤ ml ∧ ml ≤ 20) (hX : ∀ j, -200 ≤ xs j ∧ xs j ≤ 200) (hY : ∀ j, -200 ≤ ys j ∧ ys j ≤ 200) : Met l yX3_round (Cond.code yX3_round cX3_round 6 ((Option.none : Option Jvm.ClassFile.FieldType)) :: gw) rm_X3_round (PcW [.ref m0] (dC, dI) vwCl [(m0, .inr (3, [.int (zi (tw)), .int (zi ((mp : Int))), .ref a1, .ref a2, .ref a3, .ref a4, .ref a5, .ref a6, .int (zi ((mb : Int))), .ref a7, .ref a8, .int (zi ((ml : Int))), .ref a9, .ref a10, .int (zi ((mz : Int))), .ref a11, .long (zl (ab)), .long (zl (be))])), (a7, .inl (cA, 20, .inl (zA (xs)))), (a8, .inl (cA, 20, .inl (zA (ys))))] [(cA, .int)] sz) (WrQ (none) (dC, dI) vwCl [(m0, .inr (3, [.int (zi (tw)), .int (zi ((mp : Int))), .ref a1, .ref a2, .ref a3, .ref a4, .ref a5, .ref a6, .int (zi ((mb : Int))), .ref a7, .ref a8, .int (zi ((ml : Int))), .ref a9, .ref a10, .int (zi ((mz : Int))), .ref a11, .long (zl ((((c_cir xs ys ml).1 : Nat) : Int))), .long (zl ((((c_cir xs ys ml).2 : Nat) : Int)))])), (a7, .inl (cA, 20, .inl (zA (xs)))), (a8, .inl (cA, 20, .inl (zA (ys))))] (va_A [(m0, .inr (3, [.int (zi (tw)), .int (zi ((mp : Int))), .ref a1, .ref a2, .ref a3, .ref a4, .ref a5, .ref a6, .int (zi ((mb : Int))), .ref a7, .ref a8, .int (zi ((ml : Int))), .ref a9, .ref a10, .int (zi ((mz : Int))), .ref a11, .long (zl (ab)), .long (zl (be))])), (a7, .inl (cA, 20, .inl (zA (xs)))), (a8, .inl (cA, 20, .inl (zA (ys))))] sz)) 0 0 (va_A [(m0, .inr (3, [.int (zi (tw)), .int (zi ((mp : Int))), .ref a1, .ref a2, .ref a3, .ref a4, .ref a5, .ref a6, .int (zi ((mb : Int))), .ref a7, .ref a8, .int (zi ((ml : Int))), .ref a9, .ref a10, .int (zi ((mz : Int))), .ref a11, .long (zl (ab)), .long (zl (be))])), (a7, .inl (cA, 20, .inl (zA (xs)))), (a8, .inl (cA, 20, .inl (zA (ys))))] sz) := by
  refine Met.ofW (cc := cX3_round) (maxL := 6) (ret := ((Option.none : Option Jvm.ClassFile.FieldType))) (by decide) rfl ?_
  intro p e s m args below meth c s₁ B hml hv
  obtain ⟨hargs, hsz, hP, hK, hD0⟩ := hv
  have hx := B.exec
  have hb := B.bytes
  have hr := B.returns
  have hts := atoms_spec (ws := Cond.code yX3_round cX3_round 6 ((Option.none : Option Jvm.ClassFile.FieldType)) :: gw) B.pre
  have hg : ∀ w ∈ gw, w.before args s = true := fun w h => hts w (List.mem_cons_of_mem _ h)
  have hown : s.vm.findClass RX3 = some m.cls := findClass_of_methodNamed B.named
  have hlocks := B.notSynchronized
  subst hsz
  have hD := hD0.self (sz := s.heap.size)
  generalize hAe : va_A [(m0, .inr (3, [.int (zi (tw)), .int (zi ((mp : Int))), .ref a1, .ref a2, .ref a3, .ref a4, .ref a5, .ref a6, .int (zi ((mb : Int))), .ref a7, .ref a8, .int (zi ((ml : Int))), .ref a9, .ref a10, .int (zi ((mz : Int))), .ref a11, .long (zl (ab)), .long (zl (be))])), (a7, .inl (cA, 20, .inl (zA (xs)))), (a8, .inl (cA, 20, .inl (zA (ys))))] s.heap.size = A at hD ⊢
  have hA : ∀ q : Nat, s.heap.size ≤ q → A q := fun q h => by rw [← hAe]; exact Or.inr h
  show W p l e rm_X3_round s m args below meth c s.heap [] 0 0 _ _
  have hl := lv_entry ([.ref m0]) (n := 6) (Nat.le_of_ble_eq_true rfl)
  rw [show entryFrame m args 6 = entryFrame m ([.ref m0] : List Value).toArray 6 by rw [hargs], lg_entry_eq]
  generalize (lg_sl ([.ref m0]) ++ List.replicate (6 - (lg_sl ([.ref m0])).length) Slot.unset).toArray = ls at hl ⊢
  have hl : lv_has ls 6 [(0, .ref m0)] := hl
  obtain ⟨QQ, hQQ⟩ : ∃ Q, Q = MQ below (WrQ (none) (dC, dI) vwCl [(m0, .inr (3, [.int (zi (tw)), .int (zi ((mp : Int))), .ref a1, .ref a2, .ref a3, .ref a4, .ref a5, .ref a6, .int (zi ((mb : Int))), .ref a7, .ref a8, .int (zi ((ml : Int))), .ref a9, .ref a10, .int (zi ((mz : Int))), .ref a11, .long (zl ((((c_cir xs ys ml).1 : Nat) : Int))), .long (zl ((((c_cir xs ys ml).2 : Nat) : Int)))])), (a7, .inl (cA, 20, .inl (zA (xs)))), (a8, .inl (cA, 20, .inl (zA (ys))))] A) args s 0 0 A := ⟨_, rfl⟩
  rw [← hQQ]
  obtain ⟨H, hHe⟩ : ∃ H : Heap, H = s.heap := ⟨_, rfl⟩
  obtain ⟨locs, hlc⟩ : ∃ x : List Loc, x = [] := ⟨_, rfl⟩
  have hS : va_S A s.heap H locs := by rw [hHe, hlc]; exact va_S.rf
  have hP : va_P (dC, dI) vwCl [(m0, .inr (3, [.int (zi (tw)), .int (zi ((mp : Int))), .ref a1, .ref a2, .ref a3, .ref a4, .ref a5, .ref a6, .int (zi ((mb : Int))), .ref a7, .ref a8, .int (zi ((ml : Int))), .ref a9, .ref a10, .int (zi ((mz : Int))), .ref a11, .long (zl (ab)), .long (zl (be))])), (a7, .inl (cA, 20, .inl (zA (xs)))), (a8, .inl (cA, 20, .inl (zA (ys))))] H := by rw [hHe]; exact hP
  have hD : va_D A [(m0, .inr (3, [.int (zi (tw)), .int (zi ((mp : Int))), .ref a1, .ref a2, .ref a3, .ref a4, .ref a5, .ref a6, .int (zi ((mb : Int))), .ref a7, .ref a8, .int (zi ((ml : Int))), .ref a9, .ref a10, .int (zi ((mz : Int))), .ref a11, .long (zl (ab)), .long (zl (be))])), (a7, .inl (cA, 20, .inl (zA (xs)))), (a8, .inl (cA, 20, .inl (zA (ys))))] := hD
  rw [← hHe, ← hlc]
  have hcb := c_crs_bd hX hY (ml / 2) (ml - 1)
  have hpb := c_prd_bd hX hY (ml / 2) (ml - 1)
  refine lv_iconst (v := zi (0)) hx hb dX3_round_0 rfl ?_
  refine zz_topi (z := ((0 : Nat) : Int)) (congrArg zi rfl) ?_
  refine lv_istore_n (lv' := [(1, .int (zi (((0 : Nat) : Int)))), (0, .ref m0)]) hx hb dX3_round_1 rfl hl (by decide) rfl (fun ls hl => ?_)
  refine lv_aload_n hx hb dX3_round_2 rfl (lv_at hl 1 rfl) ?_
  refine va_get (D := (dC, dI)) (ci := 3) (v := .int (zi ((ml : Int)))) (C := RX3) (T := TX3) (N := 18) hx hb hg inX3 hown hK hP 0 rfl rfl 11 (by decide) (hg _ wl_X3_139) (fun _ h9 => h9) rfl dX3_round_3 ?_
  refine lv_iconst (v := zi (2)) hx hb dX3_round_6 rfl ?_
  refine zz_idiv hx hb (by omega) (by omega) dX3_round_7 ?_
  refine zz_topi (z := ((ml / 2 : Nat) : Int)) (congrArg zi rfl) ?_
  refine lv_istore_n (lv' := [(2, .int (zi (((ml / 2 : Nat) : Int)))), (1, .int (zi (((0 : Nat) : Int)))), (0, .ref m0)]) hx hb dX3_round_8 rfl hl (by decide) rfl (fun ls hl => ?_)
  refine lv_aload_n hx hb dX3_round_9 rfl (lv_at hl 2 rfl) ?_
  refine va_get (D := (dC, dI)) (ci := 3) (v := .int (zi ((ml : Int)))) (C := RX3) (T := TX3) (N := 18) hx hb hg inX3 hown hK hP 0 rfl rfl 11 (by decide) (hg _ wl_X3_139) (fun _ h9 => h9) rfl dX3_round_10 ?_
  refine lv_iconst (v := zi (1)) hx hb dX3_round_13 rfl ?_
  refine zz_isub hx hb dX3_round_14 ?_
  refine zz_topi (z := ((ml - 1 : Nat) : Int)) (congrArg zi (by omega)) ?_
  refine lv_istore_n (lv' := [(3, .int (zi (((ml - 1 : Nat) : Int)))), (2, .int (zi (((ml / 2 : Nat) : Int)))), (1, .int (zi (((0 : Nat) : Int)))), (0, .ref m0)]) hx hb dX3_round_15 rfl hl (by decide) rfl (fun ls hl => ?_)
  refine lv_aload_n hx hb dX3_round_16 rfl (lv_at hl 3 rfl) ?_
  refine va_get (D := (dC, dI)) (ci := 3) (v := .ref a7) (C := RX3) (T := TX3) (N := 18) hx hb hg inX3 hown hK hP 0 rfl rfl 9 (by decide) (hg _ wl_X3_29) (fun _ h9 => h9) rfl dX3_round_17 ?_
  refine lv_iload_n hx hb dX3_round_20 rfl (lv_at hl 1 rfl) ?_
  refine zz_iald hx hb hK hP 1 0 rfl rfl (ml / 2) (by omega) (by omega) (by decide) dX3_round_21 ?_
  have hv_1 := hX (ml / 2)
  refine lv_aload_n hx hb dX3_round_22 rfl (lv_at hl 3 rfl) ?_
  refine va_get (D := (dC, dI)) (ci := 3) (v := .ref a7) (C := RX3) (T := TX3) (N := 18) hx hb hg inX3 hown hK hP 0 rfl rfl 9 (by decide) (hg _ wl_X3_29) (fun _ h9 => h9) rfl dX3_round_23 ?_
  refine lv_iload_n hx hb dX3_round_26 rfl (lv_at hl 2 rfl) ?_
  refine zz_iald hx hb hK hP 1 0 rfl rfl (0) (by omega) (by omega) (by decide) dX3_round_27 ?_
  have hv_2 := hX (0)
  refine zz_isub hx hb dX3_round_28 ?_
  refine zz_i2l hx hb (by omega) dX3_round_29 ?_
  refine lv_aload_n hx hb dX3_round_30 rfl (lv_at hl 3 rfl) ?_
  refine va_get (D := (dC, dI)) (ci := 3) (v := .ref a8) (C := RX3) (T := TX3) (N := 18) hx hb hg inX3 hown hK hP 0 rfl rfl 10 (by decide) (hg _ wl_X3_32) (fun _ h9 => h9) rfl dX3_round_31 ?_
  refine lv_iload_n hx hb dX3_round_34 rfl (lv_at hl 0 rfl) ?_
  refine zz_iald hx hb hK hP 2 0 rfl rfl (ml - 1) (by omega) (by omega) (by decide) dX3_round_35 ?_
  have hv_3 := hY (ml - 1)
  refine lv_aload_n hx hb dX3_round_36 rfl (lv_at hl 3 rfl) ?_
  refine va_get (D := (dC, dI)) (ci := 3) (v := .ref a8) (C := RX3) (T := TX3) (N := 18) hx hb hg inX3 hown hK hP 0 rfl rfl 10 (by decide) (hg _ wl_X3_32) (fun _ h9 => h9) rfl dX3_round_37 ?_
  refine lv_iload_n hx hb dX3_round_40 rfl (lv_at hl 2 rfl) ?_
  refine zz_iald hx hb hK hP 2 0 rfl rfl (0) (by omega) (by omega) (by decide) dX3_round_41 ?_
  have hv_4 := hY (0)
  refine zz_isub hx hb dX3_round_42 ?_
  refine zz_i2l hx hb (by omega) dX3_round_43 ?_
  refine zz_lmul hx hb dX3_round_44 ?_
  refine lv_aload_n hx hb dX3_round_45 rfl (lv_at hl 3 rfl) ?_
  refine va_get (D := (dC, dI)) (ci := 3) (v := .ref a7) (C := RX3) (T := TX3) (N := 18) hx hb hg inX3 hown hK hP 0 rfl rfl 9 (by decide) (hg _ wl_X3_29) (fun _ h9 => h9) rfl dX3_round_46 ?_
  refine lv_iload_n hx hb dX3_round_49 rfl (lv_at hl 0 rfl) ?_
  refine zz_iald hx hb hK hP 1 0 rfl rfl (ml - 1) (by omega) (by omega) (by decide) dX3_round_50 ?_
  have hv_5 := hX (ml - 1)
  refine lv_aload_n hx hb dX3_round_51 rfl (lv_at hl 3 rfl) ?_
  refine va_get (D := (dC, dI)) (ci := 3) (v := .ref a7) (C := RX3) (T := TX3) (N := 18) hx hb hg inX3 hown hK hP 0 rfl rfl 9 (by decide) (hg _ wl_X3_29) (fun _ h9 => h9) rfl dX3_round_52 ?_
  refine lv_iload_n hx hb dX3_round_55 rfl (lv_at hl 2 rfl) ?_
  refine zz_iald hx hb hK hP 1 0 rfl rfl (0) (by omega) (by omega) (by decide) dX3_round_56 ?_
  have hv_6 := hX (0)
  refine zz_isub hx hb dX3_round_57 ?_
  refine zz_i2l hx hb (by omega) dX3_round_58 ?_
  refine lv_aload_n hx hb dX3_round_59 rfl (lv_at hl 3 rfl) ?_
  refine va_get (D := (dC, dI)) (ci := 3) (v := .ref a8) (C := RX3) (T := TX3) (N := 18) hx hb hg inX3 hown hK hP 0 rfl rfl 10 (by decide) (hg _ wl_X3_32) (fun _ h9 => h9) rfl dX3_round_60 ?_
  refine lv_iload_n hx hb dX3_round_63 rfl (lv_at hl 1 rfl) ?_
  refine zz_iald hx hb hK hP 2 0 rfl rfl (ml / 2) (by omega) (by omega) (by decide) dX3_round_64 ?_
  have hv_7 := hY (ml / 2)
  refine lv_aload_n hx hb dX3_round_65 rfl (lv_at hl 3 rfl) ?_
  refine va_get (D := (dC, dI)) (ci := 3) (v := .ref a8) (C := RX3) (T := TX3) (N := 18) hx hb hg inX3 hown hK hP 0 rfl rfl 10 (by decide) (hg _ wl_X3_32) (fun _ h9 => h9) rfl dX3_round_66 ?_
  refine lv_iload_n hx hb dX3_round_69 rfl (lv_at hl 2 rfl) ?_
  refine zz_iald hx hb hK hP 2 0 rfl rfl (0) (by omega) (by omega) (by decide) dX3_round_70 ?_
  have hv_8 := hY (0)
  refine zz_isub hx hb dX3_round_71 ?_
  refine zz_i2l hx hb (by omega) dX3_round_72 ?_
  refine zz_lmul hx hb dX3_round_73 ?_
  refine zz_lsub hx hb dX3_round_74 ?_
  refine zz_topl (z := c_crs xs ys (ml / 2) (ml - 1)) (congrArg zl (m_crs _ _ _ _)) ?_
  refine lv_lstore (lv' := [(4, .long (zl (c_crs xs ys (ml / 2) (ml - 1)))), (3, .int (zi (((ml - 1 : Nat) : Int)))), (2, .int (zi (((ml / 2 : Nat) : Int)))), (1, .int (zi (((0 : Nat) : Int)))), (0, .ref m0)]) hx hb dX3_round_75 hl (by decide) rfl (fun ls hl => ?_)
  refine lv_aload_n hx hb dX3_round_77 rfl (lv_at hl 4 rfl) ?_
  refine lv_lload hx hb dX3_round_78 (lv_at hl 0 rfl) ?_
  refine lv_lconst (v := zl (0)) hx hb dX3_round_80 (by decide) ?_
  refine zz_lcmp_ne (tgt := 89) hx hb (by omega) (by omega) dX3_round_81 dX3_round_82 (by decide) (fun c_81 => ?_) (fun c_81 => ?_)
  · refine lv_aload_n hx hb dX3_round_89 rfl (lv_at hl 4 rfl) ?_
    refine lv_iload_n hx hb dX3_round_90 rfl (lv_at hl 3 rfl) ?_
    refine lv_iload_n hx hb dX3_round_91 rfl (lv_at hl 2 rfl) ?_
    refine rdV (As := [.int (zi (((0 : Nat) : Int))), .int (zi (((ml / 2 : Nat) : Int)))]) (rest := [.ref m0]) (n := 2) hx hb hml hown hg (c_X3_apart l dC dI m0 a1 a2 a3 a4 a5 a6 a7 a8 a9 a10 a11 (tw) (ab) (be) mp mb ml mz cA xs ys (0) (ml / 2) hX hY (by omega) (by omega)) (gwV wl_X3_142 wm_X3_apart we_X3_apart wi_X3 wc_X3_apart) rfl rfl (by decide +kernel) ⟨Nat.le_of_ble_eq_true rfl, Nat.le_of_ble_eq_true rfl⟩ (hK.sub [0] rfl) (hP.sub [0, 1, 2] rfl) 0 rfl rfl rfl rfl hl.1 rfl (Nat.le_of_ble_eq_true rfl) dX3_round_92 ⟨Nat.zero_le _, Nat.zero_le _⟩ ?_
    refine lv_aload_n hx hb dX3_round_95 rfl (lv_at hl 4 rfl) ?_
    refine lv_iload_n hx hb dX3_round_96 rfl (lv_at hl 2 rfl) ?_
    refine lv_iload_n hx hb dX3_round_97 rfl (lv_at hl 1 rfl) ?_
    refine rdV (As := [.int (zi (((ml / 2 : Nat) : Int))), .int (zi (((ml - 1 : Nat) : Int)))]) (rest := [.long (zl (c_sq (xs (0) - xs (ml / 2)) (ys (0) - ys (ml / 2)))), .ref m0]) (n := 2) hx hb hml hown hg (c_X3_apart l dC dI m0 a1 a2 a3 a4 a5 a6 a7 a8 a9 a10 a11 (tw) (ab) (be) mp mb ml mz cA xs ys (ml / 2) (ml - 1) hX hY (by omega) (by omega)) (gwV wl_X3_142 wm_X3_apart we_X3_apart wi_X3 wc_X3_apart) rfl rfl (by decide +kernel) ⟨Nat.le_of_ble_eq_true rfl, Nat.le_of_ble_eq_true rfl⟩ (hK.sub [0] rfl) (hP.sub [0, 1, 2] rfl) 0 rfl rfl rfl rfl hl.1 rfl (Nat.le_of_ble_eq_true rfl) dX3_round_98 ⟨Nat.zero_le _, Nat.zero_le _⟩ ?_
    refine zz_lmul hx hb dX3_round_101 ?_
    refine lv_aload_n hx hb dX3_round_102 rfl (lv_at hl 4 rfl) ?_
    refine lv_iload_n hx hb dX3_round_103 rfl (lv_at hl 3 rfl) ?_
    refine lv_iload_n hx hb dX3_round_104 rfl (lv_at hl 1 rfl) ?_
    refine rdV (As := [.int (zi (((0 : Nat) : Int))), .int (zi (((ml - 1 : Nat) : Int)))]) (rest := [.long (zl ((c_sq (xs (0) - xs (ml / 2)) (ys (0) - ys (ml / 2))) * (c_sq (xs (ml / 2) - xs (ml - 1)) (ys (ml / 2) - ys (ml - 1))))), .ref m0]) (n := 2) hx hb hml hown hg (c_X3_apart l dC dI m0 a1 a2 a3 a4 a5 a6 a7 a8 a9 a10 a11 (tw) (ab) (be) mp mb ml mz cA xs ys (0) (ml - 1) hX hY (by omega) (by omega)) (gwV wl_X3_142 wm_X3_apart we_X3_apart wi_X3 wc_X3_apart) rfl rfl (by decide +kernel) ⟨Nat.le_of_ble_eq_true rfl, Nat.le_of_ble_eq_true rfl⟩ (hK.sub [0] rfl) (hP.sub [0, 1, 2] rfl) 0 rfl rfl rfl rfl hl.1 rfl (Nat.le_of_ble_eq_true rfl) dX3_round_105 ⟨Nat.zero_le _, Nat.zero_le _⟩ ?_
    refine zz_lmul hx hb dX3_round_108 ?_
    refine zz_topl (z := ((c_prd xs ys (ml / 2) (ml - 1)).toNat : Int)) (congrArg zl ((m_prd xs ys _ _).trans (Int.toNat_of_nonneg hpb.1).symm)) ?_
    refine va_put (D := (dC, dI)) (ci := 3) (v := .long (zl (((c_prd xs ys (ml / 2) (ml - 1)).toNat : Int)))) (ty := .long) (C := RX3) (T := TX3) (N := 18) hx hb hg inX3 tyX3 tyX3_ok nmX3 hown hK hP hD hS 0 rfl rfl 16 (by decide) (hg _ wl_X3_84) (fun _ h9 => h9) rfl (by decide +kernel) rfl rfl (Nat.le_of_ble_eq_true rfl) dX3_round_109 (fun H locs hP hD hS => ?_)
    have hP : va_P (dC, dI) vwCl [(m0, .inr (3, [.int (zi (tw)), .int (zi ((mp : Int))), .ref a1, .ref a2, .ref a3, .ref a4, .ref a5, .ref a6, .int (zi ((mb : Int))), .ref a7, .ref a8, .int (zi ((ml : Int))), .ref a9, .ref a10, .int (zi ((mz : Int))), .ref a11, .long (zl (((c_prd xs ys (ml / 2) (ml - 1)).toNat : Int))), .long (zl (be))])), (a7, .inl (cA, 20, .inl (zA (xs)))), (a8, .inl (cA, 20, .inl (zA (ys))))] H := hP
    have hD : va_D A [(m0, .inr (3, [.int (zi (tw)), .int (zi ((mp : Int))), .ref a1, .ref a2, .ref a3, .ref a4, .ref a5, .ref a6, .int (zi ((mb : Int))), .ref a7, .ref a8, .int (zi ((ml : Int))), .ref a9, .ref a10, .int (zi ((mz : Int))), .ref a11, .long (zl (((c_prd xs ys (ml / 2) (ml - 1)).toNat : Int))), .long (zl (be))])), (a7, .inl (cA, 20, .inl (zA (xs)))), (a8, .inl (cA, 20, .inl (zA (ys))))] := hD
    refine lv_aload_n hx hb dX3_round_112 rfl (lv_at hl 4 rfl) ?_
    refine lv_lload hx hb dX3_round_113 (lv_at hl 0 rfl) ?_
    refine lv_lconst (v := zl (0)) hx hb dX3_round_115 (by decide) ?_
    refine zz_lcmp_ne (tgt := 124) hx hb (by omega) (by omega) dX3_round_116 dX3_round_117 (by decide) (fun c_116 => ?_) (fun c_116 => ?_)
    · refine lv_ldc2 (v := 4) hx hb hown (hg _ wl_X3_145) dX3_round_124 ?_
      refine zz_topl (z := 4) (by decide) ?_
      refine lv_lload hx hb dX3_round_127 (lv_at hl 0 rfl) ?_
      refine zz_lmul hx hb dX3_round_129 ?_
      refine lv_lload hx hb dX3_round_130 (lv_at hl 0 rfl) ?_
      refine zz_lmul hx hb dX3_round_132 ?_
      refine zz_topl (z := ((4 * c_crs xs ys (ml / 2) (ml - 1) * c_crs xs ys (ml / 2) (ml - 1)).toNat : Int)) (congrArg zl (Int.toNat_of_nonneg (by have := (c_4_bd hcb c_81).1; omega)).symm) ?_
      refine va_put (D := (dC, dI)) (ci := 3) (v := .long (zl (((4 * c_crs xs ys (ml / 2) (ml - 1) * c_crs xs ys (ml / 2) (ml - 1)).toNat : Int)))) (ty := .long) (C := RX3) (T := TX3) (N := 18) hx hb hg inX3 tyX3 tyX3_ok nmX3 hown hK hP hD hS 0 rfl rfl 17 (by decide) (hg _ wl_X3_44) (fun _ h9 => h9) rfl (by decide +kernel) rfl rfl (Nat.le_of_ble_eq_true rfl) dX3_round_133 (fun H locs hP hD hS => ?_)
      have hP : va_P (dC, dI) vwCl [(m0, .inr (3, [.int (zi (tw)), .int (zi ((mp : Int))), .ref a1, .ref a2, .ref a3, .ref a4, .ref a5, .ref a6, .int (zi ((mb : Int))), .ref a7, .ref a8, .int (zi ((ml : Int))), .ref a9, .ref a10, .int (zi ((mz : Int))), .ref a11, .long (zl (((c_prd xs ys (ml / 2) (ml - 1)).toNat : Int))), .long (zl (((4 * c_crs xs ys (ml / 2) (ml - 1) * c_crs xs ys (ml / 2) (ml - 1)).toNat : Int)))])), (a7, .inl (cA, 20, .inl (zA (xs)))), (a8, .inl (cA, 20, .inl (zA (ys))))] H := hP
      have hD : va_D A [(m0, .inr (3, [.int (zi (tw)), .int (zi ((mp : Int))), .ref a1, .ref a2, .ref a3, .ref a4, .ref a5, .ref a6, .int (zi ((mb : Int))), .ref a7, .ref a8, .int (zi ((ml : Int))), .ref a9, .ref a10, .int (zi ((mz : Int))), .ref a11, .long (zl (((c_prd xs ys (ml / 2) (ml - 1)).toNat : Int))), .long (zl (((4 * c_crs xs ys (ml / 2) (ml - 1) * c_crs xs ys (ml / 2) (ml - 1)).toNat : Int)))])), (a7, .inl (cA, 20, .inl (zA (xs)))), (a8, .inl (cA, 20, .inl (zA (ys))))] := hD
      refine lv_aload_n hx hb dX3_round_136 rfl (lv_at hl 4 rfl) ?_
      refine wrV (As := []) (rest := []) (n := 0) (ws' := [(m0, .inr (3, [.int (zi (tw)), .int (zi ((mp : Int))), .ref a1, .ref a2, .ref a3, .ref a4, .ref a5, .ref a6, .int (zi ((mb : Int))), .ref a7, .ref a8, .int (zi ((ml : Int))), .ref a9, .ref a10, .int (zi ((mz : Int))), .ref a11, .long (zl (((((c_prd xs ys (ml / 2) (ml - 1)).toNat) / Nat.gcd ((c_prd xs ys (ml / 2) (ml - 1)).toNat) ((4 * c_crs xs ys (ml / 2) (ml - 1) * c_crs xs ys (ml / 2) (ml - 1)).toNat) : Nat) : Int))), .long (zl (((((4 * c_crs xs ys (ml / 2) (ml - 1) * c_crs xs ys (ml / 2) (ml - 1)).toNat) / Nat.gcd ((c_prd xs ys (ml / 2) (ml - 1)).toNat) ((4 * c_crs xs ys (ml / 2) (ml - 1) * c_crs xs ys (ml / 2) (ml - 1)).toNat) : Nat) : Int)))])), (a7, .inl (cA, 20, .inl (zA (xs)))), (a8, .inl (cA, 20, .inl (zA (ys))))]) hx hb hml hown hg (c_X3_lessen l dC dI H.size m0 a1 a2 a3 a4 a5 a6 a7 a8 a9 a10 a11 (tw) ((c_prd xs ys (ml / 2) (ml - 1)).toNat) ((4 * c_crs xs ys (ml / 2) (ml - 1) * c_crs xs ys (ml / 2) (ml - 1)).toNat) mp mb ml mz (by have := c_4_bd hcb c_81; omega) (by omega) (by have := c_4_bd hcb c_81; omega)) (gwV wl_X3_91 wm_X3_lessen we_X3_lessen wi_X3 wc_X3_lessen) rfl rfl (by decide +kernel) ⟨Nat.le_of_ble_eq_true rfl, Nat.le_of_ble_eq_true rfl⟩ (hK.sub [] rfl) hP hD hS hA [0] rfl (by decide) [(true, 0), (false, 1), (false, 2)] rfl (by decide) rfl 0 rfl rfl rfl rfl hl.1 rfl (Nat.le_of_ble_eq_true rfl) dX3_round_137 ⟨Nat.zero_le _, Nat.zero_le _⟩ (fun H locs hP hD hS => ?_)
      have hP9 : va_P (dC, dI) vwCl [(m0, .inr (3, [.int (zi (tw)), .int (zi ((mp : Int))), .ref a1, .ref a2, .ref a3, .ref a4, .ref a5, .ref a6, .int (zi ((mb : Int))), .ref a7, .ref a8, .int (zi ((ml : Int))), .ref a9, .ref a10, .int (zi ((mz : Int))), .ref a11, .long (zl ((((c_cir xs ys ml).1 : Nat) : Int))), .long (zl ((((c_cir xs ys ml).2 : Nat) : Int)))])), (a7, .inl (cA, 20, .inl (zA (xs)))), (a8, .inl (cA, 20, .inl (zA (ys))))] H := by unfold c_cir; rw [if_neg c_81, fr_add01 (by have := c_4_bd hcb c_81; omega)]; exact hP
      rw [hQQ]
      exact wr_v hx hb hr hlocks hP9 hS dX3_round_140
    · exact absurd c_116 c_81
  · refine lv_lconst (v := zl (0)) hx hb dX3_round_85 (by decide) ?_
    refine lv_goto (tgt := 109) hx hb dX3_round_86 (by decide) ?_
    refine zz_topl (z := ((0 : Nat) : Int)) rfl ?_
    refine va_put (D := (dC, dI)) (ci := 3) (v := .long (zl (((0 : Nat) : Int)))) (ty := .long) (C := RX3) (T := TX3) (N := 18) hx hb hg inX3 tyX3 tyX3_ok nmX3 hown hK hP hD hS 0 rfl rfl 16 (by decide) (hg _ wl_X3_84) (fun _ h9 => h9) rfl (by decide +kernel) rfl rfl (Nat.le_of_ble_eq_true rfl) dX3_round_109 (fun H locs hP hD hS => ?_)
    have hP : va_P (dC, dI) vwCl [(m0, .inr (3, [.int (zi (tw)), .int (zi ((mp : Int))), .ref a1, .ref a2, .ref a3, .ref a4, .ref a5, .ref a6, .int (zi ((mb : Int))), .ref a7, .ref a8, .int (zi ((ml : Int))), .ref a9, .ref a10, .int (zi ((mz : Int))), .ref a11, .long (zl (((0 : Nat) : Int))), .long (zl (be))])), (a7, .inl (cA, 20, .inl (zA (xs)))), (a8, .inl (cA, 20, .inl (zA (ys))))] H := hP
    have hD : va_D A [(m0, .inr (3, [.int (zi (tw)), .int (zi ((mp : Int))), .ref a1, .ref a2, .ref a3, .ref a4, .ref a5, .ref a6, .int (zi ((mb : Int))), .ref a7, .ref a8, .int (zi ((ml : Int))), .ref a9, .ref a10, .int (zi ((mz : Int))), .ref a11, .long (zl (((0 : Nat) : Int))), .long (zl (be))])), (a7, .inl (cA, 20, .inl (zA (xs)))), (a8, .inl (cA, 20, .inl (zA (ys))))] := hD
    refine lv_aload_n hx hb dX3_round_112 rfl (lv_at hl 4 rfl) ?_
    refine lv_lload hx hb dX3_round_113 (lv_at hl 0 rfl) ?_
    refine lv_lconst (v := zl (0)) hx hb dX3_round_115 (by decide) ?_
    refine zz_lcmp_ne (tgt := 124) hx hb (by omega) (by omega) dX3_round_116 dX3_round_117 (by decide) (fun c_116 => ?_) (fun c_116 => ?_)
    · exact absurd c_81 c_116
    · refine lv_lconst (v := zl (1)) hx hb dX3_round_120 (by decide) ?_
      refine lv_goto (tgt := 133) hx hb dX3_round_121 (by decide) ?_
      refine zz_topl (z := ((1 : Nat) : Int)) rfl ?_
      refine va_put (D := (dC, dI)) (ci := 3) (v := .long (zl (((1 : Nat) : Int)))) (ty := .long) (C := RX3) (T := TX3) (N := 18) hx hb hg inX3 tyX3 tyX3_ok nmX3 hown hK hP hD hS 0 rfl rfl 17 (by decide) (hg _ wl_X3_44) (fun _ h9 => h9) rfl (by decide +kernel) rfl rfl (Nat.le_of_ble_eq_true rfl) dX3_round_133 (fun H locs hP hD hS => ?_)
      have hP : va_P (dC, dI) vwCl [(m0, .inr (3, [.int (zi (tw)), .int (zi ((mp : Int))), .ref a1, .ref a2, .ref a3, .ref a4, .ref a5, .ref a6, .int (zi ((mb : Int))), .ref a7, .ref a8, .int (zi ((ml : Int))), .ref a9, .ref a10, .int (zi ((mz : Int))), .ref a11, .long (zl (((0 : Nat) : Int))), .long (zl (((1 : Nat) : Int)))])), (a7, .inl (cA, 20, .inl (zA (xs)))), (a8, .inl (cA, 20, .inl (zA (ys))))] H := hP
      have hD : va_D A [(m0, .inr (3, [.int (zi (tw)), .int (zi ((mp : Int))), .ref a1, .ref a2, .ref a3, .ref a4, .ref a5, .ref a6, .int (zi ((mb : Int))), .ref a7, .ref a8, .int (zi ((ml : Int))), .ref a9, .ref a10, .int (zi ((mz : Int))), .ref a11, .long (zl (((0 : Nat) : Int))), .long (zl (((1 : Nat) : Int)))])), (a7, .inl (cA, 20, .inl (zA (xs)))), (a8, .inl (cA, 20, .inl (zA (ys))))] := hD
      refine lv_aload_n hx hb dX3_round_136 rfl (lv_at hl 4 rfl) ?_
      refine wrV (As := []) (rest := []) (n := 0) (ws' := [(m0, .inr (3, [.int (zi (tw)), .int (zi ((mp : Int))), .ref a1, .ref a2, .ref a3, .ref a4, .ref a5, .ref a6, .int (zi ((mb : Int))), .ref a7, .ref a8, .int (zi ((ml : Int))), .ref a9, .ref a10, .int (zi ((mz : Int))), .ref a11, .long (zl ((((0) / Nat.gcd (0) (1) : Nat) : Int))), .long (zl ((((1) / Nat.gcd (0) (1) : Nat) : Int)))])), (a7, .inl (cA, 20, .inl (zA (xs)))), (a8, .inl (cA, 20, .inl (zA (ys))))]) hx hb hml hown hg (c_X3_lessen l dC dI H.size m0 a1 a2 a3 a4 a5 a6 a7 a8 a9 a10 a11 (tw) (0) (1) mp mb ml mz (by decide) (by decide) (by decide)) (gwV wl_X3_91 wm_X3_lessen we_X3_lessen wi_X3 wc_X3_lessen) rfl rfl (by decide +kernel) ⟨Nat.le_of_ble_eq_true rfl, Nat.le_of_ble_eq_true rfl⟩ (hK.sub [] rfl) hP hD hS hA [0] rfl (by decide) [(true, 0), (false, 1), (false, 2)] rfl (by decide) rfl 0 rfl rfl rfl rfl hl.1 rfl (Nat.le_of_ble_eq_true rfl) dX3_round_137 ⟨Nat.zero_le _, Nat.zero_le _⟩ (fun H locs hP hD hS => ?_)
      have hP9 : va_P (dC, dI) vwCl [(m0, .inr (3, [.int (zi (tw)), .int (zi ((mp : Int))), .ref a1, .ref a2, .ref a3, .ref a4, .ref a5, .ref a6, .int (zi ((mb : Int))), .ref a7, .ref a8, .int (zi ((ml : Int))), .ref a9, .ref a10, .int (zi ((mz : Int))), .ref a11, .long (zl ((((c_cir xs ys ml).1 : Nat) : Int))), .long (zl ((((c_cir xs ys ml).2 : Nat) : Int)))])), (a7, .inl (cA, 20, .inl (zA (xs)))), (a8, .inl (cA, 20, .inl (zA (ys))))] H := by unfold c_cir; rw [if_pos c_81]; exact hP
      rw [hQQ]
      exact wr_v hx hb hr hlocks hP9 hS dX3_round_140

abbrev rm_X3_circle : Room := { frames := 3, cells := 0, slots := 0, locals := 76 }
set_option maxHeartbeats 4000000 in
set_option maxRecDepth 100000 in
theorem e_circle_1 (l : Launch) (dC : Nat → ClassId) (dI : Nat → Nat → Nat) (sz : Nat) (m0 a1 a2 a3 a4 a5 a6 a7 a8 a9 a10 a11 : Nat) (tw ab be : Int) (mp mb ml mz : Nat) (part : Int) (hmp : mp ≤ 6) (h_part : -2147483648 ≤ part ∧ part < 2147483648) (hbm : ml ≤ 20) (hbad : ¬ (part = 0 ∨ part = 1)) : Met l yX3_circle (Cond.code yX3_circle cX3_circle 2 ((Option.some Jvm.ClassFile.FieldType.long)) :: gw) rm_X3_circle (PcW [.ref m0, .int (zi (part))] (dC, dI) vwCl [(m0, .inr (3, [.int (zi (tw)), .int (zi ((mp : Int))), .ref a1, .ref a2, .ref a3, .ref a4, .ref a5, .ref a6, .int (zi ((mb : Int))), .ref a7, .ref a8, .int (zi ((ml : Int))), .ref a9, .ref a10, .int (zi ((mz : Int))), .ref a11, .long (zl (ab)), .long (zl (be))]))] [] sz) (WrQ (some (.long (zl 0))) (dC, dI) vwCl [(m0, .inr (3, [.int (zi (1)), .int (zi ((mp : Int))), .ref a1, .ref a2, .ref a3, .ref a4, .ref a5, .ref a6, .int (zi ((mb : Int))), .ref a7, .ref a8, .int (zi ((ml : Int))), .ref a9, .ref a10, .int (zi ((mz : Int))), .ref a11, .long (zl (ab)), .long (zl (be))]))] (va_A [(m0, .inr (3, [.int (zi (tw)), .int (zi ((mp : Int))), .ref a1, .ref a2, .ref a3, .ref a4, .ref a5, .ref a6, .int (zi ((mb : Int))), .ref a7, .ref a8, .int (zi ((ml : Int))), .ref a9, .ref a10, .int (zi ((mz : Int))), .ref a11, .long (zl (ab)), .long (zl (be))]))] sz)) 0 0 (va_A [(m0, .inr (3, [.int (zi (tw)), .int (zi ((mp : Int))), .ref a1, .ref a2, .ref a3, .ref a4, .ref a5, .ref a6, .int (zi ((mb : Int))), .ref a7, .ref a8, .int (zi ((ml : Int))), .ref a9, .ref a10, .int (zi ((mz : Int))), .ref a11, .long (zl (ab)), .long (zl (be))]))] sz) := by
  refine Met.ofW (cc := cX3_circle) (maxL := 2) (ret := ((Option.some Jvm.ClassFile.FieldType.long))) (by decide) rfl ?_
  intro p e s m args below meth c s₁ B hml hv
  obtain ⟨hargs, hsz, hP, hK, hD0⟩ := hv
  have hx := B.exec
  have hb := B.bytes
  have hr := B.returns
  have hts := atoms_spec (ws := Cond.code yX3_circle cX3_circle 2 ((Option.some Jvm.ClassFile.FieldType.long)) :: gw) B.pre
  have hg : ∀ w ∈ gw, w.before args s = true := fun w h => hts w (List.mem_cons_of_mem _ h)
  have hown : s.vm.findClass RX3 = some m.cls := findClass_of_methodNamed B.named
  have hlocks := B.notSynchronized
  subst hsz
  have hD := hD0.self (sz := s.heap.size)
  generalize hAe : va_A [(m0, .inr (3, [.int (zi (tw)), .int (zi ((mp : Int))), .ref a1, .ref a2, .ref a3, .ref a4, .ref a5, .ref a6, .int (zi ((mb : Int))), .ref a7, .ref a8, .int (zi ((ml : Int))), .ref a9, .ref a10, .int (zi ((mz : Int))), .ref a11, .long (zl (ab)), .long (zl (be))]))] s.heap.size = A at hD ⊢
  have hA : ∀ q : Nat, s.heap.size ≤ q → A q := fun q h => by rw [← hAe]; exact Or.inr h
  show W p l e rm_X3_circle s m args below meth c s.heap [] 0 0 _ _
  have hl := lv_entry ([.ref m0, .int (zi (part))]) (n := 2) (Nat.le_of_ble_eq_true rfl)
  rw [show entryFrame m args 2 = entryFrame m ([.ref m0, .int (zi (part))] : List Value).toArray 2 by rw [hargs], lg_entry_eq]
  generalize (lg_sl ([.ref m0, .int (zi (part))]) ++ List.replicate (2 - (lg_sl ([.ref m0, .int (zi (part))])).length) Slot.unset).toArray = ls at hl ⊢
  have hl : lv_has ls 2 [(0, .ref m0), (1, .int (zi (part)))] := hl
  obtain ⟨QQ, hQQ⟩ : ∃ Q, Q = MQ below (WrQ (some (.long (zl 0))) (dC, dI) vwCl [(m0, .inr (3, [.int (zi (1)), .int (zi ((mp : Int))), .ref a1, .ref a2, .ref a3, .ref a4, .ref a5, .ref a6, .int (zi ((mb : Int))), .ref a7, .ref a8, .int (zi ((ml : Int))), .ref a9, .ref a10, .int (zi ((mz : Int))), .ref a11, .long (zl (ab)), .long (zl (be))]))] A) args s 0 0 A := ⟨_, rfl⟩
  rw [← hQQ]
  obtain ⟨H, hHe⟩ : ∃ H : Heap, H = s.heap := ⟨_, rfl⟩
  obtain ⟨locs, hlc⟩ : ∃ x : List Loc, x = [] := ⟨_, rfl⟩
  have hS : va_S A s.heap H locs := by rw [hHe, hlc]; exact va_S.rf
  have hP : va_P (dC, dI) vwCl [(m0, .inr (3, [.int (zi (tw)), .int (zi ((mp : Int))), .ref a1, .ref a2, .ref a3, .ref a4, .ref a5, .ref a6, .int (zi ((mb : Int))), .ref a7, .ref a8, .int (zi ((ml : Int))), .ref a9, .ref a10, .int (zi ((mz : Int))), .ref a11, .long (zl (ab)), .long (zl (be))]))] H := by rw [hHe]; exact hP
  have hD : va_D A [(m0, .inr (3, [.int (zi (tw)), .int (zi ((mp : Int))), .ref a1, .ref a2, .ref a3, .ref a4, .ref a5, .ref a6, .int (zi ((mb : Int))), .ref a7, .ref a8, .int (zi ((ml : Int))), .ref a9, .ref a10, .int (zi ((mz : Int))), .ref a11, .long (zl (ab)), .long (zl (be))]))] := hD
  rw [← hHe, ← hlc]
  refine lv_aload_n hx hb dX3_circle_0 rfl (lv_at hl 0 rfl) ?_
  refine lv_iload_n hx hb dX3_circle_1 rfl (lv_at hl 1 rfl) ?_
  refine lv_iconst (v := zi (0)) hx hb dX3_circle_2 rfl ?_
  refine lv_iconst (v := zi (1)) hx hb dX3_circle_3 rfl ?_
  refine rdS (As := [.int (zi (part)), .int (zi (0)), .int (zi (1))]) (rest := [.ref m0]) (n := 3) hx hb hml hown hg (c_X3_in l (part) (0) (1) (by omega) (by omega) (by omega)) (gwS wl_X3_55 wt_X3_in wi_X3 wc_X3_in) rfl rfl (by decide +kernel) ⟨Nat.le_of_ble_eq_true rfl, Nat.le_of_ble_eq_true rfl⟩ rfl hl.1 rfl (Nat.le_of_ble_eq_true rfl) dX3_circle_4 ⟨Nat.zero_le _, Nat.zero_le _⟩ ?_
  refine zz_topi (z := 0) (congrArg zi (zb_f (decide_eq_false (by omega)))) ?_
  refine zz_if_ne (tgt := 14) hx hb (by omega) dX3_circle_7 (by decide) (fun c_7 => ?_) (fun c_7 => ?_)
  · exact absurd c_7 (by decide)
  · refine lv_iconst (v := zi (1)) hx hb dX3_circle_10 rfl ?_
    refine lv_goto (tgt := 15) hx hb dX3_circle_11 (by decide) ?_
    refine lv_aload_n hx hb dX3_circle_15 rfl (lv_at hl 0 rfl) ?_
    refine va_get (D := (dC, dI)) (ci := 3) (v := .int (zi ((ml : Int)))) (C := RX3) (T := TX3) (N := 18) hx hb hg inX3 hown hK hP 0 rfl rfl 11 (by decide) (hg _ wl_X3_139) (fun _ h9 => h9) rfl dX3_circle_16 ?_
    refine lv_iconst (v := zi (3)) hx hb dX3_circle_19 rfl ?_
    refine zz_icmp_ge (tgt := 27) hx hb (by omega) (by omega) dX3_circle_20 (by decide) (fun c_20 => ?_) (fun c_20 => ?_)
    · refine lv_iconst (v := zi (0)) hx hb dX3_circle_27 rfl ?_
      refine lv_iconst (v := zi (0)) hx hb dX3_circle_28 rfl ?_
      refine wrV (As := [.int (zi (1)), .int (zi (0)), .int (zi (0))]) (rest := []) (n := 3) (ws' := [(m0, .inr (3, [.int (zi (1)), .int (zi ((mp : Int))), .ref a1, .ref a2, .ref a3, .ref a4, .ref a5, .ref a6, .int (zi ((mb : Int))), .ref a7, .ref a8, .int (zi ((ml : Int))), .ref a9, .ref a10, .int (zi ((mz : Int))), .ref a11, .long (zl (ab)), .long (zl (be))]))]) hx hb hml hown hg (c_throwing l dC dI H.size m0 a1 a2 a3 a4 a5 a6 a7 a8 a9 a10 a11 (tw) (ab) (be) mp mb ml mz 1 0 0 (by decide) (by decide) (by decide)) (gwV wl_X3_59 wm_X3_throwing we_X3_throwing wi_X3 wc_X3_throwing) rfl rfl (by decide +kernel) ⟨Nat.le_of_ble_eq_true rfl, Nat.le_of_ble_eq_true rfl⟩ (hK.sub [] rfl) hP hD hS hA [0] rfl (by decide) [(true, 0)] rfl (by decide) rfl 0 rfl rfl rfl rfl hl.1 rfl (Nat.le_of_ble_eq_true rfl) dX3_circle_29 ⟨Nat.zero_le _, Nat.zero_le _⟩ (fun H locs hP hD hS => ?_)
      refine zz_topi (z := 1) (congrArg zi (by decide)) ?_
      refine zz_if_eq (tgt := 37) hx hb (by omega) dX3_circle_32 (by decide) (fun c_32 => ?_) (fun c_32 => ?_)
      · exact absurd c_32 (by decide)
      · refine lv_lconst (v := zl (0)) hx hb dX3_circle_35 (by decide) ?_
        have hP9 : va_P (dC, dI) vwCl [(m0, .inr (3, [.int (zi (1)), .int (zi ((mp : Int))), .ref a1, .ref a2, .ref a3, .ref a4, .ref a5, .ref a6, .int (zi ((mb : Int))), .ref a7, .ref a8, .int (zi ((ml : Int))), .ref a9, .ref a10, .int (zi ((mz : Int))), .ref a11, .long (zl (ab)), .long (zl (be))]))] H := hP
        rw [hQQ]
        exact wr_l hx hb hr hlocks rfl hP9 hS dX3_circle_36
    · refine lv_iconst (v := zi (1)) hx hb dX3_circle_23 rfl ?_
      refine lv_goto (tgt := 28) hx hb dX3_circle_24 (by decide) ?_
      refine lv_iconst (v := zi (0)) hx hb dX3_circle_28 rfl ?_
      refine wrV (As := [.int (zi (1)), .int (zi (1)), .int (zi (0))]) (rest := []) (n := 3) (ws' := [(m0, .inr (3, [.int (zi (1)), .int (zi ((mp : Int))), .ref a1, .ref a2, .ref a3, .ref a4, .ref a5, .ref a6, .int (zi ((mb : Int))), .ref a7, .ref a8, .int (zi ((ml : Int))), .ref a9, .ref a10, .int (zi ((mz : Int))), .ref a11, .long (zl (ab)), .long (zl (be))]))]) hx hb hml hown hg (c_throwing l dC dI H.size m0 a1 a2 a3 a4 a5 a6 a7 a8 a9 a10 a11 (tw) (ab) (be) mp mb ml mz 1 1 0 (by decide) (by decide) (by decide)) (gwV wl_X3_59 wm_X3_throwing we_X3_throwing wi_X3 wc_X3_throwing) rfl rfl (by decide +kernel) ⟨Nat.le_of_ble_eq_true rfl, Nat.le_of_ble_eq_true rfl⟩ (hK.sub [] rfl) hP hD hS hA [0] rfl (by decide) [(true, 0)] rfl (by decide) rfl 0 rfl rfl rfl rfl hl.1 rfl (Nat.le_of_ble_eq_true rfl) dX3_circle_29 ⟨Nat.zero_le _, Nat.zero_le _⟩ (fun H locs hP hD hS => ?_)
      refine zz_topi (z := 1) (congrArg zi (by decide)) ?_
      refine zz_if_eq (tgt := 37) hx hb (by omega) dX3_circle_32 (by decide) (fun c_32 => ?_) (fun c_32 => ?_)
      · exact absurd c_32 (by decide)
      · refine lv_lconst (v := zl (0)) hx hb dX3_circle_35 (by decide) ?_
        have hP9 : va_P (dC, dI) vwCl [(m0, .inr (3, [.int (zi (1)), .int (zi ((mp : Int))), .ref a1, .ref a2, .ref a3, .ref a4, .ref a5, .ref a6, .int (zi ((mb : Int))), .ref a7, .ref a8, .int (zi ((ml : Int))), .ref a9, .ref a10, .int (zi ((mz : Int))), .ref a11, .long (zl (ab)), .long (zl (be))]))] H := hP
        rw [hQQ]
        exact wr_l hx hb hr hlocks rfl hP9 hS dX3_circle_36

set_option maxHeartbeats 4000000 in
set_option maxRecDepth 100000 in
theorem e_circle_2 (l : Launch) (dC : Nat → ClassId) (dI : Nat → Nat → Nat) (sz : Nat) (m0 a1 a2 a3 a4 a5 a6 a7 a8 a9 a10 a11 : Nat) (tw ab be : Int) (mp mb ml mz : Nat) (part : Int) (hmp : mp ≤ 6) (h_part : -2147483648 ≤ part ∧ part < 2147483648) (hp9 : part = 0 ∨ part = 1) (hbad : ml < 3) : Met l yX3_circle (Cond.code yX3_circle cX3_circle 2 ((Option.some Jvm.ClassFile.FieldType.long)) :: gw) rm_X3_circle (PcW [.ref m0, .int (zi (part))] (dC, dI) vwCl [(m0, .inr (3, [.int (zi (tw)), .int (zi ((mp : Int))), .ref a1, .ref a2, .ref a3, .ref a4, .ref a5, .ref a6, .int (zi ((mb : Int))), .ref a7, .ref a8, .int (zi ((ml : Int))), .ref a9, .ref a10, .int (zi ((mz : Int))), .ref a11, .long (zl (ab)), .long (zl (be))]))] [] sz) (WrQ (some (.long (zl 0))) (dC, dI) vwCl [(m0, .inr (3, [.int (zi (2)), .int (zi ((mp : Int))), .ref a1, .ref a2, .ref a3, .ref a4, .ref a5, .ref a6, .int (zi ((mb : Int))), .ref a7, .ref a8, .int (zi ((ml : Int))), .ref a9, .ref a10, .int (zi ((mz : Int))), .ref a11, .long (zl (ab)), .long (zl (be))]))] (va_A [(m0, .inr (3, [.int (zi (tw)), .int (zi ((mp : Int))), .ref a1, .ref a2, .ref a3, .ref a4, .ref a5, .ref a6, .int (zi ((mb : Int))), .ref a7, .ref a8, .int (zi ((ml : Int))), .ref a9, .ref a10, .int (zi ((mz : Int))), .ref a11, .long (zl (ab)), .long (zl (be))]))] sz)) 0 0 (va_A [(m0, .inr (3, [.int (zi (tw)), .int (zi ((mp : Int))), .ref a1, .ref a2, .ref a3, .ref a4, .ref a5, .ref a6, .int (zi ((mb : Int))), .ref a7, .ref a8, .int (zi ((ml : Int))), .ref a9, .ref a10, .int (zi ((mz : Int))), .ref a11, .long (zl (ab)), .long (zl (be))]))] sz) := by
  refine Met.ofW (cc := cX3_circle) (maxL := 2) (ret := ((Option.some Jvm.ClassFile.FieldType.long))) (by decide) rfl ?_
  intro p e s m args below meth c s₁ B hml hv
  obtain ⟨hargs, hsz, hP, hK, hD0⟩ := hv
  have hx := B.exec
  have hb := B.bytes
  have hr := B.returns
  have hts := atoms_spec (ws := Cond.code yX3_circle cX3_circle 2 ((Option.some Jvm.ClassFile.FieldType.long)) :: gw) B.pre
  have hg : ∀ w ∈ gw, w.before args s = true := fun w h => hts w (List.mem_cons_of_mem _ h)
  have hown : s.vm.findClass RX3 = some m.cls := findClass_of_methodNamed B.named
  have hlocks := B.notSynchronized
  subst hsz
  have hD := hD0.self (sz := s.heap.size)
  generalize hAe : va_A [(m0, .inr (3, [.int (zi (tw)), .int (zi ((mp : Int))), .ref a1, .ref a2, .ref a3, .ref a4, .ref a5, .ref a6, .int (zi ((mb : Int))), .ref a7, .ref a8, .int (zi ((ml : Int))), .ref a9, .ref a10, .int (zi ((mz : Int))), .ref a11, .long (zl (ab)), .long (zl (be))]))] s.heap.size = A at hD ⊢
  have hA : ∀ q : Nat, s.heap.size ≤ q → A q := fun q h => by rw [← hAe]; exact Or.inr h
  show W p l e rm_X3_circle s m args below meth c s.heap [] 0 0 _ _
  have hl := lv_entry ([.ref m0, .int (zi (part))]) (n := 2) (Nat.le_of_ble_eq_true rfl)
  rw [show entryFrame m args 2 = entryFrame m ([.ref m0, .int (zi (part))] : List Value).toArray 2 by rw [hargs], lg_entry_eq]
  generalize (lg_sl ([.ref m0, .int (zi (part))]) ++ List.replicate (2 - (lg_sl ([.ref m0, .int (zi (part))])).length) Slot.unset).toArray = ls at hl ⊢
  have hl : lv_has ls 2 [(0, .ref m0), (1, .int (zi (part)))] := hl
  obtain ⟨QQ, hQQ⟩ : ∃ Q, Q = MQ below (WrQ (some (.long (zl 0))) (dC, dI) vwCl [(m0, .inr (3, [.int (zi (2)), .int (zi ((mp : Int))), .ref a1, .ref a2, .ref a3, .ref a4, .ref a5, .ref a6, .int (zi ((mb : Int))), .ref a7, .ref a8, .int (zi ((ml : Int))), .ref a9, .ref a10, .int (zi ((mz : Int))), .ref a11, .long (zl (ab)), .long (zl (be))]))] A) args s 0 0 A := ⟨_, rfl⟩
  rw [← hQQ]
  obtain ⟨H, hHe⟩ : ∃ H : Heap, H = s.heap := ⟨_, rfl⟩
  obtain ⟨locs, hlc⟩ : ∃ x : List Loc, x = [] := ⟨_, rfl⟩
  have hS : va_S A s.heap H locs := by rw [hHe, hlc]; exact va_S.rf
  have hP : va_P (dC, dI) vwCl [(m0, .inr (3, [.int (zi (tw)), .int (zi ((mp : Int))), .ref a1, .ref a2, .ref a3, .ref a4, .ref a5, .ref a6, .int (zi ((mb : Int))), .ref a7, .ref a8, .int (zi ((ml : Int))), .ref a9, .ref a10, .int (zi ((mz : Int))), .ref a11, .long (zl (ab)), .long (zl (be))]))] H := by rw [hHe]; exact hP
  have hD : va_D A [(m0, .inr (3, [.int (zi (tw)), .int (zi ((mp : Int))), .ref a1, .ref a2, .ref a3, .ref a4, .ref a5, .ref a6, .int (zi ((mb : Int))), .ref a7, .ref a8, .int (zi ((ml : Int))), .ref a9, .ref a10, .int (zi ((mz : Int))), .ref a11, .long (zl (ab)), .long (zl (be))]))] := hD
  rw [← hHe, ← hlc]
  refine lv_aload_n hx hb dX3_circle_0 rfl (lv_at hl 0 rfl) ?_
  refine lv_iload_n hx hb dX3_circle_1 rfl (lv_at hl 1 rfl) ?_
  refine lv_iconst (v := zi (0)) hx hb dX3_circle_2 rfl ?_
  refine lv_iconst (v := zi (1)) hx hb dX3_circle_3 rfl ?_
  refine rdS (As := [.int (zi (part)), .int (zi (0)), .int (zi (1))]) (rest := [.ref m0]) (n := 3) hx hb hml hown hg (c_X3_in l (part) (0) (1) (by omega) (by omega) (by omega)) (gwS wl_X3_55 wt_X3_in wi_X3 wc_X3_in) rfl rfl (by decide +kernel) ⟨Nat.le_of_ble_eq_true rfl, Nat.le_of_ble_eq_true rfl⟩ rfl hl.1 rfl (Nat.le_of_ble_eq_true rfl) dX3_circle_4 ⟨Nat.zero_le _, Nat.zero_le _⟩ ?_
  refine zz_topi (z := 1) (congrArg zi (zb_t (decide_eq_true (by omega)))) ?_
  refine zz_if_ne (tgt := 14) hx hb (by omega) dX3_circle_7 (by decide) (fun c_7 => ?_) (fun c_7 => ?_)
  · refine lv_iconst (v := zi (0)) hx hb dX3_circle_14 rfl ?_
    refine lv_aload_n hx hb dX3_circle_15 rfl (lv_at hl 0 rfl) ?_
    refine va_get (D := (dC, dI)) (ci := 3) (v := .int (zi ((ml : Int)))) (C := RX3) (T := TX3) (N := 18) hx hb hg inX3 hown hK hP 0 rfl rfl 11 (by decide) (hg _ wl_X3_139) (fun _ h9 => h9) rfl dX3_circle_16 ?_
    refine lv_iconst (v := zi (3)) hx hb dX3_circle_19 rfl ?_
    refine zz_icmp_ge (tgt := 27) hx hb (by omega) (by omega) dX3_circle_20 (by decide) (fun c_20 => ?_) (fun c_20 => ?_)
    · exact False.elim (by omega)
    · refine lv_iconst (v := zi (1)) hx hb dX3_circle_23 rfl ?_
      refine lv_goto (tgt := 28) hx hb dX3_circle_24 (by decide) ?_
      refine lv_iconst (v := zi (0)) hx hb dX3_circle_28 rfl ?_
      refine wrV (As := [.int (zi (0)), .int (zi (1)), .int (zi (0))]) (rest := []) (n := 3) (ws' := [(m0, .inr (3, [.int (zi (2)), .int (zi ((mp : Int))), .ref a1, .ref a2, .ref a3, .ref a4, .ref a5, .ref a6, .int (zi ((mb : Int))), .ref a7, .ref a8, .int (zi ((ml : Int))), .ref a9, .ref a10, .int (zi ((mz : Int))), .ref a11, .long (zl (ab)), .long (zl (be))]))]) hx hb hml hown hg (c_throwing l dC dI H.size m0 a1 a2 a3 a4 a5 a6 a7 a8 a9 a10 a11 (tw) (ab) (be) mp mb ml mz 0 1 0 (by decide) (by decide) (by decide)) (gwV wl_X3_59 wm_X3_throwing we_X3_throwing wi_X3 wc_X3_throwing) rfl rfl (by decide +kernel) ⟨Nat.le_of_ble_eq_true rfl, Nat.le_of_ble_eq_true rfl⟩ (hK.sub [] rfl) hP hD hS hA [0] rfl (by decide) [(true, 0)] rfl (by decide) rfl 0 rfl rfl rfl rfl hl.1 rfl (Nat.le_of_ble_eq_true rfl) dX3_circle_29 ⟨Nat.zero_le _, Nat.zero_le _⟩ (fun H locs hP hD hS => ?_)
      refine zz_topi (z := 1) (congrArg zi (by decide)) ?_
      refine zz_if_eq (tgt := 37) hx hb (by omega) dX3_circle_32 (by decide) (fun c_32 => ?_) (fun c_32 => ?_)
      · exact absurd c_32 (by decide)
      · refine lv_lconst (v := zl (0)) hx hb dX3_circle_35 (by decide) ?_
        have hP9 : va_P (dC, dI) vwCl [(m0, .inr (3, [.int (zi (2)), .int (zi ((mp : Int))), .ref a1, .ref a2, .ref a3, .ref a4, .ref a5, .ref a6, .int (zi ((mb : Int))), .ref a7, .ref a8, .int (zi ((ml : Int))), .ref a9, .ref a10, .int (zi ((mz : Int))), .ref a11, .long (zl (ab)), .long (zl (be))]))] H := hP
        rw [hQQ]
        exact wr_l hx hb hr hlocks rfl hP9 hS dX3_circle_36
  · exact absurd c_7 (by decide)

set_option maxHeartbeats 4000000 in
set_option maxRecDepth 100000 in
theorem k_circle (l : Launch) (dC : Nat → ClassId) (dI : Nat → Nat → Nat) (sz : Nat) (m0 a1 a2 a3 a4 a5 a6 a7 a8 a9 a10 a11 : Nat) (tw ab be : Int) (mp mb ml mz : Nat) (cA : ClassId) (xs ys : Nat → Int) (part : Int) (hl3 : 3 ≤ ml ∧ ml ≤ 20) (hX : ∀ j, -200 ≤ xs j ∧ xs j ≤ 200) (hY : ∀ j, -200 ≤ ys j ∧ ys j ≤ 200) (hp9 : part = 0 ∨ part = 1) : Met l yX3_circle (Cond.code yX3_circle cX3_circle 2 ((Option.some Jvm.ClassFile.FieldType.long)) :: gw) rm_X3_circle (PcW [.ref m0, .int (zi (part))] (dC, dI) vwCl [(m0, .inr (3, [.int (zi (tw)), .int (zi ((mp : Int))), .ref a1, .ref a2, .ref a3, .ref a4, .ref a5, .ref a6, .int (zi ((mb : Int))), .ref a7, .ref a8, .int (zi ((ml : Int))), .ref a9, .ref a10, .int (zi ((mz : Int))), .ref a11, .long (zl (ab)), .long (zl (be))])), (a7, .inl (cA, 20, .inl (zA (xs)))), (a8, .inl (cA, 20, .inl (zA (ys))))] [(cA, .int)] sz) (WrQ (some (.long (zl (if part = 0 then (((c_cir xs ys ml).1 : Nat) : Int) else (((c_cir xs ys ml).2 : Nat) : Int))))) (dC, dI) vwCl [(m0, .inr (3, [.int (zi (0)), .int (zi ((mp : Int))), .ref a1, .ref a2, .ref a3, .ref a4, .ref a5, .ref a6, .int (zi ((mb : Int))), .ref a7, .ref a8, .int (zi ((ml : Int))), .ref a9, .ref a10, .int (zi ((mz : Int))), .ref a11, .long (zl ((((c_cir xs ys ml).1 : Nat) : Int))), .long (zl ((((c_cir xs ys ml).2 : Nat) : Int)))])), (a7, .inl (cA, 20, .inl (zA (xs)))), (a8, .inl (cA, 20, .inl (zA (ys))))] (va_A [(m0, .inr (3, [.int (zi (tw)), .int (zi ((mp : Int))), .ref a1, .ref a2, .ref a3, .ref a4, .ref a5, .ref a6, .int (zi ((mb : Int))), .ref a7, .ref a8, .int (zi ((ml : Int))), .ref a9, .ref a10, .int (zi ((mz : Int))), .ref a11, .long (zl (ab)), .long (zl (be))])), (a7, .inl (cA, 20, .inl (zA (xs)))), (a8, .inl (cA, 20, .inl (zA (ys))))] sz)) 0 0 (va_A [(m0, .inr (3, [.int (zi (tw)), .int (zi ((mp : Int))), .ref a1, .ref a2, .ref a3, .ref a4, .ref a5, .ref a6, .int (zi ((mb : Int))), .ref a7, .ref a8, .int (zi ((ml : Int))), .ref a9, .ref a10, .int (zi ((mz : Int))), .ref a11, .long (zl (ab)), .long (zl (be))])), (a7, .inl (cA, 20, .inl (zA (xs)))), (a8, .inl (cA, 20, .inl (zA (ys))))] sz) := by
  refine Met.ofW (cc := cX3_circle) (maxL := 2) (ret := ((Option.some Jvm.ClassFile.FieldType.long))) (by decide) rfl ?_
  intro p e s m args below meth c s₁ B hml hv
  obtain ⟨hargs, hsz, hP, hK, hD0⟩ := hv
  have hx := B.exec
  have hb := B.bytes
  have hr := B.returns
  have hts := atoms_spec (ws := Cond.code yX3_circle cX3_circle 2 ((Option.some Jvm.ClassFile.FieldType.long)) :: gw) B.pre
  have hg : ∀ w ∈ gw, w.before args s = true := fun w h => hts w (List.mem_cons_of_mem _ h)
  have hown : s.vm.findClass RX3 = some m.cls := findClass_of_methodNamed B.named
  have hlocks := B.notSynchronized
  subst hsz
  have hD := hD0.self (sz := s.heap.size)
  generalize hAe : va_A [(m0, .inr (3, [.int (zi (tw)), .int (zi ((mp : Int))), .ref a1, .ref a2, .ref a3, .ref a4, .ref a5, .ref a6, .int (zi ((mb : Int))), .ref a7, .ref a8, .int (zi ((ml : Int))), .ref a9, .ref a10, .int (zi ((mz : Int))), .ref a11, .long (zl (ab)), .long (zl (be))])), (a7, .inl (cA, 20, .inl (zA (xs)))), (a8, .inl (cA, 20, .inl (zA (ys))))] s.heap.size = A at hD ⊢
  have hA : ∀ q : Nat, s.heap.size ≤ q → A q := fun q h => by rw [← hAe]; exact Or.inr h
  show W p l e rm_X3_circle s m args below meth c s.heap [] 0 0 _ _
  have hl := lv_entry ([.ref m0, .int (zi (part))]) (n := 2) (Nat.le_of_ble_eq_true rfl)
  rw [show entryFrame m args 2 = entryFrame m ([.ref m0, .int (zi (part))] : List Value).toArray 2 by rw [hargs], lg_entry_eq]
  generalize (lg_sl ([.ref m0, .int (zi (part))]) ++ List.replicate (2 - (lg_sl ([.ref m0, .int (zi (part))])).length) Slot.unset).toArray = ls at hl ⊢
  have hl : lv_has ls 2 [(0, .ref m0), (1, .int (zi (part)))] := hl
  obtain ⟨QQ, hQQ⟩ : ∃ Q, Q = MQ below (WrQ (some (.long (zl (if part = 0 then (((c_cir xs ys ml).1 : Nat) : Int) else (((c_cir xs ys ml).2 : Nat) : Int))))) (dC, dI) vwCl [(m0, .inr (3, [.int (zi (0)), .int (zi ((mp : Int))), .ref a1, .ref a2, .ref a3, .ref a4, .ref a5, .ref a6, .int (zi ((mb : Int))), .ref a7, .ref a8, .int (zi ((ml : Int))), .ref a9, .ref a10, .int (zi ((mz : Int))), .ref a11, .long (zl ((((c_cir xs ys ml).1 : Nat) : Int))), .long (zl ((((c_cir xs ys ml).2 : Nat) : Int)))])), (a7, .inl (cA, 20, .inl (zA (xs)))), (a8, .inl (cA, 20, .inl (zA (ys))))] A) args s 0 0 A := ⟨_, rfl⟩
  rw [← hQQ]
  obtain ⟨H, hHe⟩ : ∃ H : Heap, H = s.heap := ⟨_, rfl⟩
  obtain ⟨locs, hlc⟩ : ∃ x : List Loc, x = [] := ⟨_, rfl⟩
  have hS : va_S A s.heap H locs := by rw [hHe, hlc]; exact va_S.rf
  have hP : va_P (dC, dI) vwCl [(m0, .inr (3, [.int (zi (tw)), .int (zi ((mp : Int))), .ref a1, .ref a2, .ref a3, .ref a4, .ref a5, .ref a6, .int (zi ((mb : Int))), .ref a7, .ref a8, .int (zi ((ml : Int))), .ref a9, .ref a10, .int (zi ((mz : Int))), .ref a11, .long (zl (ab)), .long (zl (be))])), (a7, .inl (cA, 20, .inl (zA (xs)))), (a8, .inl (cA, 20, .inl (zA (ys))))] H := by rw [hHe]; exact hP
  have hD : va_D A [(m0, .inr (3, [.int (zi (tw)), .int (zi ((mp : Int))), .ref a1, .ref a2, .ref a3, .ref a4, .ref a5, .ref a6, .int (zi ((mb : Int))), .ref a7, .ref a8, .int (zi ((ml : Int))), .ref a9, .ref a10, .int (zi ((mz : Int))), .ref a11, .long (zl (ab)), .long (zl (be))])), (a7, .inl (cA, 20, .inl (zA (xs)))), (a8, .inl (cA, 20, .inl (zA (ys))))] := hD
  rw [← hHe, ← hlc]
  refine lv_aload_n hx hb dX3_circle_0 rfl (lv_at hl 0 rfl) ?_
  refine lv_iload_n hx hb dX3_circle_1 rfl (lv_at hl 1 rfl) ?_
  refine lv_iconst (v := zi (0)) hx hb dX3_circle_2 rfl ?_
  refine lv_iconst (v := zi (1)) hx hb dX3_circle_3 rfl ?_
  refine rdS (As := [.int (zi (part)), .int (zi (0)), .int (zi (1))]) (rest := [.ref m0]) (n := 3) hx hb hml hown hg (c_X3_in l (part) (0) (1) (by omega) (by omega) (by omega)) (gwS wl_X3_55 wt_X3_in wi_X3 wc_X3_in) rfl rfl (by decide +kernel) ⟨Nat.le_of_ble_eq_true rfl, Nat.le_of_ble_eq_true rfl⟩ rfl hl.1 rfl (Nat.le_of_ble_eq_true rfl) dX3_circle_4 ⟨Nat.zero_le _, Nat.zero_le _⟩ ?_
  refine zz_topi (z := 1) (congrArg zi (zb_t (decide_eq_true (by omega)))) ?_
  refine zz_if_ne (tgt := 14) hx hb (by omega) dX3_circle_7 (by decide) (fun c_7 => ?_) (fun c_7 => ?_)
  · refine lv_iconst (v := zi (0)) hx hb dX3_circle_14 rfl ?_
    refine lv_aload_n hx hb dX3_circle_15 rfl (lv_at hl 0 rfl) ?_
    refine va_get (D := (dC, dI)) (ci := 3) (v := .int (zi ((ml : Int)))) (C := RX3) (T := TX3) (N := 18) hx hb hg inX3 hown hK hP 0 rfl rfl 11 (by decide) (hg _ wl_X3_139) (fun _ h9 => h9) rfl dX3_circle_16 ?_
    refine lv_iconst (v := zi (3)) hx hb dX3_circle_19 rfl ?_
    refine zz_icmp_ge (tgt := 27) hx hb (by omega) (by omega) dX3_circle_20 (by decide) (fun c_20 => ?_) (fun c_20 => ?_)
    · refine lv_iconst (v := zi (0)) hx hb dX3_circle_27 rfl ?_
      refine lv_iconst (v := zi (0)) hx hb dX3_circle_28 rfl ?_
      refine wrV (As := [.int (zi (0)), .int (zi (0)), .int (zi (0))]) (rest := []) (n := 3) (ws' := [(m0, .inr (3, [.int (zi (0)), .int (zi ((mp : Int))), .ref a1, .ref a2, .ref a3, .ref a4, .ref a5, .ref a6, .int (zi ((mb : Int))), .ref a7, .ref a8, .int (zi ((ml : Int))), .ref a9, .ref a10, .int (zi ((mz : Int))), .ref a11, .long (zl (ab)), .long (zl (be))])), (a7, .inl (cA, 20, .inl (zA (xs)))), (a8, .inl (cA, 20, .inl (zA (ys))))]) hx hb hml hown hg (c_throwing l dC dI H.size m0 a1 a2 a3 a4 a5 a6 a7 a8 a9 a10 a11 (tw) (ab) (be) mp mb ml mz 0 0 0 (by decide) (by decide) (by decide)) (gwV wl_X3_59 wm_X3_throwing we_X3_throwing wi_X3 wc_X3_throwing) rfl rfl (by decide +kernel) ⟨Nat.le_of_ble_eq_true rfl, Nat.le_of_ble_eq_true rfl⟩ (hK.sub [] rfl) hP hD hS hA [0] rfl (by decide) [(true, 0), (false, 1), (false, 2)] rfl (by decide) rfl 0 rfl rfl rfl rfl hl.1 rfl (Nat.le_of_ble_eq_true rfl) dX3_circle_29 ⟨Nat.zero_le _, Nat.zero_le _⟩ (fun H locs hP hD hS => ?_)
      refine zz_topi (z := 0) (congrArg zi (by decide)) ?_
      refine zz_if_eq (tgt := 37) hx hb (by omega) dX3_circle_32 (by decide) (fun c_32 => ?_) (fun c_32 => ?_)
      · refine lv_aload_n hx hb dX3_circle_37 rfl (lv_at hl 0 rfl) ?_
        refine wrV (As := []) (rest := []) (n := 0) (ws' := [(m0, .inr (3, [.int (zi (0)), .int (zi ((mp : Int))), .ref a1, .ref a2, .ref a3, .ref a4, .ref a5, .ref a6, .int (zi ((mb : Int))), .ref a7, .ref a8, .int (zi ((ml : Int))), .ref a9, .ref a10, .int (zi ((mz : Int))), .ref a11, .long (zl ((((c_cir xs ys ml).1 : Nat) : Int))), .long (zl ((((c_cir xs ys ml).2 : Nat) : Int)))])), (a7, .inl (cA, 20, .inl (zA (xs)))), (a8, .inl (cA, 20, .inl (zA (ys))))]) hx hb hml hown hg (c_X3_round l dC dI H.size m0 a1 a2 a3 a4 a5 a6 a7 a8 a9 a10 a11 (0) (ab) (be) mp mb ml mz cA xs ys hl3 hX hY) (gwV wl_X3_147 wm_X3_round we_X3_round wi_X3 wc_X3_round) rfl rfl (by decide +kernel) ⟨Nat.le_of_ble_eq_true rfl, Nat.le_of_ble_eq_true rfl⟩ (hK.sub [0] rfl) hP hD hS hA [0, 1, 2] rfl (by decide) [(true, 0), (true, 1), (true, 2)] rfl (by decide) rfl 0 rfl rfl rfl rfl hl.1 rfl (Nat.le_of_ble_eq_true rfl) dX3_circle_38 ⟨Nat.zero_le _, Nat.zero_le _⟩ (fun H locs hP hD hS => ?_)
        refine lv_iload_n hx hb dX3_circle_41 rfl (lv_at hl 1 rfl) ?_
        refine zz_if_ne (tgt := 52) hx hb (by omega) dX3_circle_42 (by decide) (fun c_42 => ?_) (fun c_42 => ?_)
        · refine lv_aload_n hx hb dX3_circle_52 rfl (lv_at hl 0 rfl) ?_
          refine va_get (D := (dC, dI)) (ci := 3) (v := .long (zl ((((c_cir xs ys ml).2 : Nat) : Int)))) (C := RX3) (T := TX3) (N := 18) hx hb hg inX3 hown hK hP 0 rfl rfl 17 (by decide) (hg _ wl_X3_44) (fun _ h9 => h9) rfl dX3_circle_53 ?_
          have hP9 : va_P (dC, dI) vwCl [(m0, .inr (3, [.int (zi (0)), .int (zi ((mp : Int))), .ref a1, .ref a2, .ref a3, .ref a4, .ref a5, .ref a6, .int (zi ((mb : Int))), .ref a7, .ref a8, .int (zi ((ml : Int))), .ref a9, .ref a10, .int (zi ((mz : Int))), .ref a11, .long (zl ((((c_cir xs ys ml).1 : Nat) : Int))), .long (zl ((((c_cir xs ys ml).2 : Nat) : Int)))])), (a7, .inl (cA, 20, .inl (zA (xs)))), (a8, .inl (cA, 20, .inl (zA (ys))))] H := hP
          rw [hQQ]
          exact wr_l hx hb hr hlocks (if_neg (by omega)).symm hP9 hS dX3_circle_56
        · refine lv_aload_n hx hb dX3_circle_45 rfl (lv_at hl 0 rfl) ?_
          refine va_get (D := (dC, dI)) (ci := 3) (v := .long (zl ((((c_cir xs ys ml).1 : Nat) : Int)))) (C := RX3) (T := TX3) (N := 18) hx hb hg inX3 hown hK hP 0 rfl rfl 16 (by decide) (hg _ wl_X3_84) (fun _ h9 => h9) rfl dX3_circle_46 ?_
          refine lv_goto (tgt := 56) hx hb dX3_circle_49 (by decide) ?_
          have hP9 : va_P (dC, dI) vwCl [(m0, .inr (3, [.int (zi (0)), .int (zi ((mp : Int))), .ref a1, .ref a2, .ref a3, .ref a4, .ref a5, .ref a6, .int (zi ((mb : Int))), .ref a7, .ref a8, .int (zi ((ml : Int))), .ref a9, .ref a10, .int (zi ((mz : Int))), .ref a11, .long (zl ((((c_cir xs ys ml).1 : Nat) : Int))), .long (zl ((((c_cir xs ys ml).2 : Nat) : Int)))])), (a7, .inl (cA, 20, .inl (zA (xs)))), (a8, .inl (cA, 20, .inl (zA (ys))))] H := hP
          rw [hQQ]
          exact wr_l hx hb hr hlocks (if_pos (by omega)).symm hP9 hS dX3_circle_56
      · exact absurd c_32 (by decide)
    · exact False.elim (by omega)
  · exact absurd c_7 (by decide)

abbrev rm_X3_curve : Room := { frames := 3, cells := 0, slots := 0, locals := 76 }
set_option maxHeartbeats 4000000 in
set_option maxRecDepth 100000 in
theorem e_curve (l : Launch) (dC : Nat → ClassId) (dI : Nat → Nat → Nat) (sz : Nat) (m0 a1 a2 a3 a4 a5 a6 a7 a8 a9 a10 a11 : Nat) (tw ab be : Int) (mp mb ml mz : Nat) (hbad : ml < 3) : Met l yX3_curve (Cond.code yX3_curve cX3_curve 7 ((Option.some Jvm.ClassFile.FieldType.int)) :: gw) rm_X3_curve (PcW [.ref m0] (dC, dI) vwCl [(m0, .inr (3, [.int (zi (tw)), .int (zi ((mp : Int))), .ref a1, .ref a2, .ref a3, .ref a4, .ref a5, .ref a6, .int (zi ((mb : Int))), .ref a7, .ref a8, .int (zi ((ml : Int))), .ref a9, .ref a10, .int (zi ((mz : Int))), .ref a11, .long (zl (ab)), .long (zl (be))]))] [] sz) (WrQ (some (.int (zi 0))) (dC, dI) vwCl [(m0, .inr (3, [.int (zi (1)), .int (zi ((mp : Int))), .ref a1, .ref a2, .ref a3, .ref a4, .ref a5, .ref a6, .int (zi ((mb : Int))), .ref a7, .ref a8, .int (zi ((ml : Int))), .ref a9, .ref a10, .int (zi ((mz : Int))), .ref a11, .long (zl (ab)), .long (zl (be))]))] (va_A [(m0, .inr (3, [.int (zi (tw)), .int (zi ((mp : Int))), .ref a1, .ref a2, .ref a3, .ref a4, .ref a5, .ref a6, .int (zi ((mb : Int))), .ref a7, .ref a8, .int (zi ((ml : Int))), .ref a9, .ref a10, .int (zi ((mz : Int))), .ref a11, .long (zl (ab)), .long (zl (be))]))] sz)) 0 0 (va_A [(m0, .inr (3, [.int (zi (tw)), .int (zi ((mp : Int))), .ref a1, .ref a2, .ref a3, .ref a4, .ref a5, .ref a6, .int (zi ((mb : Int))), .ref a7, .ref a8, .int (zi ((ml : Int))), .ref a9, .ref a10, .int (zi ((mz : Int))), .ref a11, .long (zl (ab)), .long (zl (be))]))] sz) := by
  refine Met.ofW (cc := cX3_curve) (maxL := 7) (ret := ((Option.some Jvm.ClassFile.FieldType.int))) (by decide) rfl ?_
  intro p e s m args below meth c s₁ B hml hv
  obtain ⟨hargs, hsz, hP, hK, hD0⟩ := hv
  have hx := B.exec
  have hb := B.bytes
  have hr := B.returns
  have hts := atoms_spec (ws := Cond.code yX3_curve cX3_curve 7 ((Option.some Jvm.ClassFile.FieldType.int)) :: gw) B.pre
  have hg : ∀ w ∈ gw, w.before args s = true := fun w h => hts w (List.mem_cons_of_mem _ h)
  have hown : s.vm.findClass RX3 = some m.cls := findClass_of_methodNamed B.named
  have hlocks := B.notSynchronized
  subst hsz
  have hD := hD0.self (sz := s.heap.size)
  generalize hAe : va_A [(m0, .inr (3, [.int (zi (tw)), .int (zi ((mp : Int))), .ref a1, .ref a2, .ref a3, .ref a4, .ref a5, .ref a6, .int (zi ((mb : Int))), .ref a7, .ref a8, .int (zi ((ml : Int))), .ref a9, .ref a10, .int (zi ((mz : Int))), .ref a11, .long (zl (ab)), .long (zl (be))]))] s.heap.size = A at hD ⊢
  have hA : ∀ q : Nat, s.heap.size ≤ q → A q := fun q h => by rw [← hAe]; exact Or.inr h
  show W p l e rm_X3_curve s m args below meth c s.heap [] 0 0 _ _
  have hl := lv_entry ([.ref m0]) (n := 7) (Nat.le_of_ble_eq_true rfl)
  rw [show entryFrame m args 7 = entryFrame m ([.ref m0] : List Value).toArray 7 by rw [hargs], lg_entry_eq]
  generalize (lg_sl ([.ref m0]) ++ List.replicate (7 - (lg_sl ([.ref m0])).length) Slot.unset).toArray = ls at hl ⊢
  have hl : lv_has ls 7 [(0, .ref m0)] := hl
  obtain ⟨QQ, hQQ⟩ : ∃ Q, Q = MQ below (WrQ (some (.int (zi 0))) (dC, dI) vwCl [(m0, .inr (3, [.int (zi (1)), .int (zi ((mp : Int))), .ref a1, .ref a2, .ref a3, .ref a4, .ref a5, .ref a6, .int (zi ((mb : Int))), .ref a7, .ref a8, .int (zi ((ml : Int))), .ref a9, .ref a10, .int (zi ((mz : Int))), .ref a11, .long (zl (ab)), .long (zl (be))]))] A) args s 0 0 A := ⟨_, rfl⟩
  rw [← hQQ]
  obtain ⟨H, hHe⟩ : ∃ H : Heap, H = s.heap := ⟨_, rfl⟩
  obtain ⟨locs, hlc⟩ : ∃ x : List Loc, x = [] := ⟨_, rfl⟩
  have hS : va_S A s.heap H locs := by rw [hHe, hlc]; exact va_S.rf
  have hP : va_P (dC, dI) vwCl [(m0, .inr (3, [.int (zi (tw)), .int (zi ((mp : Int))), .ref a1, .ref a2, .ref a3, .ref a4, .ref a5, .ref a6, .int (zi ((mb : Int))), .ref a7, .ref a8, .int (zi ((ml : Int))), .ref a9, .ref a10, .int (zi ((mz : Int))), .ref a11, .long (zl (ab)), .long (zl (be))]))] H := by rw [hHe]; exact hP
  have hD : va_D A [(m0, .inr (3, [.int (zi (tw)), .int (zi ((mp : Int))), .ref a1, .ref a2, .ref a3, .ref a4, .ref a5, .ref a6, .int (zi ((mb : Int))), .ref a7, .ref a8, .int (zi ((ml : Int))), .ref a9, .ref a10, .int (zi ((mz : Int))), .ref a11, .long (zl (ab)), .long (zl (be))]))] := hD
  rw [← hHe, ← hlc]
  refine lv_aload_n hx hb dX3_curve_0 rfl (lv_at hl 0 rfl) ?_
  refine lv_aload_n hx hb dX3_curve_1 rfl (lv_at hl 0 rfl) ?_
  refine va_get (D := (dC, dI)) (ci := 3) (v := .int (zi ((ml : Int)))) (C := RX3) (T := TX3) (N := 18) hx hb hg inX3 hown hK hP 0 rfl rfl 11 (by decide) (hg _ wl_X3_139) (fun _ h9 => h9) rfl dX3_curve_2 ?_
  refine lv_iconst (v := zi (3)) hx hb dX3_curve_5 rfl ?_
  refine zz_icmp_ge (tgt := 13) hx hb (by omega) (by omega) dX3_curve_6 (by decide) (fun c_6 => ?_) (fun c_6 => ?_)
  · exact False.elim (by omega)
  · refine lv_iconst (v := zi (1)) hx hb dX3_curve_9 rfl ?_
    refine lv_goto (tgt := 14) hx hb dX3_curve_10 (by decide) ?_
    refine lv_iconst (v := zi (0)) hx hb dX3_curve_14 rfl ?_
    refine lv_iconst (v := zi (0)) hx hb dX3_curve_15 rfl ?_
    refine wrV (As := [.int (zi (1)), .int (zi (0)), .int (zi (0))]) (rest := []) (n := 3) (ws' := [(m0, .inr (3, [.int (zi (1)), .int (zi ((mp : Int))), .ref a1, .ref a2, .ref a3, .ref a4, .ref a5, .ref a6, .int (zi ((mb : Int))), .ref a7, .ref a8, .int (zi ((ml : Int))), .ref a9, .ref a10, .int (zi ((mz : Int))), .ref a11, .long (zl (ab)), .long (zl (be))]))]) hx hb hml hown hg (c_throwing l dC dI H.size m0 a1 a2 a3 a4 a5 a6 a7 a8 a9 a10 a11 (tw) (ab) (be) mp mb ml mz 1 0 0 (by decide) (by decide) (by decide)) (gwV wl_X3_59 wm_X3_throwing we_X3_throwing wi_X3 wc_X3_throwing) rfl rfl (by decide +kernel) ⟨Nat.le_of_ble_eq_true rfl, Nat.le_of_ble_eq_true rfl⟩ (hK.sub [] rfl) hP hD hS hA [0] rfl (by decide) [(true, 0)] rfl (by decide) rfl 0 rfl rfl rfl rfl hl.1 rfl (Nat.le_of_ble_eq_true rfl) dX3_curve_16 ⟨Nat.zero_le _, Nat.zero_le _⟩ (fun H locs hP hD hS => ?_)
    refine zz_topi (z := 1) (congrArg zi (by decide)) ?_
    refine zz_if_eq (tgt := 24) hx hb (by omega) dX3_curve_19 (by decide) (fun c_19 => ?_) (fun c_19 => ?_)
    · exact absurd c_19 (by decide)
    · refine lv_iconst (v := zi (0)) hx hb dX3_curve_22 rfl ?_
      have hP9 : va_P (dC, dI) vwCl [(m0, .inr (3, [.int (zi (1)), .int (zi ((mp : Int))), .ref a1, .ref a2, .ref a3, .ref a4, .ref a5, .ref a6, .int (zi ((mb : Int))), .ref a7, .ref a8, .int (zi ((ml : Int))), .ref a9, .ref a10, .int (zi ((mz : Int))), .ref a11, .long (zl (ab)), .long (zl (be))]))] H := hP
      rw [hQQ]
      exact wr_i hx hb hr hlocks rfl hP9 hS dX3_curve_23

set_option maxHeartbeats 4000000 in
set_option maxRecDepth 100000 in
theorem k_curve (l : Launch) (dC : Nat → ClassId) (dI : Nat → Nat → Nat) (sz : Nat) (m0 a1 a2 a3 a4 a5 a6 a7 a8 a9 a10 a11 : Nat) (tw ab be : Int) (mp mb ml mz : Nat) (cA : ClassId) (xs ys : Nat → Int) (hl3 : 3 ≤ ml ∧ ml ≤ 20) (hX : ∀ j, -200 ≤ xs j ∧ xs j ≤ 200) (hY : ∀ j, -200 ≤ ys j ∧ ys j ≤ 200) : Met l yX3_curve (Cond.code yX3_curve cX3_curve 7 ((Option.some Jvm.ClassFile.FieldType.int)) :: gw) rm_X3_curve (PcW [.ref m0] (dC, dI) vwCl [(m0, .inr (3, [.int (zi (tw)), .int (zi ((mp : Int))), .ref a1, .ref a2, .ref a3, .ref a4, .ref a5, .ref a6, .int (zi ((mb : Int))), .ref a7, .ref a8, .int (zi ((ml : Int))), .ref a9, .ref a10, .int (zi ((mz : Int))), .ref a11, .long (zl (ab)), .long (zl (be))])), (a7, .inl (cA, 20, .inl (zA (xs)))), (a8, .inl (cA, 20, .inl (zA (ys))))] [(cA, .int)] sz) (WrQ (some (.int (zi ((r_rt ((c_cir xs ys ml).1 / (c_cir xs ys ml).2) 27 0 : Nat) : Int)))) (dC, dI) vwCl [(m0, .inr (3, [.int (zi (0)), .int (zi ((mp : Int))), .ref a1, .ref a2, .ref a3, .ref a4, .ref a5, .ref a6, .int (zi ((mb : Int))), .ref a7, .ref a8, .int (zi ((ml : Int))), .ref a9, .ref a10, .int (zi ((mz : Int))), .ref a11, .long (zl ((((c_cir xs ys ml).1 : Nat) : Int))), .long (zl ((((c_cir xs ys ml).2 : Nat) : Int)))])), (a7, .inl (cA, 20, .inl (zA (xs)))), (a8, .inl (cA, 20, .inl (zA (ys))))] (va_A [(m0, .inr (3, [.int (zi (tw)), .int (zi ((mp : Int))), .ref a1, .ref a2, .ref a3, .ref a4, .ref a5, .ref a6, .int (zi ((mb : Int))), .ref a7, .ref a8, .int (zi ((ml : Int))), .ref a9, .ref a10, .int (zi ((mz : Int))), .ref a11, .long (zl (ab)), .long (zl (be))])), (a7, .inl (cA, 20, .inl (zA (xs)))), (a8, .inl (cA, 20, .inl (zA (ys))))] sz)) 0 0 (va_A [(m0, .inr (3, [.int (zi (tw)), .int (zi ((mp : Int))), .ref a1, .ref a2, .ref a3, .ref a4, .ref a5, .ref a6, .int (zi ((mb : Int))), .ref a7, .ref a8, .int (zi ((ml : Int))), .ref a9, .ref a10, .int (zi ((mz : Int))), .ref a11, .long (zl (ab)), .long (zl (be))])), (a7, .inl (cA, 20, .inl (zA (xs)))), (a8, .inl (cA, 20, .inl (zA (ys))))] sz) := by
  refine Met.ofW (cc := cX3_curve) (maxL := 7) (ret := ((Option.some Jvm.ClassFile.FieldType.int))) (by decide) rfl ?_
  intro p e s m args below meth c s₁ B hml hv
  obtain ⟨hargs, hsz, hP, hK, hD0⟩ := hv
  have hx := B.exec
  have hb := B.bytes
  have hr := B.returns
  have hts := atoms_spec (ws := Cond.code yX3_curve cX3_curve 7 ((Option.some Jvm.ClassFile.FieldType.int)) :: gw) B.pre
  have hg : ∀ w ∈ gw, w.before args s = true := fun w h => hts w (List.mem_cons_of_mem _ h)
  have hown : s.vm.findClass RX3 = some m.cls := findClass_of_methodNamed B.named
  have hlocks := B.notSynchronized
  subst hsz
  have hD := hD0.self (sz := s.heap.size)
  generalize hAe : va_A [(m0, .inr (3, [.int (zi (tw)), .int (zi ((mp : Int))), .ref a1, .ref a2, .ref a3, .ref a4, .ref a5, .ref a6, .int (zi ((mb : Int))), .ref a7, .ref a8, .int (zi ((ml : Int))), .ref a9, .ref a10, .int (zi ((mz : Int))), .ref a11, .long (zl (ab)), .long (zl (be))])), (a7, .inl (cA, 20, .inl (zA (xs)))), (a8, .inl (cA, 20, .inl (zA (ys))))] s.heap.size = A at hD ⊢
  have hA : ∀ q : Nat, s.heap.size ≤ q → A q := fun q h => by rw [← hAe]; exact Or.inr h
  show W p l e rm_X3_curve s m args below meth c s.heap [] 0 0 _ _
  have hl := lv_entry ([.ref m0]) (n := 7) (Nat.le_of_ble_eq_true rfl)
  rw [show entryFrame m args 7 = entryFrame m ([.ref m0] : List Value).toArray 7 by rw [hargs], lg_entry_eq]
  generalize (lg_sl ([.ref m0]) ++ List.replicate (7 - (lg_sl ([.ref m0])).length) Slot.unset).toArray = ls at hl ⊢
  have hl : lv_has ls 7 [(0, .ref m0)] := hl
  obtain ⟨QQ, hQQ⟩ : ∃ Q, Q = MQ below (WrQ (some (.int (zi ((r_rt ((c_cir xs ys ml).1 / (c_cir xs ys ml).2) 27 0 : Nat) : Int)))) (dC, dI) vwCl [(m0, .inr (3, [.int (zi (0)), .int (zi ((mp : Int))), .ref a1, .ref a2, .ref a3, .ref a4, .ref a5, .ref a6, .int (zi ((mb : Int))), .ref a7, .ref a8, .int (zi ((ml : Int))), .ref a9, .ref a10, .int (zi ((mz : Int))), .ref a11, .long (zl ((((c_cir xs ys ml).1 : Nat) : Int))), .long (zl ((((c_cir xs ys ml).2 : Nat) : Int)))])), (a7, .inl (cA, 20, .inl (zA (xs)))), (a8, .inl (cA, 20, .inl (zA (ys))))] A) args s 0 0 A := ⟨_, rfl⟩
  rw [← hQQ]
  obtain ⟨H, hHe⟩ : ∃ H : Heap, H = s.heap := ⟨_, rfl⟩
  obtain ⟨locs, hlc⟩ : ∃ x : List Loc, x = [] := ⟨_, rfl⟩
  have hS : va_S A s.heap H locs := by rw [hHe, hlc]; exact va_S.rf
  have hP : va_P (dC, dI) vwCl [(m0, .inr (3, [.int (zi (tw)), .int (zi ((mp : Int))), .ref a1, .ref a2, .ref a3, .ref a4, .ref a5, .ref a6, .int (zi ((mb : Int))), .ref a7, .ref a8, .int (zi ((ml : Int))), .ref a9, .ref a10, .int (zi ((mz : Int))), .ref a11, .long (zl (ab)), .long (zl (be))])), (a7, .inl (cA, 20, .inl (zA (xs)))), (a8, .inl (cA, 20, .inl (zA (ys))))] H := by rw [hHe]; exact hP
  have hD : va_D A [(m0, .inr (3, [.int (zi (tw)), .int (zi ((mp : Int))), .ref a1, .ref a2, .ref a3, .ref a4, .ref a5, .ref a6, .int (zi ((mb : Int))), .ref a7, .ref a8, .int (zi ((ml : Int))), .ref a9, .ref a10, .int (zi ((mz : Int))), .ref a11, .long (zl (ab)), .long (zl (be))])), (a7, .inl (cA, 20, .inl (zA (xs)))), (a8, .inl (cA, 20, .inl (zA (ys))))] := hD
  rw [← hHe, ← hlc]
  have hcc := c_cir_bd hX hY ml
  have hdv := c_cir_v hX hY ml
  obtain ⟨v, hv9⟩ : ∃ v, v = (c_cir xs ys ml).1 / (c_cir xs ys ml).2 := ⟨_, rfl⟩
  rw [← hv9] at hdv
  refine lv_aload_n hx hb dX3_curve_0 rfl (lv_at hl 0 rfl) ?_
  refine lv_aload_n hx hb dX3_curve_1 rfl (lv_at hl 0 rfl) ?_
  refine va_get (D := (dC, dI)) (ci := 3) (v := .int (zi ((ml : Int)))) (C := RX3) (T := TX3) (N := 18) hx hb hg inX3 hown hK hP 0 rfl rfl 11 (by decide) (hg _ wl_X3_139) (fun _ h9 => h9) rfl dX3_curve_2 ?_
  refine lv_iconst (v := zi (3)) hx hb dX3_curve_5 rfl ?_
  refine zz_icmp_ge (tgt := 13) hx hb (by omega) (by omega) dX3_curve_6 (by decide) (fun c_6 => ?_) (fun c_6 => ?_)
  · refine lv_iconst (v := zi (0)) hx hb dX3_curve_13 rfl ?_
    refine lv_iconst (v := zi (0)) hx hb dX3_curve_14 rfl ?_
    refine lv_iconst (v := zi (0)) hx hb dX3_curve_15 rfl ?_
    refine wrV (As := [.int (zi (0)), .int (zi (0)), .int (zi (0))]) (rest := []) (n := 3) (ws' := [(m0, .inr (3, [.int (zi (0)), .int (zi ((mp : Int))), .ref a1, .ref a2, .ref a3, .ref a4, .ref a5, .ref a6, .int (zi ((mb : Int))), .ref a7, .ref a8, .int (zi ((ml : Int))), .ref a9, .ref a10, .int (zi ((mz : Int))), .ref a11, .long (zl (ab)), .long (zl (be))])), (a7, .inl (cA, 20, .inl (zA (xs)))), (a8, .inl (cA, 20, .inl (zA (ys))))]) hx hb hml hown hg (c_throwing l dC dI H.size m0 a1 a2 a3 a4 a5 a6 a7 a8 a9 a10 a11 (tw) (ab) (be) mp mb ml mz 0 0 0 (by decide) (by decide) (by decide)) (gwV wl_X3_59 wm_X3_throwing we_X3_throwing wi_X3 wc_X3_throwing) rfl rfl (by decide +kernel) ⟨Nat.le_of_ble_eq_true rfl, Nat.le_of_ble_eq_true rfl⟩ (hK.sub [] rfl) hP hD hS hA [0] rfl (by decide) [(true, 0), (false, 1), (false, 2)] rfl (by decide) rfl 0 rfl rfl rfl rfl hl.1 rfl (Nat.le_of_ble_eq_true rfl) dX3_curve_16 ⟨Nat.zero_le _, Nat.zero_le _⟩ (fun H locs hP hD hS => ?_)
    refine zz_topi (z := 0) (congrArg zi (by decide)) ?_
    refine zz_if_eq (tgt := 24) hx hb (by omega) dX3_curve_19 (by decide) (fun c_19 => ?_) (fun c_19 => ?_)
    · refine lv_aload_n hx hb dX3_curve_24 rfl (lv_at hl 0 rfl) ?_
      refine wrV (As := []) (rest := []) (n := 0) (ws' := [(m0, .inr (3, [.int (zi (0)), .int (zi ((mp : Int))), .ref a1, .ref a2, .ref a3, .ref a4, .ref a5, .ref a6, .int (zi ((mb : Int))), .ref a7, .ref a8, .int (zi ((ml : Int))), .ref a9, .ref a10, .int (zi ((mz : Int))), .ref a11, .long (zl ((((c_cir xs ys ml).1 : Nat) : Int))), .long (zl ((((c_cir xs ys ml).2 : Nat) : Int)))])), (a7, .inl (cA, 20, .inl (zA (xs)))), (a8, .inl (cA, 20, .inl (zA (ys))))]) hx hb hml hown hg (c_X3_round l dC dI H.size m0 a1 a2 a3 a4 a5 a6 a7 a8 a9 a10 a11 (0) (ab) (be) mp mb ml mz cA xs ys hl3 hX hY) (gwV wl_X3_147 wm_X3_round we_X3_round wi_X3 wc_X3_round) rfl rfl (by decide +kernel) ⟨Nat.le_of_ble_eq_true rfl, Nat.le_of_ble_eq_true rfl⟩ (hK.sub [0] rfl) hP hD hS hA [0, 1, 2] rfl (by decide) [(true, 0), (true, 1), (true, 2)] rfl (by decide) rfl 0 rfl rfl rfl rfl hl.1 rfl (Nat.le_of_ble_eq_true rfl) dX3_curve_25 ⟨Nat.zero_le _, Nat.zero_le _⟩ (fun H locs hP hD hS => ?_)
      refine lv_aload_n hx hb dX3_curve_28 rfl (lv_at hl 0 rfl) ?_
      refine va_get (D := (dC, dI)) (ci := 3) (v := .long (zl ((((c_cir xs ys ml).1 : Nat) : Int)))) (C := RX3) (T := TX3) (N := 18) hx hb hg inX3 hown hK hP 0 rfl rfl 16 (by decide) (hg _ wl_X3_84) (fun _ h9 => h9) rfl dX3_curve_29 ?_
      refine lv_aload_n hx hb dX3_curve_32 rfl (lv_at hl 0 rfl) ?_
      refine va_get (D := (dC, dI)) (ci := 3) (v := .long (zl ((((c_cir xs ys ml).2 : Nat) : Int)))) (C := RX3) (T := TX3) (N := 18) hx hb hg inX3 hown hK hP 0 rfl rfl 17 (by decide) (hg _ wl_X3_44) (fun _ h9 => h9) rfl dX3_curve_33 ?_
      refine zz_ldiv hx hb (by omega) (by omega) dX3_curve_36 ?_
      refine zz_topl (z := (v : Int)) (congrArg zl (by rw [hv9]; rfl)) ?_
      refine lv_lstore_n (lv' := [(1, .long (zl ((v : Int)))), (0, .ref m0)]) hx hb dX3_curve_37 rfl hl (by decide) rfl (fun ls hl => ?_)
      refine lv_lconst (v := zl (0)) hx hb dX3_curve_38 (by decide) ?_
      refine zz_topl (z := ((0 : Nat) : Int)) (congrArg zl rfl) ?_
      refine lv_lstore_n (lv' := [(3, .long (zl (((0 : Nat) : Int)))), (1, .long (zl ((v : Int)))), (0, .ref m0)]) hx hb dX3_curve_39 rfl hl (by decide) rfl (fun ls hl => ?_)
      refine lv_ldc2 (v := 1073741824) hx hb hown (hg _ wl_X3_150) dX3_curve_40 ?_
      refine zz_topl (z := 1073741824) (by decide) ?_
      refine zz_topl (z := ((1073741824 : Nat) : Int)) rfl ?_
      refine lv_lstore (lv' := [(5, .long (zl (((1073741824 : Nat) : Int)))), (3, .long (zl (((0 : Nat) : Int)))), (1, .long (zl ((v : Int)))), (0, .ref m0)]) hx hb dX3_curve_43 hl (by decide) rfl (fun ls hl => ?_)
      have key_45 : ∀ (n_ : Nat) (b bt r : Nat), bt = 2 ^ b / 2 → r + 2 * bt ≤ 2147483648 → r_rt v b r = r_rt v 31 0 → b < n_ → ∀ (H : Heap) (locs : List Loc), va_P (dC, dI) vwCl [(m0, .inr (3, [.int (zi (0)), .int (zi ((mp : Int))), .ref a1, .ref a2, .ref a3, .ref a4, .ref a5, .ref a6, .int (zi ((mb : Int))), .ref a7, .ref a8, .int (zi ((ml : Int))), .ref a9, .ref a10, .int (zi ((mz : Int))), .ref a11, .long (zl ((((c_cir xs ys ml).1 : Nat) : Int))), .long (zl ((((c_cir xs ys ml).2 : Nat) : Int)))])), (a7, .inl (cA, 20, .inl (zA (xs)))), (a8, .inl (cA, 20, .inl (zA (ys))))] H → va_D A [(m0, .inr (3, [.int (zi (0)), .int (zi ((mp : Int))), .ref a1, .ref a2, .ref a3, .ref a4, .ref a5, .ref a6, .int (zi ((mb : Int))), .ref a7, .ref a8, .int (zi ((ml : Int))), .ref a9, .ref a10, .int (zi ((mz : Int))), .ref a11, .long (zl ((((c_cir xs ys ml).1 : Nat) : Int))), .long (zl ((((c_cir xs ys ml).2 : Nat) : Int)))])), (a7, .inl (cA, 20, .inl (zA (xs)))), (a8, .inl (cA, 20, .inl (zA (ys))))] → va_S A s.heap H locs → ∀ (ls : Array Slot), lv_has ls 7 [(5, .long (zl ((bt : Int)))), (3, .long (zl ((r : Int)))), (1, .long (zl ((v : Int)))), (0, .ref m0)] → W p l e rm_X3_curve s m args below meth c H locs 0 0 QQ (F0 m 45 ls []) := by
        intro n_45
        induction n_45 with
        | zero => intro b bt r hbt hrb ht hm_; exact absurd hm_ (Nat.not_lt_zero _)
        | succ n_45 ih_45 =>
          intro b bt r hbt hrb ht hm_ H locs hP hD hS ls hl
          refine lv_lload hx hb dX3_curve_45 (lv_at hl 0 rfl) ?_
          refine lv_lconst (v := zl (0)) hx hb dX3_curve_47 (by decide) ?_
          refine zz_lcmp_le (tgt := 82) hx hb (by omega) (by omega) dX3_curve_48 dX3_curve_49 (by decide) (fun c_48 => ?_) (fun c_48 => ?_)
          · have hb0 : b = 0 := by
              rcases Nat.eq_zero_or_pos b with e | e
              · exact e
              · have hq9 := m_bit e; rw [← hbt] at hq9; omega
            refine lv_lload_n hx hb dX3_curve_82 rfl (lv_at hl 1 rfl) ?_
            refine zz_l2i hx hb dX3_curve_83 ?_
            have hP9 : va_P (dC, dI) vwCl [(m0, .inr (3, [.int (zi (0)), .int (zi ((mp : Int))), .ref a1, .ref a2, .ref a3, .ref a4, .ref a5, .ref a6, .int (zi ((mb : Int))), .ref a7, .ref a8, .int (zi ((ml : Int))), .ref a9, .ref a10, .int (zi ((mz : Int))), .ref a11, .long (zl ((((c_cir xs ys ml).1 : Nat) : Int))), .long (zl ((((c_cir xs ys ml).2 : Nat) : Int)))])), (a7, .inl (cA, 20, .inl (zA (xs)))), (a8, .inl (cA, 20, .inl (zA (ys))))] H := hP
            rw [hQQ]
            exact wr_i hx hb hr hlocks (by rw [← hv9, ← r_rt_31 hdv, ← ht, hb0, r_rt]) hP9 hS dX3_curve_84
          · have hb1 : 1 ≤ b := by
              rcases Nat.eq_zero_or_pos b with e | e
              · rw [e, show 2 ^ 0 / 2 = 0 from rfl] at hbt; omega
              · exact e
            have hb2 := m_bit hb1
            have hb3 : bt = 2 ^ (b - 1) := by rw [hbt]; exact hb2.1
            have hsq : (((r : Int)) + ((bt : Nat) : Int)) * (((r : Int)) + ((bt : Nat) : Int)) = (((r + bt) * (r + bt) : Nat) : Int) := by push_cast; rfl
            have hsb : (r + bt) * (r + bt) ≤ 2147483648 * 2147483648 := Nat.mul_le_mul (by omega) (by omega)
            refine lv_lload_n hx hb dX3_curve_52 rfl (lv_at hl 1 rfl) ?_
            refine lv_lload hx hb dX3_curve_53 (lv_at hl 0 rfl) ?_
            refine zz_ladd hx hb dX3_curve_55 ?_
            refine lv_lload_n hx hb dX3_curve_56 rfl (lv_at hl 1 rfl) ?_
            refine lv_lload hx hb dX3_curve_57 (lv_at hl 0 rfl) ?_
            refine zz_ladd hx hb dX3_curve_59 ?_
            refine zz_lmul hx hb dX3_curve_60 ?_
            refine lv_lload_n hx hb dX3_curve_61 rfl (lv_at hl 2 rfl) ?_
            refine zz_lcmp_gt (tgt := 71) hx hb (by rw [hsq]; omega) (by omega) dX3_curve_62 dX3_curve_63 (by decide) (fun c_62 => ?_) (fun c_62 => ?_)
            · refine lv_lload hx hb dX3_curve_71 (lv_at hl 0 rfl) ?_
              refine lv_ldc2 (v := 2) hx hb hown (hg _ wl_X3_152) dX3_curve_73 ?_
              refine zz_topl (z := 2) (by decide) ?_
              refine zz_ldiv hx hb (by omega) (by omega) dX3_curve_76 ?_
              refine zz_topl (z := ((bt / 2 : Nat) : Int)) (congrArg zl rfl) ?_
              refine lv_lstore (lv' := [(5, .long (zl (((bt / 2 : Nat) : Int)))), (3, .long (zl ((r : Int)))), (1, .long (zl ((v : Int)))), (0, .ref m0)]) hx hb dX3_curve_77 hl (by decide) rfl (fun ls hl => ?_)
              refine lv_goto (tgt := 45) hx hb dX3_curve_79 (by decide) ?_
              have hle : ¬ (r + bt) * (r + bt) ≤ v := r_gt (by rw [Int.natCast_add]; omega)
              exact ih_45 (b - 1) (bt / 2) r (by rw [hbt, hb2.2.1]) (by omega) (by rw [hb3] at hle; rw [← ht, r_sn hb1 hle]) (by omega) H locs (hP.sub [0, 1, 2] rfl) (hD.sub [0, 1, 2] (by decide) rfl) hS ls (lv_sub hl [0, 1, 2, 3] rfl)
            · refine lv_lload_n hx hb dX3_curve_66 rfl (lv_at hl 1 rfl) ?_
              refine lv_lload hx hb dX3_curve_67 (lv_at hl 0 rfl) ?_
              refine zz_ladd hx hb dX3_curve_69 ?_
              refine lv_lstore_n (lv' := [(3, .long (zl (((r : Int)) + ((bt : Int))))), (5, .long (zl ((bt : Int)))), (1, .long (zl ((v : Int)))), (0, .ref m0)]) hx hb dX3_curve_70 rfl hl (by decide) rfl (fun ls hl => ?_)
              refine lv_lload hx hb dX3_curve_71 (lv_at hl 1 rfl) ?_
              refine lv_ldc2 (v := 2) hx hb hown (hg _ wl_X3_152) dX3_curve_73 ?_
              refine zz_topl (z := 2) (by decide) ?_
              refine zz_ldiv hx hb (by omega) (by omega) dX3_curve_76 ?_
              refine zz_topl (z := ((bt / 2 : Nat) : Int)) (congrArg zl rfl) ?_
              refine lv_lstore (lv' := [(5, .long (zl (((bt / 2 : Nat) : Int)))), (3, .long (zl (((r : Int)) + ((bt : Int))))), (1, .long (zl ((v : Int)))), (0, .ref m0)]) hx hb dX3_curve_77 hl (by decide) rfl (fun ls hl => ?_)
              refine lv_goto (tgt := 45) hx hb dX3_curve_79 (by decide) ?_
              have hst : ((r : Int)) + ((bt : Int)) = ((r + bt : Nat) : Int) := (Int.natCast_add _ _).symm
              rw [hst] at hl
              have hle : (r + bt) * (r + bt) ≤ v := r_le (by rw [Int.natCast_add]; omega)
              exact ih_45 (b - 1) (bt / 2) (r + bt) (by rw [hbt, hb2.2.1]) (by omega) (by rw [hb3] at hle ⊢; rw [← ht, r_sy hb1 hle]) (by omega) H locs (hP.sub [0, 1, 2] rfl) (hD.sub [0, 1, 2] (by decide) rfl) hS ls (lv_sub hl [0, 1, 2, 3] rfl)
      exact key_45 _ 31 1073741824 0 (by decide) (by decide) rfl (Nat.lt_succ_self _) H locs (hP.sub [0, 1, 2] rfl) (hD.sub [0, 1, 2] (by decide) rfl) hS ls (lv_sub hl [0, 1, 2, 3] rfl)
    · exact absurd c_19 (by decide)
  · exact False.elim (by omega)

abbrev rm_X3_allOf : Room := { frames := 0, cells := 0, slots := 0, locals := 0 }
set_option maxHeartbeats 4000000 in
set_option maxRecDepth 100000 in
theorem c_X3_allOf (l : Launch) (dC : Nat → ClassId) (dI : Nat → Nat → Nat) (m0 a1 a2 a3 a4 a5 a6 a7 a8 a9 a10 a11 : Nat) (tw ab be : Int) (mp mb ml mz : Nat) (cA : ClassId) (spf ssf : Nat → Int) (q : Int) (hsn : mz ≤ 60) (hP9 : ∀ j, 0 ≤ spf j ∧ spf j ≤ 5) (hS9 : ∀ j, 0 ≤ ssf j ∧ ssf j ≤ 1000) (hq : -2147483648 ≤ q ∧ q < 2147483648) : Met l yX3_allOf (Cond.code yX3_allOf cX3_allOf 4 ((Option.some Jvm.ClassFile.FieldType.int)) :: gw) rm_X3_allOf (PcR [.ref m0, .int (zi (q))] (dC, dI) vwCl [(m0, .inr (3, [.int (zi (tw)), .int (zi ((mp : Int))), .ref a1, .ref a2, .ref a3, .ref a4, .ref a5, .ref a6, .int (zi ((mb : Int))), .ref a7, .ref a8, .int (zi ((ml : Int))), .ref a9, .ref a10, .int (zi ((mz : Int))), .ref a11, .long (zl (ab)), .long (zl (be))])), (a9, .inl (cA, 60, .inl (zA (spf)))), (a10, .inl (cA, 60, .inl (zA (ssf))))] [(cA, .int)]) (RdQ (some (.int (zi (s_sum spf ssf q mz))))) 0 0 (fun _ => False) := by
  refine Met.ofW (cc := cX3_allOf) (maxL := 4) (ret := ((Option.some Jvm.ClassFile.FieldType.int))) (by decide) rfl ?_
  intro p e s m args below meth c s₁ B hml hv
  obtain ⟨hargs, hP, hK⟩ := hv
  have hx := B.exec
  have hb := B.bytes
  have hr := B.returns
  have hts := atoms_spec (ws := Cond.code yX3_allOf cX3_allOf 4 ((Option.some Jvm.ClassFile.FieldType.int)) :: gw) B.pre
  have hg : ∀ w ∈ gw, w.before args s = true := fun w h => hts w (List.mem_cons_of_mem _ h)
  have hown : s.vm.findClass RX3 = some m.cls := findClass_of_methodNamed B.named
  have hlocks := B.notSynchronized
  show W p l e rm_X3_allOf s m args below meth c s.heap [] 0 0 _ _
  have hl := lv_entry ([.ref m0, .int (zi (q))]) (n := 4) (Nat.le_of_ble_eq_true rfl)
  rw [show entryFrame m args 4 = entryFrame m ([.ref m0, .int (zi (q))] : List Value).toArray 4 by rw [hargs], lg_entry_eq]
  generalize (lg_sl ([.ref m0, .int (zi (q))]) ++ List.replicate (4 - (lg_sl ([.ref m0, .int (zi (q))])).length) Slot.unset).toArray = ls at hl ⊢
  have hl : lv_has ls 4 [(0, .ref m0), (1, .int (zi (q)))] := hl
  obtain ⟨QQ, hQQ⟩ : ∃ Q, Q = MQ below (RdQ (some (.int (zi (s_sum spf ssf q mz))))) args s 0 0 (fun _ => False) := ⟨_, rfl⟩
  rw [← hQQ]
  refine lv_iconst (v := zi (0)) hx hb dX3_allOf_0 rfl ?_
  refine lv_istore_n (lv' := [(2, .int (zi (0))), (0, .ref m0), (1, .int (zi (q)))]) hx hb dX3_allOf_1 rfl hl (by decide) rfl (fun ls hl => ?_)
  refine lv_iconst (v := zi (0)) hx hb dX3_allOf_2 rfl ?_
  refine lv_istore_n (lv' := [(3, .int (zi (0))), (2, .int (zi (0))), (0, .ref m0), (1, .int (zi (q)))]) hx hb dX3_allOf_3 rfl hl (by decide) rfl (fun ls hl => ?_)
  have key_4 : ∀ (n_ : Nat) (t : Nat), t ≤ mz → mz - t < n_ → ∀ (ls : Array Slot), lv_has ls 4 [(3, .int (zi ((t : Int)))), (2, .int (zi (s_sum spf ssf q t))), (1, .int (zi (q))), (0, .ref m0)] → W p l e rm_X3_allOf s m args below meth c s.heap [] 0 0 QQ (F0 m 4 ls []) := by
    intro n_4
    induction n_4 with
    | zero => intro t ht hm_; exact absurd hm_ (Nat.not_lt_zero _)
    | succ n_4 ih_4 =>
      intro t ht hm_ ls hl
      refine lv_iload_n hx hb dX3_allOf_4 rfl (lv_at hl 0 rfl) ?_
      refine lv_aload_n hx hb dX3_allOf_5 rfl (lv_at hl 3 rfl) ?_
      refine va_get (D := (dC, dI)) (ci := 3) (v := .int (zi ((mz : Int)))) (C := RX3) (T := TX3) (N := 18) hx hb hg inX3 hown hK hP 0 rfl rfl 14 (by decide) (hg _ wl_X3_154) (fun _ h9 => h9) rfl dX3_allOf_6 ?_
      refine zz_icmp_ge (tgt := 41) hx hb (by omega) (by omega) dX3_allOf_9 (by decide) (fun c_9 => ?_) (fun c_9 => ?_)
      · refine lv_iload_n hx hb dX3_allOf_41 rfl (lv_at hl 1 rfl) ?_
        rw [hQQ]
        exact rd_i hx hb hr hlocks (by rw [show mz = t by omega]) dX3_allOf_42
      · refine lv_iload_n hx hb dX3_allOf_12 rfl (lv_at hl 1 rfl) ?_
        refine lv_aload_n hx hb dX3_allOf_13 rfl (lv_at hl 3 rfl) ?_
        refine va_get (D := (dC, dI)) (ci := 3) (v := .ref a9) (C := RX3) (T := TX3) (N := 18) hx hb hg inX3 hown hK hP 0 rfl rfl 12 (by decide) (hg _ wl_X3_35) (fun _ h9 => h9) rfl dX3_allOf_14 ?_
        refine lv_iload_n hx hb dX3_allOf_17 rfl (lv_at hl 0 rfl) ?_
        refine zz_iald hx hb hK hP 1 0 rfl rfl (t) (by omega) (by omega) (by decide) dX3_allOf_18 ?_
        have hv_1 := hP9 (t)
        refine lv_iload_n hx hb dX3_allOf_19 rfl (lv_at hl 2 rfl) ?_
        refine zz_icmp_ne (tgt := 32) hx hb (by omega) (by omega) dX3_allOf_20 (by decide) (fun c_20 => ?_) (fun c_20 => ?_)
        · refine lv_iconst (v := zi (0)) hx hb dX3_allOf_32 rfl ?_
          refine zz_iadd hx hb dX3_allOf_33 ?_
          refine lv_istore_n (lv' := [(2, .int (zi ((s_sum spf ssf q t) + (0)))), (3, .int (zi ((t : Int)))), (1, .int (zi (q))), (0, .ref m0)]) hx hb dX3_allOf_34 rfl hl (by decide) rfl (fun ls hl => ?_)
          refine lv_iinc (v := zi (((t : Int)) + (1))) (lv' := [(3, .int (zi (((t : Int)) + (1)))), (2, .int (zi ((s_sum spf ssf q t) + (0)))), (1, .int (zi (q))), (0, .ref m0)]) hx hb dX3_allOf_35 hl (k := 1) rfl (zi_add _ _) (by decide) rfl (fun ls hl => ?_)
          refine lv_goto (tgt := 4) hx hb dX3_allOf_38 (by decide) ?_
          have hst : s_sum spf ssf q (t + 1) = (s_sum spf ssf q t) + (0) := by rw [s_sum, if_neg c_20]
          rw [← hst] at hl
          exact ih_4 (t + 1) (by omega) (by omega) ls (lv_sub hl [0, 1, 2, 3] rfl)
        · refine lv_aload_n hx hb dX3_allOf_23 rfl (lv_at hl 3 rfl) ?_
          refine va_get (D := (dC, dI)) (ci := 3) (v := .ref a10) (C := RX3) (T := TX3) (N := 18) hx hb hg inX3 hown hK hP 0 rfl rfl 13 (by decide) (hg _ wl_X3_38) (fun _ h9 => h9) rfl dX3_allOf_24 ?_
          refine lv_iload_n hx hb dX3_allOf_27 rfl (lv_at hl 0 rfl) ?_
          refine zz_iald hx hb hK hP 2 0 rfl rfl (t) (by omega) (by omega) (by decide) dX3_allOf_28 ?_
          have hv_2 := hS9 (t)
          refine lv_goto (tgt := 33) hx hb dX3_allOf_29 (by decide) ?_
          refine zz_iadd hx hb dX3_allOf_33 ?_
          refine lv_istore_n (lv' := [(2, .int (zi ((s_sum spf ssf q t) + (ssf (t))))), (3, .int (zi ((t : Int)))), (1, .int (zi (q))), (0, .ref m0)]) hx hb dX3_allOf_34 rfl hl (by decide) rfl (fun ls hl => ?_)
          refine lv_iinc (v := zi (((t : Int)) + (1))) (lv' := [(3, .int (zi (((t : Int)) + (1)))), (2, .int (zi ((s_sum spf ssf q t) + (ssf (t))))), (1, .int (zi (q))), (0, .ref m0)]) hx hb dX3_allOf_35 hl (k := 1) rfl (zi_add _ _) (by decide) rfl (fun ls hl => ?_)
          refine lv_goto (tgt := 4) hx hb dX3_allOf_38 (by decide) ?_
          have hst : s_sum spf ssf q (t + 1) = (s_sum spf ssf q t) + (ssf (t)) := by rw [s_sum, if_pos c_20]
          rw [← hst] at hl
          exact ih_4 (t + 1) (by omega) (by omega) ls (lv_sub hl [0, 1, 2, 3] rfl)
  exact key_4 _ 0 (Nat.zero_le _) (Nat.lt_succ_self _) ls (lv_sub hl [0, 1, 3, 2] rfl)

abbrev rm_X3_sherd : Room := { frames := 2, cells := 0, slots := 0, locals := 43 }
set_option maxHeartbeats 4000000 in
set_option maxRecDepth 100000 in
theorem e_sherd_1 (l : Launch) (dC : Nat → ClassId) (dI : Nat → Nat → Nat) (sz : Nat) (m0 a1 a2 a3 a4 a5 a6 a7 a8 a9 a10 a11 : Nat) (tw ab be : Int) (mp mb ml mz : Nat) (q v : Int) (hmp : mp ≤ 6) (h_q : -2147483648 ≤ q ∧ q < 2147483648) (h_v : -2147483648 ≤ v ∧ v < 2147483648) (hsz : mz ≤ 60) (hbad : ¬ (0 ≤ q ∧ q < (mp : Int))) : Met l yX3_sherd (Cond.code yX3_sherd cX3_sherd 3 ((Option.some Jvm.ClassFile.FieldType.int)) :: gw) rm_X3_sherd (PcW [.ref m0, .int (zi (q)), .int (zi (v))] (dC, dI) vwCl [(m0, .inr (3, [.int (zi (tw)), .int (zi ((mp : Int))), .ref a1, .ref a2, .ref a3, .ref a4, .ref a5, .ref a6, .int (zi ((mb : Int))), .ref a7, .ref a8, .int (zi ((ml : Int))), .ref a9, .ref a10, .int (zi ((mz : Int))), .ref a11, .long (zl (ab)), .long (zl (be))]))] [] sz) (WrQ (some (.int (zi 0))) (dC, dI) vwCl [(m0, .inr (3, [.int (zi (1)), .int (zi ((mp : Int))), .ref a1, .ref a2, .ref a3, .ref a4, .ref a5, .ref a6, .int (zi ((mb : Int))), .ref a7, .ref a8, .int (zi ((ml : Int))), .ref a9, .ref a10, .int (zi ((mz : Int))), .ref a11, .long (zl (ab)), .long (zl (be))]))] (va_A [(m0, .inr (3, [.int (zi (tw)), .int (zi ((mp : Int))), .ref a1, .ref a2, .ref a3, .ref a4, .ref a5, .ref a6, .int (zi ((mb : Int))), .ref a7, .ref a8, .int (zi ((ml : Int))), .ref a9, .ref a10, .int (zi ((mz : Int))), .ref a11, .long (zl (ab)), .long (zl (be))]))] sz)) 0 0 (va_A [(m0, .inr (3, [.int (zi (tw)), .int (zi ((mp : Int))), .ref a1, .ref a2, .ref a3, .ref a4, .ref a5, .ref a6, .int (zi ((mb : Int))), .ref a7, .ref a8, .int (zi ((ml : Int))), .ref a9, .ref a10, .int (zi ((mz : Int))), .ref a11, .long (zl (ab)), .long (zl (be))]))] sz) := by
  refine Met.ofW (cc := cX3_sherd) (maxL := 3) (ret := ((Option.some Jvm.ClassFile.FieldType.int))) (by decide) rfl ?_
  intro p e s m args below meth c s₁ B hml hv
  obtain ⟨hargs, hsz, hP, hK, hD0⟩ := hv
  have hx := B.exec
  have hb := B.bytes
  have hr := B.returns
  have hts := atoms_spec (ws := Cond.code yX3_sherd cX3_sherd 3 ((Option.some Jvm.ClassFile.FieldType.int)) :: gw) B.pre
  have hg : ∀ w ∈ gw, w.before args s = true := fun w h => hts w (List.mem_cons_of_mem _ h)
  have hown : s.vm.findClass RX3 = some m.cls := findClass_of_methodNamed B.named
  have hlocks := B.notSynchronized
  subst hsz
  have hD := hD0.self (sz := s.heap.size)
  generalize hAe : va_A [(m0, .inr (3, [.int (zi (tw)), .int (zi ((mp : Int))), .ref a1, .ref a2, .ref a3, .ref a4, .ref a5, .ref a6, .int (zi ((mb : Int))), .ref a7, .ref a8, .int (zi ((ml : Int))), .ref a9, .ref a10, .int (zi ((mz : Int))), .ref a11, .long (zl (ab)), .long (zl (be))]))] s.heap.size = A at hD ⊢
  have hA : ∀ q : Nat, s.heap.size ≤ q → A q := fun q h => by rw [← hAe]; exact Or.inr h
  show W p l e rm_X3_sherd s m args below meth c s.heap [] 0 0 _ _
  have hl := lv_entry ([.ref m0, .int (zi (q)), .int (zi (v))]) (n := 3) (Nat.le_of_ble_eq_true rfl)
  rw [show entryFrame m args 3 = entryFrame m ([.ref m0, .int (zi (q)), .int (zi (v))] : List Value).toArray 3 by rw [hargs], lg_entry_eq]
  generalize (lg_sl ([.ref m0, .int (zi (q)), .int (zi (v))]) ++ List.replicate (3 - (lg_sl ([.ref m0, .int (zi (q)), .int (zi (v))])).length) Slot.unset).toArray = ls at hl ⊢
  have hl : lv_has ls 3 [(0, .ref m0), (1, .int (zi (q))), (2, .int (zi (v)))] := hl
  obtain ⟨QQ, hQQ⟩ : ∃ Q, Q = MQ below (WrQ (some (.int (zi 0))) (dC, dI) vwCl [(m0, .inr (3, [.int (zi (1)), .int (zi ((mp : Int))), .ref a1, .ref a2, .ref a3, .ref a4, .ref a5, .ref a6, .int (zi ((mb : Int))), .ref a7, .ref a8, .int (zi ((ml : Int))), .ref a9, .ref a10, .int (zi ((mz : Int))), .ref a11, .long (zl (ab)), .long (zl (be))]))] A) args s 0 0 A := ⟨_, rfl⟩
  rw [← hQQ]
  obtain ⟨H, hHe⟩ : ∃ H : Heap, H = s.heap := ⟨_, rfl⟩
  obtain ⟨locs, hlc⟩ : ∃ x : List Loc, x = [] := ⟨_, rfl⟩
  have hS : va_S A s.heap H locs := by rw [hHe, hlc]; exact va_S.rf
  have hP : va_P (dC, dI) vwCl [(m0, .inr (3, [.int (zi (tw)), .int (zi ((mp : Int))), .ref a1, .ref a2, .ref a3, .ref a4, .ref a5, .ref a6, .int (zi ((mb : Int))), .ref a7, .ref a8, .int (zi ((ml : Int))), .ref a9, .ref a10, .int (zi ((mz : Int))), .ref a11, .long (zl (ab)), .long (zl (be))]))] H := by rw [hHe]; exact hP
  have hD : va_D A [(m0, .inr (3, [.int (zi (tw)), .int (zi ((mp : Int))), .ref a1, .ref a2, .ref a3, .ref a4, .ref a5, .ref a6, .int (zi ((mb : Int))), .ref a7, .ref a8, .int (zi ((ml : Int))), .ref a9, .ref a10, .int (zi ((mz : Int))), .ref a11, .long (zl (ab)), .long (zl (be))]))] := hD
  rw [← hHe, ← hlc]
  refine lv_aload_n hx hb dX3_sherd_0 rfl (lv_at hl 0 rfl) ?_
  refine lv_aload_n hx hb dX3_sherd_1 rfl (lv_at hl 0 rfl) ?_
  refine lv_iload_n hx hb dX3_sherd_2 rfl (lv_at hl 1 rfl) ?_
  refine rdV (As := [.int (zi (q))]) (rest := [.ref m0]) (n := 1) hx hb hml hown hg (c_X3_isProfile l dC dI m0 a1 a2 a3 a4 a5 a6 a7 a8 a9 a10 a11 (tw) (ab) (be) mp mb ml mz (q) hmp (by omega)) (gwV wl_X3_70 wm_X3_isProfile we_X3_isProfile wi_X3 wc_X3_isProfile) rfl rfl (by decide +kernel) ⟨Nat.le_of_ble_eq_true rfl, Nat.le_of_ble_eq_true rfl⟩ (hK.sub [] rfl) (hP.sub [0] rfl) 0 rfl rfl rfl rfl hl.1 rfl (Nat.le_of_ble_eq_true rfl) dX3_sherd_3 ⟨Nat.zero_le _, Nat.zero_le _⟩ ?_
  refine zz_topi (z := 0) (congrArg zi (zb_f (decide_eq_false (by omega)))) ?_
  refine zz_if_ne (tgt := 13) hx hb (by omega) dX3_sherd_6 (by decide) (fun c_6 => ?_) (fun c_6 => ?_)
  · exact absurd c_6 (by decide)
  · refine lv_iconst (v := zi (1)) hx hb dX3_sherd_9 rfl ?_
    refine lv_goto (tgt := 14) hx hb dX3_sherd_10 (by decide) ?_
    refine lv_iload_n hx hb dX3_sherd_14 rfl (lv_at hl 2 rfl) ?_
    refine lv_iconst (v := zi (1)) hx hb dX3_sherd_15 rfl ?_
    refine lv_sipush (v := zi (1000)) hx hb dX3_sherd_16 (by decide) ?_
    refine rdS (As := [.int (zi (v)), .int (zi (1)), .int (zi (1000))]) (rest := [.int (zi (1)), .ref m0]) (n := 3) hx hb hml hown hg (c_X3_in l (v) (1) (1000) (by omega) (by omega) (by omega)) (gwS wl_X3_55 wt_X3_in wi_X3 wc_X3_in) rfl rfl (by decide +kernel) ⟨Nat.le_of_ble_eq_true rfl, Nat.le_of_ble_eq_true rfl⟩ rfl hl.1 rfl (Nat.le_of_ble_eq_true rfl) dX3_sherd_19 ⟨Nat.zero_le _, Nat.zero_le _⟩ ?_
    refine zz_zb_ne (tgt := 29) hx hb dX3_sherd_22 (by decide) (fun c_22 => ?_) (fun c_22 => ?_)
    · refine lv_iconst (v := zi (0)) hx hb dX3_sherd_29 rfl ?_
      refine lv_aload_n hx hb dX3_sherd_30 rfl (lv_at hl 0 rfl) ?_
      refine va_get (D := (dC, dI)) (ci := 3) (v := .int (zi ((mz : Int)))) (C := RX3) (T := TX3) (N := 18) hx hb hg inX3 hown hK hP 0 rfl rfl 14 (by decide) (hg _ wl_X3_154) (fun _ h9 => h9) rfl dX3_sherd_31 ?_
      refine lv_bipush (v := zi (60)) hx hb dX3_sherd_34 (by decide) ?_
      refine zz_icmp_ne (tgt := 43) hx hb (by omega) (by omega) dX3_sherd_36 (by decide) (fun c_36 => ?_) (fun c_36 => ?_)
      · refine lv_iconst (v := zi (0)) hx hb dX3_sherd_43 rfl ?_
        refine wrV (As := [.int (zi (1)), .int (zi (0)), .int (zi (0))]) (rest := []) (n := 3) (ws' := [(m0, .inr (3, [.int (zi (1)), .int (zi ((mp : Int))), .ref a1, .ref a2, .ref a3, .ref a4, .ref a5, .ref a6, .int (zi ((mb : Int))), .ref a7, .ref a8, .int (zi ((ml : Int))), .ref a9, .ref a10, .int (zi ((mz : Int))), .ref a11, .long (zl (ab)), .long (zl (be))]))]) hx hb hml hown hg (c_throwing l dC dI H.size m0 a1 a2 a3 a4 a5 a6 a7 a8 a9 a10 a11 (tw) (ab) (be) mp mb ml mz 1 0 0 (by decide) (by decide) (by decide)) (gwV wl_X3_59 wm_X3_throwing we_X3_throwing wi_X3 wc_X3_throwing) rfl rfl (by decide +kernel) ⟨Nat.le_of_ble_eq_true rfl, Nat.le_of_ble_eq_true rfl⟩ (hK.sub [] rfl) hP hD hS hA [0] rfl (by decide) [(true, 0)] rfl (by decide) rfl 0 rfl rfl rfl rfl hl.1 rfl (Nat.le_of_ble_eq_true rfl) dX3_sherd_44 ⟨Nat.zero_le _, Nat.zero_le _⟩ (fun H locs hP hD hS => ?_)
        refine zz_topi (z := 1) (congrArg zi (by decide)) ?_
        refine zz_if_eq (tgt := 52) hx hb (by omega) dX3_sherd_47 (by decide) (fun c_47 => ?_) (fun c_47 => ?_)
        · exact absurd c_47 (by decide)
        · refine lv_iconst (v := zi (0)) hx hb dX3_sherd_50 rfl ?_
          have hP9 : va_P (dC, dI) vwCl [(m0, .inr (3, [.int (zi (1)), .int (zi ((mp : Int))), .ref a1, .ref a2, .ref a3, .ref a4, .ref a5, .ref a6, .int (zi ((mb : Int))), .ref a7, .ref a8, .int (zi ((ml : Int))), .ref a9, .ref a10, .int (zi ((mz : Int))), .ref a11, .long (zl (ab)), .long (zl (be))]))] H := hP
          rw [hQQ]
          exact wr_i hx hb hr hlocks rfl hP9 hS dX3_sherd_51
      · refine lv_iconst (v := zi (1)) hx hb dX3_sherd_39 rfl ?_
        refine lv_goto (tgt := 44) hx hb dX3_sherd_40 (by decide) ?_
        refine wrV (As := [.int (zi (1)), .int (zi (0)), .int (zi (1))]) (rest := []) (n := 3) (ws' := [(m0, .inr (3, [.int (zi (1)), .int (zi ((mp : Int))), .ref a1, .ref a2, .ref a3, .ref a4, .ref a5, .ref a6, .int (zi ((mb : Int))), .ref a7, .ref a8, .int (zi ((ml : Int))), .ref a9, .ref a10, .int (zi ((mz : Int))), .ref a11, .long (zl (ab)), .long (zl (be))]))]) hx hb hml hown hg (c_throwing l dC dI H.size m0 a1 a2 a3 a4 a5 a6 a7 a8 a9 a10 a11 (tw) (ab) (be) mp mb ml mz 1 0 1 (by decide) (by decide) (by decide)) (gwV wl_X3_59 wm_X3_throwing we_X3_throwing wi_X3 wc_X3_throwing) rfl rfl (by decide +kernel) ⟨Nat.le_of_ble_eq_true rfl, Nat.le_of_ble_eq_true rfl⟩ (hK.sub [] rfl) hP hD hS hA [0] rfl (by decide) [(true, 0)] rfl (by decide) rfl 0 rfl rfl rfl rfl hl.1 rfl (Nat.le_of_ble_eq_true rfl) dX3_sherd_44 ⟨Nat.zero_le _, Nat.zero_le _⟩ (fun H locs hP hD hS => ?_)
        refine zz_topi (z := 1) (congrArg zi (by decide)) ?_
        refine zz_if_eq (tgt := 52) hx hb (by omega) dX3_sherd_47 (by decide) (fun c_47 => ?_) (fun c_47 => ?_)
        · exact absurd c_47 (by decide)
        · refine lv_iconst (v := zi (0)) hx hb dX3_sherd_50 rfl ?_
          have hP9 : va_P (dC, dI) vwCl [(m0, .inr (3, [.int (zi (1)), .int (zi ((mp : Int))), .ref a1, .ref a2, .ref a3, .ref a4, .ref a5, .ref a6, .int (zi ((mb : Int))), .ref a7, .ref a8, .int (zi ((ml : Int))), .ref a9, .ref a10, .int (zi ((mz : Int))), .ref a11, .long (zl (ab)), .long (zl (be))]))] H := hP
          rw [hQQ]
          exact wr_i hx hb hr hlocks rfl hP9 hS dX3_sherd_51
    · refine lv_iconst (v := zi (1)) hx hb dX3_sherd_25 rfl ?_
      refine lv_goto (tgt := 30) hx hb dX3_sherd_26 (by decide) ?_
      refine lv_aload_n hx hb dX3_sherd_30 rfl (lv_at hl 0 rfl) ?_
      refine va_get (D := (dC, dI)) (ci := 3) (v := .int (zi ((mz : Int)))) (C := RX3) (T := TX3) (N := 18) hx hb hg inX3 hown hK hP 0 rfl rfl 14 (by decide) (hg _ wl_X3_154) (fun _ h9 => h9) rfl dX3_sherd_31 ?_
      refine lv_bipush (v := zi (60)) hx hb dX3_sherd_34 (by decide) ?_
      refine zz_icmp_ne (tgt := 43) hx hb (by omega) (by omega) dX3_sherd_36 (by decide) (fun c_36 => ?_) (fun c_36 => ?_)
      · refine lv_iconst (v := zi (0)) hx hb dX3_sherd_43 rfl ?_
        refine wrV (As := [.int (zi (1)), .int (zi (1)), .int (zi (0))]) (rest := []) (n := 3) (ws' := [(m0, .inr (3, [.int (zi (1)), .int (zi ((mp : Int))), .ref a1, .ref a2, .ref a3, .ref a4, .ref a5, .ref a6, .int (zi ((mb : Int))), .ref a7, .ref a8, .int (zi ((ml : Int))), .ref a9, .ref a10, .int (zi ((mz : Int))), .ref a11, .long (zl (ab)), .long (zl (be))]))]) hx hb hml hown hg (c_throwing l dC dI H.size m0 a1 a2 a3 a4 a5 a6 a7 a8 a9 a10 a11 (tw) (ab) (be) mp mb ml mz 1 1 0 (by decide) (by decide) (by decide)) (gwV wl_X3_59 wm_X3_throwing we_X3_throwing wi_X3 wc_X3_throwing) rfl rfl (by decide +kernel) ⟨Nat.le_of_ble_eq_true rfl, Nat.le_of_ble_eq_true rfl⟩ (hK.sub [] rfl) hP hD hS hA [0] rfl (by decide) [(true, 0)] rfl (by decide) rfl 0 rfl rfl rfl rfl hl.1 rfl (Nat.le_of_ble_eq_true rfl) dX3_sherd_44 ⟨Nat.zero_le _, Nat.zero_le _⟩ (fun H locs hP hD hS => ?_)
        refine zz_topi (z := 1) (congrArg zi (by decide)) ?_
        refine zz_if_eq (tgt := 52) hx hb (by omega) dX3_sherd_47 (by decide) (fun c_47 => ?_) (fun c_47 => ?_)
        · exact absurd c_47 (by decide)
        · refine lv_iconst (v := zi (0)) hx hb dX3_sherd_50 rfl ?_
          have hP9 : va_P (dC, dI) vwCl [(m0, .inr (3, [.int (zi (1)), .int (zi ((mp : Int))), .ref a1, .ref a2, .ref a3, .ref a4, .ref a5, .ref a6, .int (zi ((mb : Int))), .ref a7, .ref a8, .int (zi ((ml : Int))), .ref a9, .ref a10, .int (zi ((mz : Int))), .ref a11, .long (zl (ab)), .long (zl (be))]))] H := hP
          rw [hQQ]
          exact wr_i hx hb hr hlocks rfl hP9 hS dX3_sherd_51
      · refine lv_iconst (v := zi (1)) hx hb dX3_sherd_39 rfl ?_
        refine lv_goto (tgt := 44) hx hb dX3_sherd_40 (by decide) ?_
        refine wrV (As := [.int (zi (1)), .int (zi (1)), .int (zi (1))]) (rest := []) (n := 3) (ws' := [(m0, .inr (3, [.int (zi (1)), .int (zi ((mp : Int))), .ref a1, .ref a2, .ref a3, .ref a4, .ref a5, .ref a6, .int (zi ((mb : Int))), .ref a7, .ref a8, .int (zi ((ml : Int))), .ref a9, .ref a10, .int (zi ((mz : Int))), .ref a11, .long (zl (ab)), .long (zl (be))]))]) hx hb hml hown hg (c_throwing l dC dI H.size m0 a1 a2 a3 a4 a5 a6 a7 a8 a9 a10 a11 (tw) (ab) (be) mp mb ml mz 1 1 1 (by decide) (by decide) (by decide)) (gwV wl_X3_59 wm_X3_throwing we_X3_throwing wi_X3 wc_X3_throwing) rfl rfl (by decide +kernel) ⟨Nat.le_of_ble_eq_true rfl, Nat.le_of_ble_eq_true rfl⟩ (hK.sub [] rfl) hP hD hS hA [0] rfl (by decide) [(true, 0)] rfl (by decide) rfl 0 rfl rfl rfl rfl hl.1 rfl (Nat.le_of_ble_eq_true rfl) dX3_sherd_44 ⟨Nat.zero_le _, Nat.zero_le _⟩ (fun H locs hP hD hS => ?_)
        refine zz_topi (z := 1) (congrArg zi (by decide)) ?_
        refine zz_if_eq (tgt := 52) hx hb (by omega) dX3_sherd_47 (by decide) (fun c_47 => ?_) (fun c_47 => ?_)
        · exact absurd c_47 (by decide)
        · refine lv_iconst (v := zi (0)) hx hb dX3_sherd_50 rfl ?_
          have hP9 : va_P (dC, dI) vwCl [(m0, .inr (3, [.int (zi (1)), .int (zi ((mp : Int))), .ref a1, .ref a2, .ref a3, .ref a4, .ref a5, .ref a6, .int (zi ((mb : Int))), .ref a7, .ref a8, .int (zi ((ml : Int))), .ref a9, .ref a10, .int (zi ((mz : Int))), .ref a11, .long (zl (ab)), .long (zl (be))]))] H := hP
          rw [hQQ]
          exact wr_i hx hb hr hlocks rfl hP9 hS dX3_sherd_51

set_option maxHeartbeats 4000000 in
set_option maxRecDepth 100000 in
theorem e_sherd_2 (l : Launch) (dC : Nat → ClassId) (dI : Nat → Nat → Nat) (sz : Nat) (m0 a1 a2 a3 a4 a5 a6 a7 a8 a9 a10 a11 : Nat) (tw ab be : Int) (mp mb ml mz : Nat) (q v : Int) (hmp : mp ≤ 6) (h_q : -2147483648 ≤ q ∧ q < 2147483648) (h_v : -2147483648 ≤ v ∧ v < 2147483648) (hsz : mz ≤ 60) (hok : 0 ≤ q ∧ q < (mp : Int)) (hbad : ¬ (1 ≤ v ∧ v ≤ 1000)) : Met l yX3_sherd (Cond.code yX3_sherd cX3_sherd 3 ((Option.some Jvm.ClassFile.FieldType.int)) :: gw) rm_X3_sherd (PcW [.ref m0, .int (zi (q)), .int (zi (v))] (dC, dI) vwCl [(m0, .inr (3, [.int (zi (tw)), .int (zi ((mp : Int))), .ref a1, .ref a2, .ref a3, .ref a4, .ref a5, .ref a6, .int (zi ((mb : Int))), .ref a7, .ref a8, .int (zi ((ml : Int))), .ref a9, .ref a10, .int (zi ((mz : Int))), .ref a11, .long (zl (ab)), .long (zl (be))]))] [] sz) (WrQ (some (.int (zi 0))) (dC, dI) vwCl [(m0, .inr (3, [.int (zi (2)), .int (zi ((mp : Int))), .ref a1, .ref a2, .ref a3, .ref a4, .ref a5, .ref a6, .int (zi ((mb : Int))), .ref a7, .ref a8, .int (zi ((ml : Int))), .ref a9, .ref a10, .int (zi ((mz : Int))), .ref a11, .long (zl (ab)), .long (zl (be))]))] (va_A [(m0, .inr (3, [.int (zi (tw)), .int (zi ((mp : Int))), .ref a1, .ref a2, .ref a3, .ref a4, .ref a5, .ref a6, .int (zi ((mb : Int))), .ref a7, .ref a8, .int (zi ((ml : Int))), .ref a9, .ref a10, .int (zi ((mz : Int))), .ref a11, .long (zl (ab)), .long (zl (be))]))] sz)) 0 0 (va_A [(m0, .inr (3, [.int (zi (tw)), .int (zi ((mp : Int))), .ref a1, .ref a2, .ref a3, .ref a4, .ref a5, .ref a6, .int (zi ((mb : Int))), .ref a7, .ref a8, .int (zi ((ml : Int))), .ref a9, .ref a10, .int (zi ((mz : Int))), .ref a11, .long (zl (ab)), .long (zl (be))]))] sz) := by
  refine Met.ofW (cc := cX3_sherd) (maxL := 3) (ret := ((Option.some Jvm.ClassFile.FieldType.int))) (by decide) rfl ?_
  intro p e s m args below meth c s₁ B hml hv
  obtain ⟨hargs, hsz, hP, hK, hD0⟩ := hv
  have hx := B.exec
  have hb := B.bytes
  have hr := B.returns
  have hts := atoms_spec (ws := Cond.code yX3_sherd cX3_sherd 3 ((Option.some Jvm.ClassFile.FieldType.int)) :: gw) B.pre
  have hg : ∀ w ∈ gw, w.before args s = true := fun w h => hts w (List.mem_cons_of_mem _ h)
  have hown : s.vm.findClass RX3 = some m.cls := findClass_of_methodNamed B.named
  have hlocks := B.notSynchronized
  subst hsz
  have hD := hD0.self (sz := s.heap.size)
  generalize hAe : va_A [(m0, .inr (3, [.int (zi (tw)), .int (zi ((mp : Int))), .ref a1, .ref a2, .ref a3, .ref a4, .ref a5, .ref a6, .int (zi ((mb : Int))), .ref a7, .ref a8, .int (zi ((ml : Int))), .ref a9, .ref a10, .int (zi ((mz : Int))), .ref a11, .long (zl (ab)), .long (zl (be))]))] s.heap.size = A at hD ⊢
  have hA : ∀ q : Nat, s.heap.size ≤ q → A q := fun q h => by rw [← hAe]; exact Or.inr h
  show W p l e rm_X3_sherd s m args below meth c s.heap [] 0 0 _ _
  have hl := lv_entry ([.ref m0, .int (zi (q)), .int (zi (v))]) (n := 3) (Nat.le_of_ble_eq_true rfl)
  rw [show entryFrame m args 3 = entryFrame m ([.ref m0, .int (zi (q)), .int (zi (v))] : List Value).toArray 3 by rw [hargs], lg_entry_eq]
  generalize (lg_sl ([.ref m0, .int (zi (q)), .int (zi (v))]) ++ List.replicate (3 - (lg_sl ([.ref m0, .int (zi (q)), .int (zi (v))])).length) Slot.unset).toArray = ls at hl ⊢
  have hl : lv_has ls 3 [(0, .ref m0), (1, .int (zi (q))), (2, .int (zi (v)))] := hl
  obtain ⟨QQ, hQQ⟩ : ∃ Q, Q = MQ below (WrQ (some (.int (zi 0))) (dC, dI) vwCl [(m0, .inr (3, [.int (zi (2)), .int (zi ((mp : Int))), .ref a1, .ref a2, .ref a3, .ref a4, .ref a5, .ref a6, .int (zi ((mb : Int))), .ref a7, .ref a8, .int (zi ((ml : Int))), .ref a9, .ref a10, .int (zi ((mz : Int))), .ref a11, .long (zl (ab)), .long (zl (be))]))] A) args s 0 0 A := ⟨_, rfl⟩
  rw [← hQQ]
  obtain ⟨H, hHe⟩ : ∃ H : Heap, H = s.heap := ⟨_, rfl⟩
  obtain ⟨locs, hlc⟩ : ∃ x : List Loc, x = [] := ⟨_, rfl⟩
  have hS : va_S A s.heap H locs := by rw [hHe, hlc]; exact va_S.rf
  have hP : va_P (dC, dI) vwCl [(m0, .inr (3, [.int (zi (tw)), .int (zi ((mp : Int))), .ref a1, .ref a2, .ref a3, .ref a4, .ref a5, .ref a6, .int (zi ((mb : Int))), .ref a7, .ref a8, .int (zi ((ml : Int))), .ref a9, .ref a10, .int (zi ((mz : Int))), .ref a11, .long (zl (ab)), .long (zl (be))]))] H := by rw [hHe]; exact hP
  have hD : va_D A [(m0, .inr (3, [.int (zi (tw)), .int (zi ((mp : Int))), .ref a1, .ref a2, .ref a3, .ref a4, .ref a5, .ref a6, .int (zi ((mb : Int))), .ref a7, .ref a8, .int (zi ((ml : Int))), .ref a9, .ref a10, .int (zi ((mz : Int))), .ref a11, .long (zl (ab)), .long (zl (be))]))] := hD
  rw [← hHe, ← hlc]
  refine lv_aload_n hx hb dX3_sherd_0 rfl (lv_at hl 0 rfl) ?_
  refine lv_aload_n hx hb dX3_sherd_1 rfl (lv_at hl 0 rfl) ?_
  refine lv_iload_n hx hb dX3_sherd_2 rfl (lv_at hl 1 rfl) ?_
  refine rdV (As := [.int (zi (q))]) (rest := [.ref m0]) (n := 1) hx hb hml hown hg (c_X3_isProfile l dC dI m0 a1 a2 a3 a4 a5 a6 a7 a8 a9 a10 a11 (tw) (ab) (be) mp mb ml mz (q) hmp (by omega)) (gwV wl_X3_70 wm_X3_isProfile we_X3_isProfile wi_X3 wc_X3_isProfile) rfl rfl (by decide +kernel) ⟨Nat.le_of_ble_eq_true rfl, Nat.le_of_ble_eq_true rfl⟩ (hK.sub [] rfl) (hP.sub [0] rfl) 0 rfl rfl rfl rfl hl.1 rfl (Nat.le_of_ble_eq_true rfl) dX3_sherd_3 ⟨Nat.zero_le _, Nat.zero_le _⟩ ?_
  refine zz_topi (z := 1) (congrArg zi (zb_t (decide_eq_true (by omega)))) ?_
  refine zz_if_ne (tgt := 13) hx hb (by omega) dX3_sherd_6 (by decide) (fun c_6 => ?_) (fun c_6 => ?_)
  · refine lv_iconst (v := zi (0)) hx hb dX3_sherd_13 rfl ?_
    refine lv_iload_n hx hb dX3_sherd_14 rfl (lv_at hl 2 rfl) ?_
    refine lv_iconst (v := zi (1)) hx hb dX3_sherd_15 rfl ?_
    refine lv_sipush (v := zi (1000)) hx hb dX3_sherd_16 (by decide) ?_
    refine rdS (As := [.int (zi (v)), .int (zi (1)), .int (zi (1000))]) (rest := [.int (zi (0)), .ref m0]) (n := 3) hx hb hml hown hg (c_X3_in l (v) (1) (1000) (by omega) (by omega) (by omega)) (gwS wl_X3_55 wt_X3_in wi_X3 wc_X3_in) rfl rfl (by decide +kernel) ⟨Nat.le_of_ble_eq_true rfl, Nat.le_of_ble_eq_true rfl⟩ rfl hl.1 rfl (Nat.le_of_ble_eq_true rfl) dX3_sherd_19 ⟨Nat.zero_le _, Nat.zero_le _⟩ ?_
    refine zz_topi (z := 0) (congrArg zi (zb_f (decide_eq_false (by omega)))) ?_
    refine zz_if_ne (tgt := 29) hx hb (by omega) dX3_sherd_22 (by decide) (fun c_22 => ?_) (fun c_22 => ?_)
    · exact absurd c_22 (by decide)
    · refine lv_iconst (v := zi (1)) hx hb dX3_sherd_25 rfl ?_
      refine lv_goto (tgt := 30) hx hb dX3_sherd_26 (by decide) ?_
      refine lv_aload_n hx hb dX3_sherd_30 rfl (lv_at hl 0 rfl) ?_
      refine va_get (D := (dC, dI)) (ci := 3) (v := .int (zi ((mz : Int)))) (C := RX3) (T := TX3) (N := 18) hx hb hg inX3 hown hK hP 0 rfl rfl 14 (by decide) (hg _ wl_X3_154) (fun _ h9 => h9) rfl dX3_sherd_31 ?_
      refine lv_bipush (v := zi (60)) hx hb dX3_sherd_34 (by decide) ?_
      refine zz_icmp_ne (tgt := 43) hx hb (by omega) (by omega) dX3_sherd_36 (by decide) (fun c_36 => ?_) (fun c_36 => ?_)
      · refine lv_iconst (v := zi (0)) hx hb dX3_sherd_43 rfl ?_
        refine wrV (As := [.int (zi (0)), .int (zi (1)), .int (zi (0))]) (rest := []) (n := 3) (ws' := [(m0, .inr (3, [.int (zi (2)), .int (zi ((mp : Int))), .ref a1, .ref a2, .ref a3, .ref a4, .ref a5, .ref a6, .int (zi ((mb : Int))), .ref a7, .ref a8, .int (zi ((ml : Int))), .ref a9, .ref a10, .int (zi ((mz : Int))), .ref a11, .long (zl (ab)), .long (zl (be))]))]) hx hb hml hown hg (c_throwing l dC dI H.size m0 a1 a2 a3 a4 a5 a6 a7 a8 a9 a10 a11 (tw) (ab) (be) mp mb ml mz 0 1 0 (by decide) (by decide) (by decide)) (gwV wl_X3_59 wm_X3_throwing we_X3_throwing wi_X3 wc_X3_throwing) rfl rfl (by decide +kernel) ⟨Nat.le_of_ble_eq_true rfl, Nat.le_of_ble_eq_true rfl⟩ (hK.sub [] rfl) hP hD hS hA [0] rfl (by decide) [(true, 0)] rfl (by decide) rfl 0 rfl rfl rfl rfl hl.1 rfl (Nat.le_of_ble_eq_true rfl) dX3_sherd_44 ⟨Nat.zero_le _, Nat.zero_le _⟩ (fun H locs hP hD hS => ?_)
        refine zz_topi (z := 1) (congrArg zi (by decide)) ?_
        refine zz_if_eq (tgt := 52) hx hb (by omega) dX3_sherd_47 (by decide) (fun c_47 => ?_) (fun c_47 => ?_)
        · exact absurd c_47 (by decide)
        · refine lv_iconst (v := zi (0)) hx hb dX3_sherd_50 rfl ?_
          have hP9 : va_P (dC, dI) vwCl [(m0, .inr (3, [.int (zi (2)), .int (zi ((mp : Int))), .ref a1, .ref a2, .ref a3, .ref a4, .ref a5, .ref a6, .int (zi ((mb : Int))), .ref a7, .ref a8, .int (zi ((ml : Int))), .ref a9, .ref a10, .int (zi ((mz : Int))), .ref a11, .long (zl (ab)), .long (zl (be))]))] H := hP
          rw [hQQ]
          exact wr_i hx hb hr hlocks rfl hP9 hS dX3_sherd_51
      · refine lv_iconst (v := zi (1)) hx hb dX3_sherd_39 rfl ?_
        refine lv_goto (tgt := 44) hx hb dX3_sherd_40 (by decide) ?_
        refine wrV (As := [.int (zi (0)), .int (zi (1)), .int (zi (1))]) (rest := []) (n := 3) (ws' := [(m0, .inr (3, [.int (zi (2)), .int (zi ((mp : Int))), .ref a1, .ref a2, .ref a3, .ref a4, .ref a5, .ref a6, .int (zi ((mb : Int))), .ref a7, .ref a8, .int (zi ((ml : Int))), .ref a9, .ref a10, .int (zi ((mz : Int))), .ref a11, .long (zl (ab)), .long (zl (be))]))]) hx hb hml hown hg (c_throwing l dC dI H.size m0 a1 a2 a3 a4 a5 a6 a7 a8 a9 a10 a11 (tw) (ab) (be) mp mb ml mz 0 1 1 (by decide) (by decide) (by decide)) (gwV wl_X3_59 wm_X3_throwing we_X3_throwing wi_X3 wc_X3_throwing) rfl rfl (by decide +kernel) ⟨Nat.le_of_ble_eq_true rfl, Nat.le_of_ble_eq_true rfl⟩ (hK.sub [] rfl) hP hD hS hA [0] rfl (by decide) [(true, 0)] rfl (by decide) rfl 0 rfl rfl rfl rfl hl.1 rfl (Nat.le_of_ble_eq_true rfl) dX3_sherd_44 ⟨Nat.zero_le _, Nat.zero_le _⟩ (fun H locs hP hD hS => ?_)
        refine zz_topi (z := 1) (congrArg zi (by decide)) ?_
        refine zz_if_eq (tgt := 52) hx hb (by omega) dX3_sherd_47 (by decide) (fun c_47 => ?_) (fun c_47 => ?_)
        · exact absurd c_47 (by decide)
        · refine lv_iconst (v := zi (0)) hx hb dX3_sherd_50 rfl ?_
          have hP9 : va_P (dC, dI) vwCl [(m0, .inr (3, [.int (zi (2)), .int (zi ((mp : Int))), .ref a1, .ref a2, .ref a3, .ref a4, .ref a5, .ref a6, .int (zi ((mb : Int))), .ref a7, .ref a8, .int (zi ((ml : Int))), .ref a9, .ref a10, .int (zi ((mz : Int))), .ref a11, .long (zl (ab)), .long (zl (be))]))] H := hP
          rw [hQQ]
          exact wr_i hx hb hr hlocks rfl hP9 hS dX3_sherd_51
  · exact absurd c_6 (by decide)

set_option maxHeartbeats 4000000 in
set_option maxRecDepth 100000 in
theorem e_sherd_3 (l : Launch) (dC : Nat → ClassId) (dI : Nat → Nat → Nat) (sz : Nat) (m0 a1 a2 a3 a4 a5 a6 a7 a8 a9 a10 a11 : Nat) (tw ab be : Int) (mp mb ml mz : Nat) (q v : Int) (hmp : mp ≤ 6) (h_q : -2147483648 ≤ q ∧ q < 2147483648) (h_v : -2147483648 ≤ v ∧ v < 2147483648) (hok : 0 ≤ q ∧ q < (mp : Int)) (hv : 1 ≤ v ∧ v ≤ 1000) (hbad : mz = 60) : Met l yX3_sherd (Cond.code yX3_sherd cX3_sherd 3 ((Option.some Jvm.ClassFile.FieldType.int)) :: gw) rm_X3_sherd (PcW [.ref m0, .int (zi (q)), .int (zi (v))] (dC, dI) vwCl [(m0, .inr (3, [.int (zi (tw)), .int (zi ((mp : Int))), .ref a1, .ref a2, .ref a3, .ref a4, .ref a5, .ref a6, .int (zi ((mb : Int))), .ref a7, .ref a8, .int (zi ((ml : Int))), .ref a9, .ref a10, .int (zi ((mz : Int))), .ref a11, .long (zl (ab)), .long (zl (be))]))] [] sz) (WrQ (some (.int (zi 0))) (dC, dI) vwCl [(m0, .inr (3, [.int (zi (3)), .int (zi ((mp : Int))), .ref a1, .ref a2, .ref a3, .ref a4, .ref a5, .ref a6, .int (zi ((mb : Int))), .ref a7, .ref a8, .int (zi ((ml : Int))), .ref a9, .ref a10, .int (zi ((mz : Int))), .ref a11, .long (zl (ab)), .long (zl (be))]))] (va_A [(m0, .inr (3, [.int (zi (tw)), .int (zi ((mp : Int))), .ref a1, .ref a2, .ref a3, .ref a4, .ref a5, .ref a6, .int (zi ((mb : Int))), .ref a7, .ref a8, .int (zi ((ml : Int))), .ref a9, .ref a10, .int (zi ((mz : Int))), .ref a11, .long (zl (ab)), .long (zl (be))]))] sz)) 0 0 (va_A [(m0, .inr (3, [.int (zi (tw)), .int (zi ((mp : Int))), .ref a1, .ref a2, .ref a3, .ref a4, .ref a5, .ref a6, .int (zi ((mb : Int))), .ref a7, .ref a8, .int (zi ((ml : Int))), .ref a9, .ref a10, .int (zi ((mz : Int))), .ref a11, .long (zl (ab)), .long (zl (be))]))] sz) := by
  refine Met.ofW (cc := cX3_sherd) (maxL := 3) (ret := ((Option.some Jvm.ClassFile.FieldType.int))) (by decide) rfl ?_
  intro p e s m args below meth c s₁ B hml hv
  obtain ⟨hargs, hsz, hP, hK, hD0⟩ := hv
  have hx := B.exec
  have hb := B.bytes
  have hr := B.returns
  have hts := atoms_spec (ws := Cond.code yX3_sherd cX3_sherd 3 ((Option.some Jvm.ClassFile.FieldType.int)) :: gw) B.pre
  have hg : ∀ w ∈ gw, w.before args s = true := fun w h => hts w (List.mem_cons_of_mem _ h)
  have hown : s.vm.findClass RX3 = some m.cls := findClass_of_methodNamed B.named
  have hlocks := B.notSynchronized
  subst hsz
  have hD := hD0.self (sz := s.heap.size)
  generalize hAe : va_A [(m0, .inr (3, [.int (zi (tw)), .int (zi ((mp : Int))), .ref a1, .ref a2, .ref a3, .ref a4, .ref a5, .ref a6, .int (zi ((mb : Int))), .ref a7, .ref a8, .int (zi ((ml : Int))), .ref a9, .ref a10, .int (zi ((mz : Int))), .ref a11, .long (zl (ab)), .long (zl (be))]))] s.heap.size = A at hD ⊢
  have hA : ∀ q : Nat, s.heap.size ≤ q → A q := fun q h => by rw [← hAe]; exact Or.inr h
  show W p l e rm_X3_sherd s m args below meth c s.heap [] 0 0 _ _
  have hl := lv_entry ([.ref m0, .int (zi (q)), .int (zi (v))]) (n := 3) (Nat.le_of_ble_eq_true rfl)
  rw [show entryFrame m args 3 = entryFrame m ([.ref m0, .int (zi (q)), .int (zi (v))] : List Value).toArray 3 by rw [hargs], lg_entry_eq]
  generalize (lg_sl ([.ref m0, .int (zi (q)), .int (zi (v))]) ++ List.replicate (3 - (lg_sl ([.ref m0, .int (zi (q)), .int (zi (v))])).length) Slot.unset).toArray = ls at hl ⊢
  have hl : lv_has ls 3 [(0, .ref m0), (1, .int (zi (q))), (2, .int (zi (v)))] := hl
  obtain ⟨QQ, hQQ⟩ : ∃ Q, Q = MQ below (WrQ (some (.int (zi 0))) (dC, dI) vwCl [(m0, .inr (3, [.int (zi (3)), .int (zi ((mp : Int))), .ref a1, .ref a2, .ref a3, .ref a4, .ref a5, .ref a6, .int (zi ((mb : Int))), .ref a7, .ref a8, .int (zi ((ml : Int))), .ref a9, .ref a10, .int (zi ((mz : Int))), .ref a11, .long (zl (ab)), .long (zl (be))]))] A) args s 0 0 A := ⟨_, rfl⟩
  rw [← hQQ]
  obtain ⟨H, hHe⟩ : ∃ H : Heap, H = s.heap := ⟨_, rfl⟩
  obtain ⟨locs, hlc⟩ : ∃ x : List Loc, x = [] := ⟨_, rfl⟩
  have hS : va_S A s.heap H locs := by rw [hHe, hlc]; exact va_S.rf
  have hP : va_P (dC, dI) vwCl [(m0, .inr (3, [.int (zi (tw)), .int (zi ((mp : Int))), .ref a1, .ref a2, .ref a3, .ref a4, .ref a5, .ref a6, .int (zi ((mb : Int))), .ref a7, .ref a8, .int (zi ((ml : Int))), .ref a9, .ref a10, .int (zi ((mz : Int))), .ref a11, .long (zl (ab)), .long (zl (be))]))] H := by rw [hHe]; exact hP
  have hD : va_D A [(m0, .inr (3, [.int (zi (tw)), .int (zi ((mp : Int))), .ref a1, .ref a2, .ref a3, .ref a4, .ref a5, .ref a6, .int (zi ((mb : Int))), .ref a7, .ref a8, .int (zi ((ml : Int))), .ref a9, .ref a10, .int (zi ((mz : Int))), .ref a11, .long (zl (ab)), .long (zl (be))]))] := hD
  rw [← hHe, ← hlc]
  refine lv_aload_n hx hb dX3_sherd_0 rfl (lv_at hl 0 rfl) ?_
  refine lv_aload_n hx hb dX3_sherd_1 rfl (lv_at hl 0 rfl) ?_
  refine lv_iload_n hx hb dX3_sherd_2 rfl (lv_at hl 1 rfl) ?_
  refine rdV (As := [.int (zi (q))]) (rest := [.ref m0]) (n := 1) hx hb hml hown hg (c_X3_isProfile l dC dI m0 a1 a2 a3 a4 a5 a6 a7 a8 a9 a10 a11 (tw) (ab) (be) mp mb ml mz (q) hmp (by omega)) (gwV wl_X3_70 wm_X3_isProfile we_X3_isProfile wi_X3 wc_X3_isProfile) rfl rfl (by decide +kernel) ⟨Nat.le_of_ble_eq_true rfl, Nat.le_of_ble_eq_true rfl⟩ (hK.sub [] rfl) (hP.sub [0] rfl) 0 rfl rfl rfl rfl hl.1 rfl (Nat.le_of_ble_eq_true rfl) dX3_sherd_3 ⟨Nat.zero_le _, Nat.zero_le _⟩ ?_
  refine zz_topi (z := 1) (congrArg zi (zb_t (decide_eq_true (by omega)))) ?_
  refine zz_if_ne (tgt := 13) hx hb (by omega) dX3_sherd_6 (by decide) (fun c_6 => ?_) (fun c_6 => ?_)
  · refine lv_iconst (v := zi (0)) hx hb dX3_sherd_13 rfl ?_
    refine lv_iload_n hx hb dX3_sherd_14 rfl (lv_at hl 2 rfl) ?_
    refine lv_iconst (v := zi (1)) hx hb dX3_sherd_15 rfl ?_
    refine lv_sipush (v := zi (1000)) hx hb dX3_sherd_16 (by decide) ?_
    refine rdS (As := [.int (zi (v)), .int (zi (1)), .int (zi (1000))]) (rest := [.int (zi (0)), .ref m0]) (n := 3) hx hb hml hown hg (c_X3_in l (v) (1) (1000) (by omega) (by omega) (by omega)) (gwS wl_X3_55 wt_X3_in wi_X3 wc_X3_in) rfl rfl (by decide +kernel) ⟨Nat.le_of_ble_eq_true rfl, Nat.le_of_ble_eq_true rfl⟩ rfl hl.1 rfl (Nat.le_of_ble_eq_true rfl) dX3_sherd_19 ⟨Nat.zero_le _, Nat.zero_le _⟩ ?_
    refine zz_topi (z := 1) (congrArg zi (zb_t (decide_eq_true (by omega)))) ?_
    refine zz_if_ne (tgt := 29) hx hb (by omega) dX3_sherd_22 (by decide) (fun c_22 => ?_) (fun c_22 => ?_)
    · refine lv_iconst (v := zi (0)) hx hb dX3_sherd_29 rfl ?_
      refine lv_aload_n hx hb dX3_sherd_30 rfl (lv_at hl 0 rfl) ?_
      refine va_get (D := (dC, dI)) (ci := 3) (v := .int (zi ((mz : Int)))) (C := RX3) (T := TX3) (N := 18) hx hb hg inX3 hown hK hP 0 rfl rfl 14 (by decide) (hg _ wl_X3_154) (fun _ h9 => h9) rfl dX3_sherd_31 ?_
      refine lv_bipush (v := zi (60)) hx hb dX3_sherd_34 (by decide) ?_
      refine zz_icmp_ne (tgt := 43) hx hb (by omega) (by omega) dX3_sherd_36 (by decide) (fun c_36 => ?_) (fun c_36 => ?_)
      · exact False.elim (by omega)
      · refine lv_iconst (v := zi (1)) hx hb dX3_sherd_39 rfl ?_
        refine lv_goto (tgt := 44) hx hb dX3_sherd_40 (by decide) ?_
        refine wrV (As := [.int (zi (0)), .int (zi (0)), .int (zi (1))]) (rest := []) (n := 3) (ws' := [(m0, .inr (3, [.int (zi (3)), .int (zi ((mp : Int))), .ref a1, .ref a2, .ref a3, .ref a4, .ref a5, .ref a6, .int (zi ((mb : Int))), .ref a7, .ref a8, .int (zi ((ml : Int))), .ref a9, .ref a10, .int (zi ((mz : Int))), .ref a11, .long (zl (ab)), .long (zl (be))]))]) hx hb hml hown hg (c_throwing l dC dI H.size m0 a1 a2 a3 a4 a5 a6 a7 a8 a9 a10 a11 (tw) (ab) (be) mp mb ml mz 0 0 1 (by decide) (by decide) (by decide)) (gwV wl_X3_59 wm_X3_throwing we_X3_throwing wi_X3 wc_X3_throwing) rfl rfl (by decide +kernel) ⟨Nat.le_of_ble_eq_true rfl, Nat.le_of_ble_eq_true rfl⟩ (hK.sub [] rfl) hP hD hS hA [0] rfl (by decide) [(true, 0)] rfl (by decide) rfl 0 rfl rfl rfl rfl hl.1 rfl (Nat.le_of_ble_eq_true rfl) dX3_sherd_44 ⟨Nat.zero_le _, Nat.zero_le _⟩ (fun H locs hP hD hS => ?_)
        refine zz_topi (z := 1) (congrArg zi (by decide)) ?_
        refine zz_if_eq (tgt := 52) hx hb (by omega) dX3_sherd_47 (by decide) (fun c_47 => ?_) (fun c_47 => ?_)
        · exact absurd c_47 (by decide)
        · refine lv_iconst (v := zi (0)) hx hb dX3_sherd_50 rfl ?_
          have hP9 : va_P (dC, dI) vwCl [(m0, .inr (3, [.int (zi (3)), .int (zi ((mp : Int))), .ref a1, .ref a2, .ref a3, .ref a4, .ref a5, .ref a6, .int (zi ((mb : Int))), .ref a7, .ref a8, .int (zi ((ml : Int))), .ref a9, .ref a10, .int (zi ((mz : Int))), .ref a11, .long (zl (ab)), .long (zl (be))]))] H := hP
          rw [hQQ]
          exact wr_i hx hb hr hlocks rfl hP9 hS dX3_sherd_51
    · exact absurd c_22 (by decide)
  · exact absurd c_6 (by decide)

set_option maxHeartbeats 4000000 in
set_option maxRecDepth 100000 in
theorem k_sherd (l : Launch) (dC : Nat → ClassId) (dI : Nat → Nat → Nat) (sz : Nat) (m0 a1 a2 a3 a4 a5 a6 a7 a8 a9 a10 a11 : Nat) (tw ab be : Int) (mp mb ml mz : Nat) (cA : ClassId) (spf ssf : Nat → Int) (q v : Int) (hsn : mz < 60) (hP9 : ∀ j, 0 ≤ spf j ∧ spf j ≤ 5) (hS9 : ∀ j, 0 ≤ ssf j ∧ ssf j ≤ 1000) (hmp : mp ≤ 6) (hq : 0 ≤ q ∧ q < (mp : Int)) (hv9 : 1 ≤ v ∧ v ≤ 1000) : Met l yX3_sherd (Cond.code yX3_sherd cX3_sherd 3 ((Option.some Jvm.ClassFile.FieldType.int)) :: gw) rm_X3_sherd (PcW [.ref m0, .int (zi (q)), .int (zi (v))] (dC, dI) vwCl [(m0, .inr (3, [.int (zi (tw)), .int (zi ((mp : Int))), .ref a1, .ref a2, .ref a3, .ref a4, .ref a5, .ref a6, .int (zi ((mb : Int))), .ref a7, .ref a8, .int (zi ((ml : Int))), .ref a9, .ref a10, .int (zi ((mz : Int))), .ref a11, .long (zl (ab)), .long (zl (be))])), (a9, .inl (cA, 60, .inl (zA (spf)))), (a10, .inl (cA, 60, .inl (zA (ssf))))] [(cA, .int)] sz) (WrQ (some (.int (zi (s_sum (zupd spf (mz) (q)) (zupd ssf (mz) (v)) q (mz + 1))))) (dC, dI) vwCl [(m0, .inr (3, [.int (zi (0)), .int (zi ((mp : Int))), .ref a1, .ref a2, .ref a3, .ref a4, .ref a5, .ref a6, .int (zi ((mb : Int))), .ref a7, .ref a8, .int (zi ((ml : Int))), .ref a9, .ref a10, .int (zi (((mz + 1 : Nat) : Int))), .ref a11, .long (zl (ab)), .long (zl (be))])), (a9, .inl (cA, 60, .inl (zA (zupd spf (mz) (q))))), (a10, .inl (cA, 60, .inl (zA (zupd ssf (mz) (v)))))] (va_A [(m0, .inr (3, [.int (zi (tw)), .int (zi ((mp : Int))), .ref a1, .ref a2, .ref a3, .ref a4, .ref a5, .ref a6, .int (zi ((mb : Int))), .ref a7, .ref a8, .int (zi ((ml : Int))), .ref a9, .ref a10, .int (zi ((mz : Int))), .ref a11, .long (zl (ab)), .long (zl (be))])), (a9, .inl (cA, 60, .inl (zA (spf)))), (a10, .inl (cA, 60, .inl (zA (ssf))))] sz)) 0 0 (va_A [(m0, .inr (3, [.int (zi (tw)), .int (zi ((mp : Int))), .ref a1, .ref a2, .ref a3, .ref a4, .ref a5, .ref a6, .int (zi ((mb : Int))), .ref a7, .ref a8, .int (zi ((ml : Int))), .ref a9, .ref a10, .int (zi ((mz : Int))), .ref a11, .long (zl (ab)), .long (zl (be))])), (a9, .inl (cA, 60, .inl (zA (spf)))), (a10, .inl (cA, 60, .inl (zA (ssf))))] sz) := by
  refine Met.ofW (cc := cX3_sherd) (maxL := 3) (ret := ((Option.some Jvm.ClassFile.FieldType.int))) (by decide) rfl ?_
  intro p e s m args below meth c s₁ B hml hv
  obtain ⟨hargs, hsz, hP, hK, hD0⟩ := hv
  have hx := B.exec
  have hb := B.bytes
  have hr := B.returns
  have hts := atoms_spec (ws := Cond.code yX3_sherd cX3_sherd 3 ((Option.some Jvm.ClassFile.FieldType.int)) :: gw) B.pre
  have hg : ∀ w ∈ gw, w.before args s = true := fun w h => hts w (List.mem_cons_of_mem _ h)
  have hown : s.vm.findClass RX3 = some m.cls := findClass_of_methodNamed B.named
  have hlocks := B.notSynchronized
  subst hsz
  have hD := hD0.self (sz := s.heap.size)
  generalize hAe : va_A [(m0, .inr (3, [.int (zi (tw)), .int (zi ((mp : Int))), .ref a1, .ref a2, .ref a3, .ref a4, .ref a5, .ref a6, .int (zi ((mb : Int))), .ref a7, .ref a8, .int (zi ((ml : Int))), .ref a9, .ref a10, .int (zi ((mz : Int))), .ref a11, .long (zl (ab)), .long (zl (be))])), (a9, .inl (cA, 60, .inl (zA (spf)))), (a10, .inl (cA, 60, .inl (zA (ssf))))] s.heap.size = A at hD ⊢
  have hA : ∀ q : Nat, s.heap.size ≤ q → A q := fun q h => by rw [← hAe]; exact Or.inr h
  show W p l e rm_X3_sherd s m args below meth c s.heap [] 0 0 _ _
  have hl := lv_entry ([.ref m0, .int (zi (q)), .int (zi (v))]) (n := 3) (Nat.le_of_ble_eq_true rfl)
  rw [show entryFrame m args 3 = entryFrame m ([.ref m0, .int (zi (q)), .int (zi (v))] : List Value).toArray 3 by rw [hargs], lg_entry_eq]
  generalize (lg_sl ([.ref m0, .int (zi (q)), .int (zi (v))]) ++ List.replicate (3 - (lg_sl ([.ref m0, .int (zi (q)), .int (zi (v))])).length) Slot.unset).toArray = ls at hl ⊢
  have hl : lv_has ls 3 [(0, .ref m0), (1, .int (zi (q))), (2, .int (zi (v)))] := hl
  obtain ⟨QQ, hQQ⟩ : ∃ Q, Q = MQ below (WrQ (some (.int (zi (s_sum (zupd spf (mz) (q)) (zupd ssf (mz) (v)) q (mz + 1))))) (dC, dI) vwCl [(m0, .inr (3, [.int (zi (0)), .int (zi ((mp : Int))), .ref a1, .ref a2, .ref a3, .ref a4, .ref a5, .ref a6, .int (zi ((mb : Int))), .ref a7, .ref a8, .int (zi ((ml : Int))), .ref a9, .ref a10, .int (zi (((mz + 1 : Nat) : Int))), .ref a11, .long (zl (ab)), .long (zl (be))])), (a9, .inl (cA, 60, .inl (zA (zupd spf (mz) (q))))), (a10, .inl (cA, 60, .inl (zA (zupd ssf (mz) (v)))))] A) args s 0 0 A := ⟨_, rfl⟩
  rw [← hQQ]
  obtain ⟨H, hHe⟩ : ∃ H : Heap, H = s.heap := ⟨_, rfl⟩
  obtain ⟨locs, hlc⟩ : ∃ x : List Loc, x = [] := ⟨_, rfl⟩
  have hS : va_S A s.heap H locs := by rw [hHe, hlc]; exact va_S.rf
  have hP : va_P (dC, dI) vwCl [(m0, .inr (3, [.int (zi (tw)), .int (zi ((mp : Int))), .ref a1, .ref a2, .ref a3, .ref a4, .ref a5, .ref a6, .int (zi ((mb : Int))), .ref a7, .ref a8, .int (zi ((ml : Int))), .ref a9, .ref a10, .int (zi ((mz : Int))), .ref a11, .long (zl (ab)), .long (zl (be))])), (a9, .inl (cA, 60, .inl (zA (spf)))), (a10, .inl (cA, 60, .inl (zA (ssf))))] H := by rw [hHe]; exact hP
  have hD : va_D A [(m0, .inr (3, [.int (zi (tw)), .int (zi ((mp : Int))), .ref a1, .ref a2, .ref a3, .ref a4, .ref a5, .ref a6, .int (zi ((mb : Int))), .ref a7, .ref a8, .int (zi ((ml : Int))), .ref a9, .ref a10, .int (zi ((mz : Int))), .ref a11, .long (zl (ab)), .long (zl (be))])), (a9, .inl (cA, 60, .inl (zA (spf)))), (a10, .inl (cA, 60, .inl (zA (ssf))))] := hD
  rw [← hHe, ← hlc]
  refine lv_aload_n hx hb dX3_sherd_0 rfl (lv_at hl 0 rfl) ?_
  refine lv_aload_n hx hb dX3_sherd_1 rfl (lv_at hl 0 rfl) ?_
  refine lv_iload_n hx hb dX3_sherd_2 rfl (lv_at hl 1 rfl) ?_
  refine rdV (As := [.int (zi (q))]) (rest := [.ref m0]) (n := 1) hx hb hml hown hg (c_X3_isProfile l dC dI m0 a1 a2 a3 a4 a5 a6 a7 a8 a9 a10 a11 (tw) (ab) (be) mp mb ml mz (q) hmp (by omega)) (gwV wl_X3_70 wm_X3_isProfile we_X3_isProfile wi_X3 wc_X3_isProfile) rfl rfl (by decide +kernel) ⟨Nat.le_of_ble_eq_true rfl, Nat.le_of_ble_eq_true rfl⟩ (hK.sub [] rfl) (hP.sub [0] rfl) 0 rfl rfl rfl rfl hl.1 rfl (Nat.le_of_ble_eq_true rfl) dX3_sherd_3 ⟨Nat.zero_le _, Nat.zero_le _⟩ ?_
  refine zz_topi (z := 1) (congrArg zi (zb_t (decide_eq_true (by omega)))) ?_
  refine zz_if_ne (tgt := 13) hx hb (by omega) dX3_sherd_6 (by decide) (fun c_6 => ?_) (fun c_6 => ?_)
  · refine lv_iconst (v := zi (0)) hx hb dX3_sherd_13 rfl ?_
    refine lv_iload_n hx hb dX3_sherd_14 rfl (lv_at hl 2 rfl) ?_
    refine lv_iconst (v := zi (1)) hx hb dX3_sherd_15 rfl ?_
    refine lv_sipush (v := zi (1000)) hx hb dX3_sherd_16 (by decide) ?_
    refine rdS (As := [.int (zi (v)), .int (zi (1)), .int (zi (1000))]) (rest := [.int (zi (0)), .ref m0]) (n := 3) hx hb hml hown hg (c_X3_in l (v) (1) (1000) (by omega) (by omega) (by omega)) (gwS wl_X3_55 wt_X3_in wi_X3 wc_X3_in) rfl rfl (by decide +kernel) ⟨Nat.le_of_ble_eq_true rfl, Nat.le_of_ble_eq_true rfl⟩ rfl hl.1 rfl (Nat.le_of_ble_eq_true rfl) dX3_sherd_19 ⟨Nat.zero_le _, Nat.zero_le _⟩ ?_
    refine zz_topi (z := 1) (congrArg zi (zb_t (decide_eq_true (by omega)))) ?_
    refine zz_if_ne (tgt := 29) hx hb (by omega) dX3_sherd_22 (by decide) (fun c_22 => ?_) (fun c_22 => ?_)
    · refine lv_iconst (v := zi (0)) hx hb dX3_sherd_29 rfl ?_
      refine lv_aload_n hx hb dX3_sherd_30 rfl (lv_at hl 0 rfl) ?_
      refine va_get (D := (dC, dI)) (ci := 3) (v := .int (zi ((mz : Int)))) (C := RX3) (T := TX3) (N := 18) hx hb hg inX3 hown hK hP 0 rfl rfl 14 (by decide) (hg _ wl_X3_154) (fun _ h9 => h9) rfl dX3_sherd_31 ?_
      refine lv_bipush (v := zi (60)) hx hb dX3_sherd_34 (by decide) ?_
      refine zz_icmp_ne (tgt := 43) hx hb (by omega) (by omega) dX3_sherd_36 (by decide) (fun c_36 => ?_) (fun c_36 => ?_)
      · refine lv_iconst (v := zi (0)) hx hb dX3_sherd_43 rfl ?_
        refine wrV (As := [.int (zi (0)), .int (zi (0)), .int (zi (0))]) (rest := []) (n := 3) (ws' := [(m0, .inr (3, [.int (zi (0)), .int (zi ((mp : Int))), .ref a1, .ref a2, .ref a3, .ref a4, .ref a5, .ref a6, .int (zi ((mb : Int))), .ref a7, .ref a8, .int (zi ((ml : Int))), .ref a9, .ref a10, .int (zi ((mz : Int))), .ref a11, .long (zl (ab)), .long (zl (be))])), (a9, .inl (cA, 60, .inl (zA (spf)))), (a10, .inl (cA, 60, .inl (zA (ssf))))]) hx hb hml hown hg (c_throwing l dC dI H.size m0 a1 a2 a3 a4 a5 a6 a7 a8 a9 a10 a11 (tw) (ab) (be) mp mb ml mz 0 0 0 (by decide) (by decide) (by decide)) (gwV wl_X3_59 wm_X3_throwing we_X3_throwing wi_X3 wc_X3_throwing) rfl rfl (by decide +kernel) ⟨Nat.le_of_ble_eq_true rfl, Nat.le_of_ble_eq_true rfl⟩ (hK.sub [] rfl) hP hD hS hA [0] rfl (by decide) [(true, 0), (false, 1), (false, 2)] rfl (by decide) rfl 0 rfl rfl rfl rfl hl.1 rfl (Nat.le_of_ble_eq_true rfl) dX3_sherd_44 ⟨Nat.zero_le _, Nat.zero_le _⟩ (fun H locs hP hD hS => ?_)
        refine zz_topi (z := 0) (congrArg zi (by decide)) ?_
        refine zz_if_eq (tgt := 52) hx hb (by omega) dX3_sherd_47 (by decide) (fun c_47 => ?_) (fun c_47 => ?_)
        · refine lv_aload_n hx hb dX3_sherd_52 rfl (lv_at hl 0 rfl) ?_
          refine va_get (D := (dC, dI)) (ci := 3) (v := .ref a9) (C := RX3) (T := TX3) (N := 18) hx hb hg inX3 hown hK hP 0 rfl rfl 12 (by decide) (hg _ wl_X3_35) (fun _ h9 => h9) rfl dX3_sherd_53 ?_
          refine lv_aload_n hx hb dX3_sherd_56 rfl (lv_at hl 0 rfl) ?_
          refine va_get (D := (dC, dI)) (ci := 3) (v := .int (zi ((mz : Int)))) (C := RX3) (T := TX3) (N := 18) hx hb hg inX3 hown hK hP 0 rfl rfl 14 (by decide) (hg _ wl_X3_154) (fun _ h9 => h9) rfl dX3_sherd_57 ?_
          refine lv_iload_n hx hb dX3_sherd_60 rfl (lv_at hl 1 rfl) ?_
          refine zz_iast hx hb hK hP hD hS 1 0 rfl rfl (mz) (by omega) (by omega) (by decide) dX3_sherd_61 (fun H locs hP hD hS => ?_)
          have hP : va_P (dC, dI) vwCl [(m0, .inr (3, [.int (zi (0)), .int (zi ((mp : Int))), .ref a1, .ref a2, .ref a3, .ref a4, .ref a5, .ref a6, .int (zi ((mb : Int))), .ref a7, .ref a8, .int (zi ((ml : Int))), .ref a9, .ref a10, .int (zi ((mz : Int))), .ref a11, .long (zl (ab)), .long (zl (be))])), (a9, .inl (cA, 60, .inl (zA (zupd spf (mz) (q))))), (a10, .inl (cA, 60, .inl (zA (ssf))))] H := hP
          have hD : va_D A [(m0, .inr (3, [.int (zi (0)), .int (zi ((mp : Int))), .ref a1, .ref a2, .ref a3, .ref a4, .ref a5, .ref a6, .int (zi ((mb : Int))), .ref a7, .ref a8, .int (zi ((ml : Int))), .ref a9, .ref a10, .int (zi ((mz : Int))), .ref a11, .long (zl (ab)), .long (zl (be))])), (a9, .inl (cA, 60, .inl (zA (zupd spf (mz) (q))))), (a10, .inl (cA, 60, .inl (zA (ssf))))] := hD
          refine lv_aload_n hx hb dX3_sherd_62 rfl (lv_at hl 0 rfl) ?_
          refine va_get (D := (dC, dI)) (ci := 3) (v := .ref a10) (C := RX3) (T := TX3) (N := 18) hx hb hg inX3 hown hK hP 0 rfl rfl 13 (by decide) (hg _ wl_X3_38) (fun _ h9 => h9) rfl dX3_sherd_63 ?_
          refine lv_aload_n hx hb dX3_sherd_66 rfl (lv_at hl 0 rfl) ?_
          refine va_get (D := (dC, dI)) (ci := 3) (v := .int (zi ((mz : Int)))) (C := RX3) (T := TX3) (N := 18) hx hb hg inX3 hown hK hP 0 rfl rfl 14 (by decide) (hg _ wl_X3_154) (fun _ h9 => h9) rfl dX3_sherd_67 ?_
          refine lv_iload_n hx hb dX3_sherd_70 rfl (lv_at hl 2 rfl) ?_
          refine zz_iast hx hb hK hP hD hS 2 0 rfl rfl (mz) (by omega) (by omega) (by decide) dX3_sherd_71 (fun H locs hP hD hS => ?_)
          have hP : va_P (dC, dI) vwCl [(m0, .inr (3, [.int (zi (0)), .int (zi ((mp : Int))), .ref a1, .ref a2, .ref a3, .ref a4, .ref a5, .ref a6, .int (zi ((mb : Int))), .ref a7, .ref a8, .int (zi ((ml : Int))), .ref a9, .ref a10, .int (zi ((mz : Int))), .ref a11, .long (zl (ab)), .long (zl (be))])), (a9, .inl (cA, 60, .inl (zA (zupd spf (mz) (q))))), (a10, .inl (cA, 60, .inl (zA (zupd ssf (mz) (v)))))] H := hP
          have hD : va_D A [(m0, .inr (3, [.int (zi (0)), .int (zi ((mp : Int))), .ref a1, .ref a2, .ref a3, .ref a4, .ref a5, .ref a6, .int (zi ((mb : Int))), .ref a7, .ref a8, .int (zi ((ml : Int))), .ref a9, .ref a10, .int (zi ((mz : Int))), .ref a11, .long (zl (ab)), .long (zl (be))])), (a9, .inl (cA, 60, .inl (zA (zupd spf (mz) (q))))), (a10, .inl (cA, 60, .inl (zA (zupd ssf (mz) (v)))))] := hD
          refine lv_aload_n hx hb dX3_sherd_72 rfl (lv_at hl 0 rfl) ?_
          refine lv_dup hx hb dX3_sherd_73 rfl ?_
          refine va_get (D := (dC, dI)) (ci := 3) (v := .int (zi ((mz : Int)))) (C := RX3) (T := TX3) (N := 18) hx hb hg inX3 hown hK hP 0 rfl rfl 14 (by decide) (hg _ wl_X3_154) (fun _ h9 => h9) rfl dX3_sherd_74 ?_
          refine lv_iconst (v := zi (1)) hx hb dX3_sherd_77 rfl ?_
          refine zz_iadd hx hb dX3_sherd_78 ?_
          refine zz_topi (z := ((mz + 1 : Nat) : Int)) (congrArg zi (by push_cast; rfl)) ?_
          refine va_put (D := (dC, dI)) (ci := 3) (v := .int (zi (((mz + 1 : Nat) : Int)))) (ty := .int) (C := RX3) (T := TX3) (N := 18) hx hb hg inX3 tyX3 tyX3_ok nmX3 hown hK hP hD hS 0 rfl rfl 14 (by decide) (hg _ wl_X3_154) (fun _ h9 => h9) rfl (by decide +kernel) rfl rfl (Nat.le_of_ble_eq_true rfl) dX3_sherd_79 (fun H locs hP hD hS => ?_)
          have hP : va_P (dC, dI) vwCl [(m0, .inr (3, [.int (zi (0)), .int (zi ((mp : Int))), .ref a1, .ref a2, .ref a3, .ref a4, .ref a5, .ref a6, .int (zi ((mb : Int))), .ref a7, .ref a8, .int (zi ((ml : Int))), .ref a9, .ref a10, .int (zi (((mz + 1 : Nat) : Int))), .ref a11, .long (zl (ab)), .long (zl (be))])), (a9, .inl (cA, 60, .inl (zA (zupd spf (mz) (q))))), (a10, .inl (cA, 60, .inl (zA (zupd ssf (mz) (v)))))] H := hP
          have hD : va_D A [(m0, .inr (3, [.int (zi (0)), .int (zi ((mp : Int))), .ref a1, .ref a2, .ref a3, .ref a4, .ref a5, .ref a6, .int (zi ((mb : Int))), .ref a7, .ref a8, .int (zi ((ml : Int))), .ref a9, .ref a10, .int (zi (((mz + 1 : Nat) : Int))), .ref a11, .long (zl (ab)), .long (zl (be))])), (a9, .inl (cA, 60, .inl (zA (zupd spf (mz) (q))))), (a10, .inl (cA, 60, .inl (zA (zupd ssf (mz) (v)))))] := hD
          refine lv_aload_n hx hb dX3_sherd_82 rfl (lv_at hl 0 rfl) ?_
          refine lv_iload_n hx hb dX3_sherd_83 rfl (lv_at hl 1 rfl) ?_
          refine rdV (As := [.int (zi (q))]) (rest := []) (n := 1) hx hb hml hown hg (c_X3_allOf l dC dI m0 a1 a2 a3 a4 a5 a6 a7 a8 a9 a10 a11 (0) (ab) (be) mp mb ml (mz + 1) cA (zupd spf (mz) (q)) (zupd ssf (mz) (v)) q (by omega) (fun j => by have := hP9 j; simp only [zupd]; split <;> omega) (fun j => by have := hS9 j; simp only [zupd]; split <;> omega) (by omega)) (gwV wl_X3_157 wm_X3_allOf we_X3_allOf wi_X3 wc_X3_allOf) rfl rfl (by decide +kernel) ⟨Nat.le_of_ble_eq_true rfl, Nat.le_of_ble_eq_true rfl⟩ (hK.sub [0] rfl) (hP.sub [0, 1, 2] rfl) 0 rfl rfl rfl rfl hl.1 rfl (Nat.le_of_ble_eq_true rfl) dX3_sherd_84 ⟨Nat.zero_le _, Nat.zero_le _⟩ ?_
          have hP9 : va_P (dC, dI) vwCl [(m0, .inr (3, [.int (zi (0)), .int (zi ((mp : Int))), .ref a1, .ref a2, .ref a3, .ref a4, .ref a5, .ref a6, .int (zi ((mb : Int))), .ref a7, .ref a8, .int (zi ((ml : Int))), .ref a9, .ref a10, .int (zi (((mz + 1 : Nat) : Int))), .ref a11, .long (zl (ab)), .long (zl (be))])), (a9, .inl (cA, 60, .inl (zA (zupd spf (mz) (q))))), (a10, .inl (cA, 60, .inl (zA (zupd ssf (mz) (v)))))] H := hP
          rw [hQQ]
          exact wr_i hx hb hr hlocks rfl hP9 hS dX3_sherd_87
        · exact absurd c_47 (by decide)
      · exact False.elim (by omega)
    · exact absurd c_22 (by decide)
  · exact absurd c_6 (by decide)

abbrev rm_X3_vessels : Room := { frames := 2, cells := 0, slots := 0, locals := 43 }
set_option maxHeartbeats 4000000 in
set_option maxRecDepth 100000 in
theorem e_vessels (l : Launch) (dC : Nat → ClassId) (dI : Nat → Nat → Nat) (sz : Nat) (m0 a1 a2 a3 a4 a5 a6 a7 a8 a9 a10 a11 : Nat) (tw ab be : Int) (mp mb ml mz : Nat) (q how : Int) (hmp : mp ≤ 6) (h_q : -2147483648 ≤ q ∧ q < 2147483648) (h_how : -2147483648 ≤ how ∧ how < 2147483648) (hbad : ¬ (0 ≤ q ∧ q < (mp : Int) ∧ (how = 0 ∨ how = 1))) : Met l yX3_vessels (Cond.code yX3_vessels cX3_vessels 6 ((Option.some Jvm.ClassFile.FieldType.int)) :: gw) rm_X3_vessels (PcW [.ref m0, .int (zi (q)), .int (zi (how))] (dC, dI) vwCl [(m0, .inr (3, [.int (zi (tw)), .int (zi ((mp : Int))), .ref a1, .ref a2, .ref a3, .ref a4, .ref a5, .ref a6, .int (zi ((mb : Int))), .ref a7, .ref a8, .int (zi ((ml : Int))), .ref a9, .ref a10, .int (zi ((mz : Int))), .ref a11, .long (zl (ab)), .long (zl (be))]))] [] sz) (WrQ (some (.int (zi 0))) (dC, dI) vwCl [(m0, .inr (3, [.int (zi (1)), .int (zi ((mp : Int))), .ref a1, .ref a2, .ref a3, .ref a4, .ref a5, .ref a6, .int (zi ((mb : Int))), .ref a7, .ref a8, .int (zi ((ml : Int))), .ref a9, .ref a10, .int (zi ((mz : Int))), .ref a11, .long (zl (ab)), .long (zl (be))]))] (va_A [(m0, .inr (3, [.int (zi (tw)), .int (zi ((mp : Int))), .ref a1, .ref a2, .ref a3, .ref a4, .ref a5, .ref a6, .int (zi ((mb : Int))), .ref a7, .ref a8, .int (zi ((ml : Int))), .ref a9, .ref a10, .int (zi ((mz : Int))), .ref a11, .long (zl (ab)), .long (zl (be))]))] sz)) 0 0 (va_A [(m0, .inr (3, [.int (zi (tw)), .int (zi ((mp : Int))), .ref a1, .ref a2, .ref a3, .ref a4, .ref a5, .ref a6, .int (zi ((mb : Int))), .ref a7, .ref a8, .int (zi ((ml : Int))), .ref a9, .ref a10, .int (zi ((mz : Int))), .ref a11, .long (zl (ab)), .long (zl (be))]))] sz) := by
  refine Met.ofW (cc := cX3_vessels) (maxL := 6) (ret := ((Option.some Jvm.ClassFile.FieldType.int))) (by decide) rfl ?_
  intro p e s m args below meth c s₁ B hml hv
  obtain ⟨hargs, hsz, hP, hK, hD0⟩ := hv
  have hx := B.exec
  have hb := B.bytes
  have hr := B.returns
  have hts := atoms_spec (ws := Cond.code yX3_vessels cX3_vessels 6 ((Option.some Jvm.ClassFile.FieldType.int)) :: gw) B.pre
  have hg : ∀ w ∈ gw, w.before args s = true := fun w h => hts w (List.mem_cons_of_mem _ h)
  have hown : s.vm.findClass RX3 = some m.cls := findClass_of_methodNamed B.named
  have hlocks := B.notSynchronized
  subst hsz
  have hD := hD0.self (sz := s.heap.size)
  generalize hAe : va_A [(m0, .inr (3, [.int (zi (tw)), .int (zi ((mp : Int))), .ref a1, .ref a2, .ref a3, .ref a4, .ref a5, .ref a6, .int (zi ((mb : Int))), .ref a7, .ref a8, .int (zi ((ml : Int))), .ref a9, .ref a10, .int (zi ((mz : Int))), .ref a11, .long (zl (ab)), .long (zl (be))]))] s.heap.size = A at hD ⊢
  have hA : ∀ q : Nat, s.heap.size ≤ q → A q := fun q h => by rw [← hAe]; exact Or.inr h
  show W p l e rm_X3_vessels s m args below meth c s.heap [] 0 0 _ _
  have hl := lv_entry ([.ref m0, .int (zi (q)), .int (zi (how))]) (n := 6) (Nat.le_of_ble_eq_true rfl)
  rw [show entryFrame m args 6 = entryFrame m ([.ref m0, .int (zi (q)), .int (zi (how))] : List Value).toArray 6 by rw [hargs], lg_entry_eq]
  generalize (lg_sl ([.ref m0, .int (zi (q)), .int (zi (how))]) ++ List.replicate (6 - (lg_sl ([.ref m0, .int (zi (q)), .int (zi (how))])).length) Slot.unset).toArray = ls at hl ⊢
  have hl : lv_has ls 6 [(0, .ref m0), (1, .int (zi (q))), (2, .int (zi (how)))] := hl
  obtain ⟨QQ, hQQ⟩ : ∃ Q, Q = MQ below (WrQ (some (.int (zi 0))) (dC, dI) vwCl [(m0, .inr (3, [.int (zi (1)), .int (zi ((mp : Int))), .ref a1, .ref a2, .ref a3, .ref a4, .ref a5, .ref a6, .int (zi ((mb : Int))), .ref a7, .ref a8, .int (zi ((ml : Int))), .ref a9, .ref a10, .int (zi ((mz : Int))), .ref a11, .long (zl (ab)), .long (zl (be))]))] A) args s 0 0 A := ⟨_, rfl⟩
  rw [← hQQ]
  obtain ⟨H, hHe⟩ : ∃ H : Heap, H = s.heap := ⟨_, rfl⟩
  obtain ⟨locs, hlc⟩ : ∃ x : List Loc, x = [] := ⟨_, rfl⟩
  have hS : va_S A s.heap H locs := by rw [hHe, hlc]; exact va_S.rf
  have hP : va_P (dC, dI) vwCl [(m0, .inr (3, [.int (zi (tw)), .int (zi ((mp : Int))), .ref a1, .ref a2, .ref a3, .ref a4, .ref a5, .ref a6, .int (zi ((mb : Int))), .ref a7, .ref a8, .int (zi ((ml : Int))), .ref a9, .ref a10, .int (zi ((mz : Int))), .ref a11, .long (zl (ab)), .long (zl (be))]))] H := by rw [hHe]; exact hP
  have hD : va_D A [(m0, .inr (3, [.int (zi (tw)), .int (zi ((mp : Int))), .ref a1, .ref a2, .ref a3, .ref a4, .ref a5, .ref a6, .int (zi ((mb : Int))), .ref a7, .ref a8, .int (zi ((ml : Int))), .ref a9, .ref a10, .int (zi ((mz : Int))), .ref a11, .long (zl (ab)), .long (zl (be))]))] := hD
  rw [← hHe, ← hlc]
  refine lv_aload_n hx hb dX3_vessels_0 rfl (lv_at hl 0 rfl) ?_
  refine lv_aload_n hx hb dX3_vessels_1 rfl (lv_at hl 0 rfl) ?_
  refine lv_iload_n hx hb dX3_vessels_2 rfl (lv_at hl 1 rfl) ?_
  refine rdV (As := [.int (zi (q))]) (rest := [.ref m0]) (n := 1) hx hb hml hown hg (c_X3_isProfile l dC dI m0 a1 a2 a3 a4 a5 a6 a7 a8 a9 a10 a11 (tw) (ab) (be) mp mb ml mz (q) hmp (by omega)) (gwV wl_X3_70 wm_X3_isProfile we_X3_isProfile wi_X3 wc_X3_isProfile) rfl rfl (by decide +kernel) ⟨Nat.le_of_ble_eq_true rfl, Nat.le_of_ble_eq_true rfl⟩ (hK.sub [] rfl) (hP.sub [0] rfl) 0 rfl rfl rfl rfl hl.1 rfl (Nat.le_of_ble_eq_true rfl) dX3_vessels_3 ⟨Nat.zero_le _, Nat.zero_le _⟩ ?_
  refine zz_zb_eq (tgt := 18) hx hb dX3_vessels_6 (by decide) (fun c_6 => ?_) (fun c_6 => ?_)
  · refine lv_iconst (v := zi (1)) hx hb dX3_vessels_18 rfl ?_
    refine lv_goto (tgt := 23) hx hb dX3_vessels_19 (by decide) ?_
    refine lv_iconst (v := zi (0)) hx hb dX3_vessels_23 rfl ?_
    refine lv_iconst (v := zi (0)) hx hb dX3_vessels_24 rfl ?_
    refine wrV (As := [.int (zi (1)), .int (zi (0)), .int (zi (0))]) (rest := []) (n := 3) (ws' := [(m0, .inr (3, [.int (zi (1)), .int (zi ((mp : Int))), .ref a1, .ref a2, .ref a3, .ref a4, .ref a5, .ref a6, .int (zi ((mb : Int))), .ref a7, .ref a8, .int (zi ((ml : Int))), .ref a9, .ref a10, .int (zi ((mz : Int))), .ref a11, .long (zl (ab)), .long (zl (be))]))]) hx hb hml hown hg (c_throwing l dC dI H.size m0 a1 a2 a3 a4 a5 a6 a7 a8 a9 a10 a11 (tw) (ab) (be) mp mb ml mz 1 0 0 (by decide) (by decide) (by decide)) (gwV wl_X3_59 wm_X3_throwing we_X3_throwing wi_X3 wc_X3_throwing) rfl rfl (by decide +kernel) ⟨Nat.le_of_ble_eq_true rfl, Nat.le_of_ble_eq_true rfl⟩ (hK.sub [] rfl) hP hD hS hA [0] rfl (by decide) [(true, 0)] rfl (by decide) rfl 0 rfl rfl rfl rfl hl.1 rfl (Nat.le_of_ble_eq_true rfl) dX3_vessels_25 ⟨Nat.zero_le _, Nat.zero_le _⟩ (fun H locs hP hD hS => ?_)
    refine zz_topi (z := 1) (congrArg zi (by decide)) ?_
    refine zz_if_eq (tgt := 33) hx hb (by omega) dX3_vessels_28 (by decide) (fun c_28 => ?_) (fun c_28 => ?_)
    · exact absurd c_28 (by decide)
    · refine lv_iconst (v := zi (0)) hx hb dX3_vessels_31 rfl ?_
      have hP9 : va_P (dC, dI) vwCl [(m0, .inr (3, [.int (zi (1)), .int (zi ((mp : Int))), .ref a1, .ref a2, .ref a3, .ref a4, .ref a5, .ref a6, .int (zi ((mb : Int))), .ref a7, .ref a8, .int (zi ((ml : Int))), .ref a9, .ref a10, .int (zi ((mz : Int))), .ref a11, .long (zl (ab)), .long (zl (be))]))] H := hP
      rw [hQQ]
      exact wr_i hx hb hr hlocks rfl hP9 hS dX3_vessels_32
  · refine lv_iload_n hx hb dX3_vessels_9 rfl (lv_at hl 2 rfl) ?_
    refine lv_iconst (v := zi (0)) hx hb dX3_vessels_10 rfl ?_
    refine lv_iconst (v := zi (1)) hx hb dX3_vessels_11 rfl ?_
    refine rdS (As := [.int (zi (how)), .int (zi (0)), .int (zi (1))]) (rest := [.ref m0]) (n := 3) hx hb hml hown hg (c_X3_in l (how) (0) (1) (by omega) (by omega) (by omega)) (gwS wl_X3_55 wt_X3_in wi_X3 wc_X3_in) rfl rfl (by decide +kernel) ⟨Nat.le_of_ble_eq_true rfl, Nat.le_of_ble_eq_true rfl⟩ rfl hl.1 rfl (Nat.le_of_ble_eq_true rfl) dX3_vessels_12 ⟨Nat.zero_le _, Nat.zero_le _⟩ ?_
    refine zz_zb_ne (tgt := 22) hx hb dX3_vessels_15 (by decide) (fun c_15 => ?_) (fun c_15 => ?_)
    · exact False.elim (by omega)
    · refine lv_iconst (v := zi (1)) hx hb dX3_vessels_18 rfl ?_
      refine lv_goto (tgt := 23) hx hb dX3_vessels_19 (by decide) ?_
      refine lv_iconst (v := zi (0)) hx hb dX3_vessels_23 rfl ?_
      refine lv_iconst (v := zi (0)) hx hb dX3_vessels_24 rfl ?_
      refine wrV (As := [.int (zi (1)), .int (zi (0)), .int (zi (0))]) (rest := []) (n := 3) (ws' := [(m0, .inr (3, [.int (zi (1)), .int (zi ((mp : Int))), .ref a1, .ref a2, .ref a3, .ref a4, .ref a5, .ref a6, .int (zi ((mb : Int))), .ref a7, .ref a8, .int (zi ((ml : Int))), .ref a9, .ref a10, .int (zi ((mz : Int))), .ref a11, .long (zl (ab)), .long (zl (be))]))]) hx hb hml hown hg (c_throwing l dC dI H.size m0 a1 a2 a3 a4 a5 a6 a7 a8 a9 a10 a11 (tw) (ab) (be) mp mb ml mz 1 0 0 (by decide) (by decide) (by decide)) (gwV wl_X3_59 wm_X3_throwing we_X3_throwing wi_X3 wc_X3_throwing) rfl rfl (by decide +kernel) ⟨Nat.le_of_ble_eq_true rfl, Nat.le_of_ble_eq_true rfl⟩ (hK.sub [] rfl) hP hD hS hA [0] rfl (by decide) [(true, 0)] rfl (by decide) rfl 0 rfl rfl rfl rfl hl.1 rfl (Nat.le_of_ble_eq_true rfl) dX3_vessels_25 ⟨Nat.zero_le _, Nat.zero_le _⟩ (fun H locs hP hD hS => ?_)
      refine zz_topi (z := 1) (congrArg zi (by decide)) ?_
      refine zz_if_eq (tgt := 33) hx hb (by omega) dX3_vessels_28 (by decide) (fun c_28 => ?_) (fun c_28 => ?_)
      · exact absurd c_28 (by decide)
      · refine lv_iconst (v := zi (0)) hx hb dX3_vessels_31 rfl ?_
        have hP9 : va_P (dC, dI) vwCl [(m0, .inr (3, [.int (zi (1)), .int (zi ((mp : Int))), .ref a1, .ref a2, .ref a3, .ref a4, .ref a5, .ref a6, .int (zi ((mb : Int))), .ref a7, .ref a8, .int (zi ((ml : Int))), .ref a9, .ref a10, .int (zi ((mz : Int))), .ref a11, .long (zl (ab)), .long (zl (be))]))] H := hP
        rw [hQQ]
        exact wr_i hx hb hr hlocks rfl hP9 hS dX3_vessels_32

set_option maxHeartbeats 4000000 in
set_option maxRecDepth 100000 in
theorem k_vessels_0 (l : Launch) (dC : Nat → ClassId) (dI : Nat → Nat → Nat) (sz : Nat) (m0 a1 a2 a3 a4 a5 a6 a7 a8 a9 a10 a11 : Nat) (tw ab be : Int) (mp mb ml mz : Nat) (cA : ClassId) (spf ssf : Nat → Int) (q how : Int) (hsn : mz ≤ 60) (hP9 : ∀ j, 0 ≤ spf j ∧ spf j ≤ 5) (hS9 : ∀ j, 0 ≤ ssf j ∧ ssf j ≤ 1000) (hmp : mp ≤ 6) (hq : 0 ≤ q ∧ q < (mp : Int)) (h0 : how = 0) : Met l yX3_vessels (Cond.code yX3_vessels cX3_vessels 6 ((Option.some Jvm.ClassFile.FieldType.int)) :: gw) rm_X3_vessels (PcW [.ref m0, .int (zi (q)), .int (zi (how))] (dC, dI) vwCl [(m0, .inr (3, [.int (zi (tw)), .int (zi ((mp : Int))), .ref a1, .ref a2, .ref a3, .ref a4, .ref a5, .ref a6, .int (zi ((mb : Int))), .ref a7, .ref a8, .int (zi ((ml : Int))), .ref a9, .ref a10, .int (zi ((mz : Int))), .ref a11, .long (zl (ab)), .long (zl (be))])), (a9, .inl (cA, 60, .inl (zA (spf)))), (a10, .inl (cA, 60, .inl (zA (ssf))))] [(cA, .int)] sz) (WrQ (some (.int (zi (Int.tdiv (s_sum spf ssf q mz + 999) 1000)))) (dC, dI) vwCl [(m0, .inr (3, [.int (zi (0)), .int (zi ((mp : Int))), .ref a1, .ref a2, .ref a3, .ref a4, .ref a5, .ref a6, .int (zi ((mb : Int))), .ref a7, .ref a8, .int (zi ((ml : Int))), .ref a9, .ref a10, .int (zi ((mz : Int))), .ref a11, .long (zl (ab)), .long (zl (be))])), (a9, .inl (cA, 60, .inl (zA (spf)))), (a10, .inl (cA, 60, .inl (zA (ssf))))] (va_A [(m0, .inr (3, [.int (zi (tw)), .int (zi ((mp : Int))), .ref a1, .ref a2, .ref a3, .ref a4, .ref a5, .ref a6, .int (zi ((mb : Int))), .ref a7, .ref a8, .int (zi ((ml : Int))), .ref a9, .ref a10, .int (zi ((mz : Int))), .ref a11, .long (zl (ab)), .long (zl (be))])), (a9, .inl (cA, 60, .inl (zA (spf)))), (a10, .inl (cA, 60, .inl (zA (ssf))))] sz)) 0 0 (va_A [(m0, .inr (3, [.int (zi (tw)), .int (zi ((mp : Int))), .ref a1, .ref a2, .ref a3, .ref a4, .ref a5, .ref a6, .int (zi ((mb : Int))), .ref a7, .ref a8, .int (zi ((ml : Int))), .ref a9, .ref a10, .int (zi ((mz : Int))), .ref a11, .long (zl (ab)), .long (zl (be))])), (a9, .inl (cA, 60, .inl (zA (spf)))), (a10, .inl (cA, 60, .inl (zA (ssf))))] sz) := by
  refine Met.ofW (cc := cX3_vessels) (maxL := 6) (ret := ((Option.some Jvm.ClassFile.FieldType.int))) (by decide) rfl ?_
  intro p e s m args below meth c s₁ B hml hv
  obtain ⟨hargs, hsz, hP, hK, hD0⟩ := hv
  have hx := B.exec
  have hb := B.bytes
  have hr := B.returns
  have hts := atoms_spec (ws := Cond.code yX3_vessels cX3_vessels 6 ((Option.some Jvm.ClassFile.FieldType.int)) :: gw) B.pre
  have hg : ∀ w ∈ gw, w.before args s = true := fun w h => hts w (List.mem_cons_of_mem _ h)
  have hown : s.vm.findClass RX3 = some m.cls := findClass_of_methodNamed B.named
  have hlocks := B.notSynchronized
  subst hsz
  have hD := hD0.self (sz := s.heap.size)
  generalize hAe : va_A [(m0, .inr (3, [.int (zi (tw)), .int (zi ((mp : Int))), .ref a1, .ref a2, .ref a3, .ref a4, .ref a5, .ref a6, .int (zi ((mb : Int))), .ref a7, .ref a8, .int (zi ((ml : Int))), .ref a9, .ref a10, .int (zi ((mz : Int))), .ref a11, .long (zl (ab)), .long (zl (be))])), (a9, .inl (cA, 60, .inl (zA (spf)))), (a10, .inl (cA, 60, .inl (zA (ssf))))] s.heap.size = A at hD ⊢
  have hA : ∀ q : Nat, s.heap.size ≤ q → A q := fun q h => by rw [← hAe]; exact Or.inr h
  show W p l e rm_X3_vessels s m args below meth c s.heap [] 0 0 _ _
  have hl := lv_entry ([.ref m0, .int (zi (q)), .int (zi (how))]) (n := 6) (Nat.le_of_ble_eq_true rfl)
  rw [show entryFrame m args 6 = entryFrame m ([.ref m0, .int (zi (q)), .int (zi (how))] : List Value).toArray 6 by rw [hargs], lg_entry_eq]
  generalize (lg_sl ([.ref m0, .int (zi (q)), .int (zi (how))]) ++ List.replicate (6 - (lg_sl ([.ref m0, .int (zi (q)), .int (zi (how))])).length) Slot.unset).toArray = ls at hl ⊢
  have hl : lv_has ls 6 [(0, .ref m0), (1, .int (zi (q))), (2, .int (zi (how)))] := hl
  obtain ⟨QQ, hQQ⟩ : ∃ Q, Q = MQ below (WrQ (some (.int (zi (Int.tdiv (s_sum spf ssf q mz + 999) 1000)))) (dC, dI) vwCl [(m0, .inr (3, [.int (zi (0)), .int (zi ((mp : Int))), .ref a1, .ref a2, .ref a3, .ref a4, .ref a5, .ref a6, .int (zi ((mb : Int))), .ref a7, .ref a8, .int (zi ((ml : Int))), .ref a9, .ref a10, .int (zi ((mz : Int))), .ref a11, .long (zl (ab)), .long (zl (be))])), (a9, .inl (cA, 60, .inl (zA (spf)))), (a10, .inl (cA, 60, .inl (zA (ssf))))] A) args s 0 0 A := ⟨_, rfl⟩
  rw [← hQQ]
  obtain ⟨H, hHe⟩ : ∃ H : Heap, H = s.heap := ⟨_, rfl⟩
  obtain ⟨locs, hlc⟩ : ∃ x : List Loc, x = [] := ⟨_, rfl⟩
  have hS : va_S A s.heap H locs := by rw [hHe, hlc]; exact va_S.rf
  have hP : va_P (dC, dI) vwCl [(m0, .inr (3, [.int (zi (tw)), .int (zi ((mp : Int))), .ref a1, .ref a2, .ref a3, .ref a4, .ref a5, .ref a6, .int (zi ((mb : Int))), .ref a7, .ref a8, .int (zi ((ml : Int))), .ref a9, .ref a10, .int (zi ((mz : Int))), .ref a11, .long (zl (ab)), .long (zl (be))])), (a9, .inl (cA, 60, .inl (zA (spf)))), (a10, .inl (cA, 60, .inl (zA (ssf))))] H := by rw [hHe]; exact hP
  have hD : va_D A [(m0, .inr (3, [.int (zi (tw)), .int (zi ((mp : Int))), .ref a1, .ref a2, .ref a3, .ref a4, .ref a5, .ref a6, .int (zi ((mb : Int))), .ref a7, .ref a8, .int (zi ((ml : Int))), .ref a9, .ref a10, .int (zi ((mz : Int))), .ref a11, .long (zl (ab)), .long (zl (be))])), (a9, .inl (cA, 60, .inl (zA (spf)))), (a10, .inl (cA, 60, .inl (zA (ssf))))] := hD
  rw [← hHe, ← hlc]
  have hsb := s_sum_bd (pf := spf) (p := q) hS9 mz
  refine lv_aload_n hx hb dX3_vessels_0 rfl (lv_at hl 0 rfl) ?_
  refine lv_aload_n hx hb dX3_vessels_1 rfl (lv_at hl 0 rfl) ?_
  refine lv_iload_n hx hb dX3_vessels_2 rfl (lv_at hl 1 rfl) ?_
  refine rdV (As := [.int (zi (q))]) (rest := [.ref m0]) (n := 1) hx hb hml hown hg (c_X3_isProfile l dC dI m0 a1 a2 a3 a4 a5 a6 a7 a8 a9 a10 a11 (tw) (ab) (be) mp mb ml mz (q) hmp (by omega)) (gwV wl_X3_70 wm_X3_isProfile we_X3_isProfile wi_X3 wc_X3_isProfile) rfl rfl (by decide +kernel) ⟨Nat.le_of_ble_eq_true rfl, Nat.le_of_ble_eq_true rfl⟩ (hK.sub [] rfl) (hP.sub [0] rfl) 0 rfl rfl rfl rfl hl.1 rfl (Nat.le_of_ble_eq_true rfl) dX3_vessels_3 ⟨Nat.zero_le _, Nat.zero_le _⟩ ?_
  refine zz_topi (z := 1) (congrArg zi (zb_t (decide_eq_true (by omega)))) ?_
  refine zz_if_eq (tgt := 18) hx hb (by omega) dX3_vessels_6 (by decide) (fun c_6 => ?_) (fun c_6 => ?_)
  · exact absurd c_6 (by decide)
  · refine lv_iload_n hx hb dX3_vessels_9 rfl (lv_at hl 2 rfl) ?_
    refine lv_iconst (v := zi (0)) hx hb dX3_vessels_10 rfl ?_
    refine lv_iconst (v := zi (1)) hx hb dX3_vessels_11 rfl ?_
    refine rdS (As := [.int (zi (how)), .int (zi (0)), .int (zi (1))]) (rest := [.ref m0]) (n := 3) hx hb hml hown hg (c_X3_in l (how) (0) (1) (by omega) (by omega) (by omega)) (gwS wl_X3_55 wt_X3_in wi_X3 wc_X3_in) rfl rfl (by decide +kernel) ⟨Nat.le_of_ble_eq_true rfl, Nat.le_of_ble_eq_true rfl⟩ rfl hl.1 rfl (Nat.le_of_ble_eq_true rfl) dX3_vessels_12 ⟨Nat.zero_le _, Nat.zero_le _⟩ ?_
    refine zz_topi (z := 1) (congrArg zi (zb_t (decide_eq_true (by omega)))) ?_
    refine zz_if_ne (tgt := 22) hx hb (by omega) dX3_vessels_15 (by decide) (fun c_15 => ?_) (fun c_15 => ?_)
    · refine lv_iconst (v := zi (0)) hx hb dX3_vessels_22 rfl ?_
      refine lv_iconst (v := zi (0)) hx hb dX3_vessels_23 rfl ?_
      refine lv_iconst (v := zi (0)) hx hb dX3_vessels_24 rfl ?_
      refine wrV (As := [.int (zi (0)), .int (zi (0)), .int (zi (0))]) (rest := []) (n := 3) (ws' := [(m0, .inr (3, [.int (zi (0)), .int (zi ((mp : Int))), .ref a1, .ref a2, .ref a3, .ref a4, .ref a5, .ref a6, .int (zi ((mb : Int))), .ref a7, .ref a8, .int (zi ((ml : Int))), .ref a9, .ref a10, .int (zi ((mz : Int))), .ref a11, .long (zl (ab)), .long (zl (be))])), (a9, .inl (cA, 60, .inl (zA (spf)))), (a10, .inl (cA, 60, .inl (zA (ssf))))]) hx hb hml hown hg (c_throwing l dC dI H.size m0 a1 a2 a3 a4 a5 a6 a7 a8 a9 a10 a11 (tw) (ab) (be) mp mb ml mz 0 0 0 (by decide) (by decide) (by decide)) (gwV wl_X3_59 wm_X3_throwing we_X3_throwing wi_X3 wc_X3_throwing) rfl rfl (by decide +kernel) ⟨Nat.le_of_ble_eq_true rfl, Nat.le_of_ble_eq_true rfl⟩ (hK.sub [] rfl) hP hD hS hA [0] rfl (by decide) [(true, 0), (false, 1), (false, 2)] rfl (by decide) rfl 0 rfl rfl rfl rfl hl.1 rfl (Nat.le_of_ble_eq_true rfl) dX3_vessels_25 ⟨Nat.zero_le _, Nat.zero_le _⟩ (fun H locs hP hD hS => ?_)
      refine zz_topi (z := 0) (congrArg zi (by decide)) ?_
      refine zz_if_eq (tgt := 33) hx hb (by omega) dX3_vessels_28 (by decide) (fun c_28 => ?_) (fun c_28 => ?_)
      · refine lv_iload_n hx hb dX3_vessels_33 rfl (lv_at hl 2 rfl) ?_
        refine zz_if_ne (tgt := 51) hx hb (by omega) dX3_vessels_34 (by decide) (fun c_34 => ?_) (fun c_34 => ?_)
        · exact False.elim (by omega)
        · refine lv_aload_n hx hb dX3_vessels_37 rfl (lv_at hl 0 rfl) ?_
          refine lv_iload_n hx hb dX3_vessels_38 rfl (lv_at hl 1 rfl) ?_
          refine rdV (As := [.int (zi (q))]) (rest := []) (n := 1) hx hb hml hown hg (c_X3_allOf l dC dI m0 a1 a2 a3 a4 a5 a6 a7 a8 a9 a10 a11 (0) (ab) (be) mp mb ml mz cA spf ssf q hsn hP9 hS9 (by omega)) (gwV wl_X3_157 wm_X3_allOf we_X3_allOf wi_X3 wc_X3_allOf) rfl rfl (by decide +kernel) ⟨Nat.le_of_ble_eq_true rfl, Nat.le_of_ble_eq_true rfl⟩ (hK.sub [0] rfl) (hP.sub [0, 1, 2] rfl) 0 rfl rfl rfl rfl hl.1 rfl (Nat.le_of_ble_eq_true rfl) dX3_vessels_39 ⟨Nat.zero_le _, Nat.zero_le _⟩ ?_
          refine lv_sipush (v := zi (999)) hx hb dX3_vessels_42 (by decide) ?_
          refine zz_iadd hx hb dX3_vessels_45 ?_
          refine lv_sipush (v := zi (1000)) hx hb dX3_vessels_46 (by decide) ?_
          refine zz_idiv hx hb (by omega) (by omega) dX3_vessels_49 ?_
          have hP9 : va_P (dC, dI) vwCl [(m0, .inr (3, [.int (zi (0)), .int (zi ((mp : Int))), .ref a1, .ref a2, .ref a3, .ref a4, .ref a5, .ref a6, .int (zi ((mb : Int))), .ref a7, .ref a8, .int (zi ((ml : Int))), .ref a9, .ref a10, .int (zi ((mz : Int))), .ref a11, .long (zl (ab)), .long (zl (be))])), (a9, .inl (cA, 60, .inl (zA (spf)))), (a10, .inl (cA, 60, .inl (zA (ssf))))] H := hP
          rw [hQQ]
          exact wr_i hx hb hr hlocks rfl hP9 hS dX3_vessels_50
      · exact absurd c_28 (by decide)
    · exact absurd c_15 (by decide)

set_option maxHeartbeats 4000000 in
set_option maxRecDepth 100000 in
theorem k_vessels_1 (l : Launch) (dC : Nat → ClassId) (dI : Nat → Nat → Nat) (sz : Nat) (m0 a1 a2 a3 a4 a5 a6 a7 a8 a9 a10 a11 : Nat) (tw ab be : Int) (mp mb ml mz : Nat) (cA : ClassId) (spf ssf : Nat → Int) (v0 : Nat → Int) (q how : Int) (hsn : mz ≤ 60) (hP9 : ∀ j, 0 ≤ spf j ∧ spf j ≤ 5) (hS9 : ∀ j, 0 ≤ ssf j ∧ ssf j ≤ 1000) (hmp : mp ≤ 6) (hq : 0 ≤ q ∧ q < (mp : Int)) (hV0 : ∀ j, 0 ≤ v0 j ∧ v0 j ≤ 1000) (h1 : how = 1) : Met l yX3_vessels (Cond.code yX3_vessels cX3_vessels 6 ((Option.some Jvm.ClassFile.FieldType.int)) :: gw) rm_X3_vessels (PcW [.ref m0, .int (zi (q)), .int (zi (how))] (dC, dI) vwCl [(m0, .inr (3, [.int (zi (tw)), .int (zi ((mp : Int))), .ref a1, .ref a2, .ref a3, .ref a4, .ref a5, .ref a6, .int (zi ((mb : Int))), .ref a7, .ref a8, .int (zi ((ml : Int))), .ref a9, .ref a10, .int (zi ((mz : Int))), .ref a11, .long (zl (ab)), .long (zl (be))])), (a9, .inl (cA, 60, .inl (zA (spf)))), (a10, .inl (cA, 60, .inl (zA (ssf)))), (a11, .inl (cA, 60, .inl (zA (v0))))] [(cA, .int)] sz) (WrQ (some (.int (zi ((((s_ves spf ssf q v0 mz).1 : Nat)) : Int)))) (dC, dI) vwCl [(m0, .inr (3, [.int (zi (0)), .int (zi ((mp : Int))), .ref a1, .ref a2, .ref a3, .ref a4, .ref a5, .ref a6, .int (zi ((mb : Int))), .ref a7, .ref a8, .int (zi ((ml : Int))), .ref a9, .ref a10, .int (zi ((mz : Int))), .ref a11, .long (zl (ab)), .long (zl (be))])), (a9, .inl (cA, 60, .inl (zA (spf)))), (a10, .inl (cA, 60, .inl (zA (ssf)))), (a11, .inl (cA, 60, .inl (zA ((s_ves spf ssf q v0 mz).2))))] (va_A [(m0, .inr (3, [.int (zi (tw)), .int (zi ((mp : Int))), .ref a1, .ref a2, .ref a3, .ref a4, .ref a5, .ref a6, .int (zi ((mb : Int))), .ref a7, .ref a8, .int (zi ((ml : Int))), .ref a9, .ref a10, .int (zi ((mz : Int))), .ref a11, .long (zl (ab)), .long (zl (be))])), (a9, .inl (cA, 60, .inl (zA (spf)))), (a10, .inl (cA, 60, .inl (zA (ssf)))), (a11, .inl (cA, 60, .inl (zA (v0))))] sz)) 0 0 (va_A [(m0, .inr (3, [.int (zi (tw)), .int (zi ((mp : Int))), .ref a1, .ref a2, .ref a3, .ref a4, .ref a5, .ref a6, .int (zi ((mb : Int))), .ref a7, .ref a8, .int (zi ((ml : Int))), .ref a9, .ref a10, .int (zi ((mz : Int))), .ref a11, .long (zl (ab)), .long (zl (be))])), (a9, .inl (cA, 60, .inl (zA (spf)))), (a10, .inl (cA, 60, .inl (zA (ssf)))), (a11, .inl (cA, 60, .inl (zA (v0))))] sz) := by
  refine Met.ofW (cc := cX3_vessels) (maxL := 6) (ret := ((Option.some Jvm.ClassFile.FieldType.int))) (by decide) rfl ?_
  intro p e s m args below meth c s₁ B hml hv
  obtain ⟨hargs, hsz, hP, hK, hD0⟩ := hv
  have hx := B.exec
  have hb := B.bytes
  have hr := B.returns
  have hts := atoms_spec (ws := Cond.code yX3_vessels cX3_vessels 6 ((Option.some Jvm.ClassFile.FieldType.int)) :: gw) B.pre
  have hg : ∀ w ∈ gw, w.before args s = true := fun w h => hts w (List.mem_cons_of_mem _ h)
  have hown : s.vm.findClass RX3 = some m.cls := findClass_of_methodNamed B.named
  have hlocks := B.notSynchronized
  subst hsz
  have hD := hD0.self (sz := s.heap.size)
  generalize hAe : va_A [(m0, .inr (3, [.int (zi (tw)), .int (zi ((mp : Int))), .ref a1, .ref a2, .ref a3, .ref a4, .ref a5, .ref a6, .int (zi ((mb : Int))), .ref a7, .ref a8, .int (zi ((ml : Int))), .ref a9, .ref a10, .int (zi ((mz : Int))), .ref a11, .long (zl (ab)), .long (zl (be))])), (a9, .inl (cA, 60, .inl (zA (spf)))), (a10, .inl (cA, 60, .inl (zA (ssf)))), (a11, .inl (cA, 60, .inl (zA (v0))))] s.heap.size = A at hD ⊢
  have hA : ∀ q : Nat, s.heap.size ≤ q → A q := fun q h => by rw [← hAe]; exact Or.inr h
  show W p l e rm_X3_vessels s m args below meth c s.heap [] 0 0 _ _
  have hl := lv_entry ([.ref m0, .int (zi (q)), .int (zi (how))]) (n := 6) (Nat.le_of_ble_eq_true rfl)
  rw [show entryFrame m args 6 = entryFrame m ([.ref m0, .int (zi (q)), .int (zi (how))] : List Value).toArray 6 by rw [hargs], lg_entry_eq]
  generalize (lg_sl ([.ref m0, .int (zi (q)), .int (zi (how))]) ++ List.replicate (6 - (lg_sl ([.ref m0, .int (zi (q)), .int (zi (how))])).length) Slot.unset).toArray = ls at hl ⊢
  have hl : lv_has ls 6 [(0, .ref m0), (1, .int (zi (q))), (2, .int (zi (how)))] := hl
  obtain ⟨QQ, hQQ⟩ : ∃ Q, Q = MQ below (WrQ (some (.int (zi ((((s_ves spf ssf q v0 mz).1 : Nat)) : Int)))) (dC, dI) vwCl [(m0, .inr (3, [.int (zi (0)), .int (zi ((mp : Int))), .ref a1, .ref a2, .ref a3, .ref a4, .ref a5, .ref a6, .int (zi ((mb : Int))), .ref a7, .ref a8, .int (zi ((ml : Int))), .ref a9, .ref a10, .int (zi ((mz : Int))), .ref a11, .long (zl (ab)), .long (zl (be))])), (a9, .inl (cA, 60, .inl (zA (spf)))), (a10, .inl (cA, 60, .inl (zA (ssf)))), (a11, .inl (cA, 60, .inl (zA ((s_ves spf ssf q v0 mz).2))))] A) args s 0 0 A := ⟨_, rfl⟩
  rw [← hQQ]
  obtain ⟨H, hHe⟩ : ∃ H : Heap, H = s.heap := ⟨_, rfl⟩
  obtain ⟨locs, hlc⟩ : ∃ x : List Loc, x = [] := ⟨_, rfl⟩
  have hS : va_S A s.heap H locs := by rw [hHe, hlc]; exact va_S.rf
  have hP : va_P (dC, dI) vwCl [(m0, .inr (3, [.int (zi (tw)), .int (zi ((mp : Int))), .ref a1, .ref a2, .ref a3, .ref a4, .ref a5, .ref a6, .int (zi ((mb : Int))), .ref a7, .ref a8, .int (zi ((ml : Int))), .ref a9, .ref a10, .int (zi ((mz : Int))), .ref a11, .long (zl (ab)), .long (zl (be))])), (a9, .inl (cA, 60, .inl (zA (spf)))), (a10, .inl (cA, 60, .inl (zA (ssf)))), (a11, .inl (cA, 60, .inl (zA (v0))))] H := by rw [hHe]; exact hP
  have hD : va_D A [(m0, .inr (3, [.int (zi (tw)), .int (zi ((mp : Int))), .ref a1, .ref a2, .ref a3, .ref a4, .ref a5, .ref a6, .int (zi ((mb : Int))), .ref a7, .ref a8, .int (zi ((ml : Int))), .ref a9, .ref a10, .int (zi ((mz : Int))), .ref a11, .long (zl (ab)), .long (zl (be))])), (a9, .inl (cA, 60, .inl (zA (spf)))), (a10, .inl (cA, 60, .inl (zA (ssf)))), (a11, .inl (cA, 60, .inl (zA (v0))))] := hD
  rw [← hHe, ← hlc]
  refine lv_aload_n hx hb dX3_vessels_0 rfl (lv_at hl 0 rfl) ?_
  refine lv_aload_n hx hb dX3_vessels_1 rfl (lv_at hl 0 rfl) ?_
  refine lv_iload_n hx hb dX3_vessels_2 rfl (lv_at hl 1 rfl) ?_
  refine rdV (As := [.int (zi (q))]) (rest := [.ref m0]) (n := 1) hx hb hml hown hg (c_X3_isProfile l dC dI m0 a1 a2 a3 a4 a5 a6 a7 a8 a9 a10 a11 (tw) (ab) (be) mp mb ml mz (q) hmp (by omega)) (gwV wl_X3_70 wm_X3_isProfile we_X3_isProfile wi_X3 wc_X3_isProfile) rfl rfl (by decide +kernel) ⟨Nat.le_of_ble_eq_true rfl, Nat.le_of_ble_eq_true rfl⟩ (hK.sub [] rfl) (hP.sub [0] rfl) 0 rfl rfl rfl rfl hl.1 rfl (Nat.le_of_ble_eq_true rfl) dX3_vessels_3 ⟨Nat.zero_le _, Nat.zero_le _⟩ ?_
  refine zz_topi (z := 1) (congrArg zi (zb_t (decide_eq_true (by omega)))) ?_
  refine zz_if_eq (tgt := 18) hx hb (by omega) dX3_vessels_6 (by decide) (fun c_6 => ?_) (fun c_6 => ?_)
  · exact absurd c_6 (by decide)
  · refine lv_iload_n hx hb dX3_vessels_9 rfl (lv_at hl 2 rfl) ?_
    refine lv_iconst (v := zi (0)) hx hb dX3_vessels_10 rfl ?_
    refine lv_iconst (v := zi (1)) hx hb dX3_vessels_11 rfl ?_
    refine rdS (As := [.int (zi (how)), .int (zi (0)), .int (zi (1))]) (rest := [.ref m0]) (n := 3) hx hb hml hown hg (c_X3_in l (how) (0) (1) (by omega) (by omega) (by omega)) (gwS wl_X3_55 wt_X3_in wi_X3 wc_X3_in) rfl rfl (by decide +kernel) ⟨Nat.le_of_ble_eq_true rfl, Nat.le_of_ble_eq_true rfl⟩ rfl hl.1 rfl (Nat.le_of_ble_eq_true rfl) dX3_vessels_12 ⟨Nat.zero_le _, Nat.zero_le _⟩ ?_
    refine zz_topi (z := 1) (congrArg zi (zb_t (decide_eq_true (by omega)))) ?_
    refine zz_if_ne (tgt := 22) hx hb (by omega) dX3_vessels_15 (by decide) (fun c_15 => ?_) (fun c_15 => ?_)
    · refine lv_iconst (v := zi (0)) hx hb dX3_vessels_22 rfl ?_
      refine lv_iconst (v := zi (0)) hx hb dX3_vessels_23 rfl ?_
      refine lv_iconst (v := zi (0)) hx hb dX3_vessels_24 rfl ?_
      refine wrV (As := [.int (zi (0)), .int (zi (0)), .int (zi (0))]) (rest := []) (n := 3) (ws' := [(m0, .inr (3, [.int (zi (0)), .int (zi ((mp : Int))), .ref a1, .ref a2, .ref a3, .ref a4, .ref a5, .ref a6, .int (zi ((mb : Int))), .ref a7, .ref a8, .int (zi ((ml : Int))), .ref a9, .ref a10, .int (zi ((mz : Int))), .ref a11, .long (zl (ab)), .long (zl (be))])), (a9, .inl (cA, 60, .inl (zA (spf)))), (a10, .inl (cA, 60, .inl (zA (ssf)))), (a11, .inl (cA, 60, .inl (zA (v0))))]) hx hb hml hown hg (c_throwing l dC dI H.size m0 a1 a2 a3 a4 a5 a6 a7 a8 a9 a10 a11 (tw) (ab) (be) mp mb ml mz 0 0 0 (by decide) (by decide) (by decide)) (gwV wl_X3_59 wm_X3_throwing we_X3_throwing wi_X3 wc_X3_throwing) rfl rfl (by decide +kernel) ⟨Nat.le_of_ble_eq_true rfl, Nat.le_of_ble_eq_true rfl⟩ (hK.sub [] rfl) hP hD hS hA [0] rfl (by decide) [(true, 0), (false, 1), (false, 2), (false, 3)] rfl (by decide) rfl 0 rfl rfl rfl rfl hl.1 rfl (Nat.le_of_ble_eq_true rfl) dX3_vessels_25 ⟨Nat.zero_le _, Nat.zero_le _⟩ (fun H locs hP hD hS => ?_)
      refine zz_topi (z := 0) (congrArg zi (by decide)) ?_
      refine zz_if_eq (tgt := 33) hx hb (by omega) dX3_vessels_28 (by decide) (fun c_28 => ?_) (fun c_28 => ?_)
      · refine lv_iload_n hx hb dX3_vessels_33 rfl (lv_at hl 2 rfl) ?_
        refine zz_if_ne (tgt := 51) hx hb (by omega) dX3_vessels_34 (by decide) (fun c_34 => ?_) (fun c_34 => ?_)
        · refine lv_iconst (v := zi (0)) hx hb dX3_vessels_51 rfl ?_
          refine lv_istore_n (lv' := [(3, .int (zi (0))), (0, .ref m0), (1, .int (zi (q))), (2, .int (zi (how)))]) hx hb dX3_vessels_52 rfl hl (by decide) rfl (fun ls hl => ?_)
          refine lv_iconst (v := zi (0)) hx hb dX3_vessels_53 rfl ?_
          refine lv_istore (lv' := [(4, .int (zi (0))), (3, .int (zi (0))), (0, .ref m0), (1, .int (zi (q))), (2, .int (zi (how)))]) hx hb dX3_vessels_54 hl (by decide) rfl (fun ls hl => ?_)
          have key_56 : ∀ (n_ : Nat) (t : Nat), t ≤ mz → mz - t < n_ → ∀ (H : Heap) (locs : List Loc), va_P (dC, dI) vwCl [(m0, .inr (3, [.int (zi (0)), .int (zi ((mp : Int))), .ref a1, .ref a2, .ref a3, .ref a4, .ref a5, .ref a6, .int (zi ((mb : Int))), .ref a7, .ref a8, .int (zi ((ml : Int))), .ref a9, .ref a10, .int (zi ((mz : Int))), .ref a11, .long (zl (ab)), .long (zl (be))])), (a9, .inl (cA, 60, .inl (zA (spf)))), (a10, .inl (cA, 60, .inl (zA (ssf)))), (a11, .inl (cA, 60, .inl (zA ((s_ves spf ssf q v0 t).2))))] H → va_D A [(m0, .inr (3, [.int (zi (0)), .int (zi ((mp : Int))), .ref a1, .ref a2, .ref a3, .ref a4, .ref a5, .ref a6, .int (zi ((mb : Int))), .ref a7, .ref a8, .int (zi ((ml : Int))), .ref a9, .ref a10, .int (zi ((mz : Int))), .ref a11, .long (zl (ab)), .long (zl (be))])), (a9, .inl (cA, 60, .inl (zA (spf)))), (a10, .inl (cA, 60, .inl (zA (ssf)))), (a11, .inl (cA, 60, .inl (zA ((s_ves spf ssf q v0 t).2))))] → va_S A s.heap H locs → ∀ (ls : Array Slot), lv_has ls 6 [(4, .int (zi ((t : Int)))), (3, .int (zi ((((s_ves spf ssf q v0 t).1 : Nat) : Int)))), (1, .int (zi (q))), (0, .ref m0)] → W p l e rm_X3_vessels s m args below meth c H locs 0 0 QQ (F0 m 56 ls []) := by
            intro n_56
            induction n_56 with
            | zero => intro t ht hm_; exact absurd hm_ (Nat.not_lt_zero _)
            | succ n_56 ih_56 =>
              intro t ht hm_ H locs hP hD hS ls hl
              refine lv_iload hx hb dX3_vessels_56 (lv_at hl 0 rfl) ?_
              have hvb := s_ves_bd (pf := spf) (sf := ssf) (p := q) hV0 hS9 t
              refine lv_aload_n hx hb dX3_vessels_58 rfl (lv_at hl 3 rfl) ?_
              refine va_get (D := (dC, dI)) (ci := 3) (v := .int (zi ((mz : Int)))) (C := RX3) (T := TX3) (N := 18) hx hb hg inX3 hown hK hP 0 rfl rfl 14 (by decide) (hg _ wl_X3_154) (fun _ h9 => h9) rfl dX3_vessels_59 ?_
              refine zz_icmp_ge (tgt := 155) hx hb (by omega) (by omega) dX3_vessels_62 (by decide) (fun c_62 => ?_) (fun c_62 => ?_)
              · refine lv_iload_n hx hb dX3_vessels_155 rfl (lv_at hl 1 rfl) ?_
                have hts9 : t = mz := by omega
                have hP9 : va_P (dC, dI) vwCl [(m0, .inr (3, [.int (zi (0)), .int (zi ((mp : Int))), .ref a1, .ref a2, .ref a3, .ref a4, .ref a5, .ref a6, .int (zi ((mb : Int))), .ref a7, .ref a8, .int (zi ((ml : Int))), .ref a9, .ref a10, .int (zi ((mz : Int))), .ref a11, .long (zl (ab)), .long (zl (be))])), (a9, .inl (cA, 60, .inl (zA (spf)))), (a10, .inl (cA, 60, .inl (zA (ssf)))), (a11, .inl (cA, 60, .inl (zA ((s_ves spf ssf q v0 mz).2))))] H := by rw [hts9] at hP; exact hP
                rw [hQQ]
                exact wr_i hx hb hr hlocks (by rw [hts9]) hP9 hS dX3_vessels_156
              · refine lv_aload_n hx hb dX3_vessels_65 rfl (lv_at hl 3 rfl) ?_
                refine va_get (D := (dC, dI)) (ci := 3) (v := .ref a9) (C := RX3) (T := TX3) (N := 18) hx hb hg inX3 hown hK hP 0 rfl rfl 12 (by decide) (hg _ wl_X3_35) (fun _ h9 => h9) rfl dX3_vessels_66 ?_
                refine lv_iload hx hb dX3_vessels_69 (lv_at hl 0 rfl) ?_
                refine zz_iald hx hb hK hP 1 0 rfl rfl (t) (by omega) (by omega) (by decide) dX3_vessels_71 ?_
                have hv_1 := hP9 (t)
                refine lv_iload_n hx hb dX3_vessels_72 rfl (lv_at hl 2 rfl) ?_
                refine zz_icmp_eq (tgt := 79) hx hb (by omega) (by omega) dX3_vessels_73 (by decide) (fun c_73 => ?_) (fun c_73 => ?_)
                · refine lv_iconst (v := zi (0)) hx hb dX3_vessels_79 rfl ?_
                  refine lv_istore (lv' := [(5, .int (zi (0))), (4, .int (zi ((t : Int)))), (3, .int (zi ((((s_ves spf ssf q v0 t).1 : Nat) : Int)))), (1, .int (zi (q))), (0, .ref m0)]) hx hb dX3_vessels_80 hl (by decide) rfl (fun ls hl => ?_)
                  have key_82 : ∀ (n_ : Nat) (x : Nat), x ≤ (s_ves spf ssf q v0 t).1 → s_first (s_ves spf ssf q v0 t).2 (ssf t) ((s_ves spf ssf q v0 t).1 - x) x = (s_first (s_ves spf ssf q v0 t).2 (ssf t) (s_ves spf ssf q v0 t).1 0) → 61 - x < n_ → ∀ (ls : Array Slot), lv_has ls 6 [(5, .int (zi ((x : Int)))), (4, .int (zi ((t : Int)))), (3, .int (zi ((((s_ves spf ssf q v0 t).1 : Nat) : Int)))), (1, .int (zi (q))), (0, .ref m0)] → W p l e rm_X3_vessels s m args below meth c H locs 0 0 QQ (F0 m 82 ls []) := by
                    intro n_82
                    induction n_82 with
                    | zero => intro x hx1 hx2 hm_; exact absurd hm_ (Nat.not_lt_zero _)
                    | succ n_82 ih_82 =>
                      intro x hx1 hx2 hm_ ls hl
                      refine lv_iload hx hb dX3_vessels_82 (lv_at hl 0 rfl) ?_
                      refine lv_iload_n hx hb dX3_vessels_84 rfl (lv_at hl 2 rfl) ?_
                      refine zz_icmp_ge (tgt := 115) hx hb (by omega) (by omega) dX3_vessels_85 (by decide) (fun c_85 => ?_) (fun c_85 => ?_)
                      · have hvx : (s_first (s_ves spf ssf q v0 t).2 (ssf t) (s_ves spf ssf q v0 t).1 0) = x := by rw [← hx2, show (s_ves spf ssf q v0 t).1 - x = 0 by omega, s_first]
                        refine lv_iload hx hb dX3_vessels_115 (lv_at hl 0 rfl) ?_
                        refine lv_iload_n hx hb dX3_vessels_117 rfl (lv_at hl 2 rfl) ?_
                        refine zz_icmp_ne (tgt := 132) hx hb (by omega) (by omega) dX3_vessels_118 (by decide) (fun c_118 => ?_) (fun c_118 => ?_)
                        · have hcn : ¬ x = (s_ves spf ssf q v0 t).1 := by omega
                          refine lv_aload_n hx hb dX3_vessels_132 rfl (lv_at hl 4 rfl) ?_
                          refine va_get (D := (dC, dI)) (ci := 3) (v := .ref a11) (C := RX3) (T := TX3) (N := 18) hx hb hg inX3 hown hK hP 0 rfl rfl 15 (by decide) (hg _ wl_X3_41) (fun _ h9 => h9) rfl dX3_vessels_133 ?_
                          refine lv_iload hx hb dX3_vessels_136 (lv_at hl 0 rfl) ?_
                          refine lv_dup2_11 hx hb dX3_vessels_138 rfl rfl ?_
                          refine zz_iald hx hb hK hP 3 0 rfl rfl (x) (by omega) (by omega) (by decide) dX3_vessels_139 ?_
                          refine lv_aload_n hx hb dX3_vessels_140 rfl (lv_at hl 4 rfl) ?_
                          refine va_get (D := (dC, dI)) (ci := 3) (v := .ref a10) (C := RX3) (T := TX3) (N := 18) hx hb hg inX3 hown hK hP 0 rfl rfl 13 (by decide) (hg _ wl_X3_38) (fun _ h9 => h9) rfl dX3_vessels_141 ?_
                          refine lv_iload hx hb dX3_vessels_144 (lv_at hl 1 rfl) ?_
                          refine zz_iald hx hb hK hP 2 0 rfl rfl (t) (by omega) (by omega) (by decide) dX3_vessels_146 ?_
                          have hv_2 := hS9 (t)
                          refine zz_iadd hx hb dX3_vessels_147 ?_
                          refine zz_iast hx hb hK hP hD hS 3 0 rfl rfl (x) (by omega) (by omega) (by decide) dX3_vessels_148 (fun H locs hP hD hS => ?_)
                          have hP : va_P (dC, dI) vwCl [(m0, .inr (3, [.int (zi (0)), .int (zi ((mp : Int))), .ref a1, .ref a2, .ref a3, .ref a4, .ref a5, .ref a6, .int (zi ((mb : Int))), .ref a7, .ref a8, .int (zi ((ml : Int))), .ref a9, .ref a10, .int (zi ((mz : Int))), .ref a11, .long (zl (ab)), .long (zl (be))])), (a9, .inl (cA, 60, .inl (zA (spf)))), (a10, .inl (cA, 60, .inl (zA (ssf)))), (a11, .inl (cA, 60, .inl (zA (zupd ((s_ves spf ssf q v0 t).2) (x) ((((s_ves spf ssf q v0 t).2) (x)) + (ssf (t)))))))] H := hP
                          have hD : va_D A [(m0, .inr (3, [.int (zi (0)), .int (zi ((mp : Int))), .ref a1, .ref a2, .ref a3, .ref a4, .ref a5, .ref a6, .int (zi ((mb : Int))), .ref a7, .ref a8, .int (zi ((ml : Int))), .ref a9, .ref a10, .int (zi ((mz : Int))), .ref a11, .long (zl (ab)), .long (zl (be))])), (a9, .inl (cA, 60, .inl (zA (spf)))), (a10, .inl (cA, 60, .inl (zA (ssf)))), (a11, .inl (cA, 60, .inl (zA (zupd ((s_ves spf ssf q v0 t).2) (x) ((((s_ves spf ssf q v0 t).2) (x)) + (ssf (t)))))))] := hD
                          refine lv_iinc (v := zi (((t : Int)) + (1))) (lv' := [(4, .int (zi (((t : Int)) + (1)))), (5, .int (zi ((x : Int)))), (3, .int (zi ((((s_ves spf ssf q v0 t).1 : Nat) : Int)))), (1, .int (zi (q))), (0, .ref m0)]) hx hb dX3_vessels_149 hl (k := 1) rfl (zi_add _ _) (by decide) rfl (fun ls hl => ?_)
                          refine lv_goto (tgt := 56) hx hb dX3_vessels_152 (by decide) ?_
                          have hst : s_ves spf ssf q v0 (t + 1) = s_lay ((s_ves spf ssf q v0 t).1) ((s_ves spf ssf q v0 t).2) (ssf t) := by rw [s_ves, if_pos c_73]
                          have hl9 : s_lay ((s_ves spf ssf q v0 t).1) ((s_ves spf ssf q v0 t).2) (ssf t) = ((s_ves spf ssf q v0 t).1, zupd ((s_ves spf ssf q v0 t).2) (x) ((((s_ves spf ssf q v0 t).2) (x)) + (ssf (t)))) := by unfold s_lay; rw [hvx, if_neg hcn]
                          rw [hl9] at hst
                          have hP : va_P (dC, dI) vwCl [(m0, .inr (3, [.int (zi (0)), .int (zi ((mp : Int))), .ref a1, .ref a2, .ref a3, .ref a4, .ref a5, .ref a6, .int (zi ((mb : Int))), .ref a7, .ref a8, .int (zi ((ml : Int))), .ref a9, .ref a10, .int (zi ((mz : Int))), .ref a11, .long (zl (ab)), .long (zl (be))])), (a9, .inl (cA, 60, .inl (zA (spf)))), (a10, .inl (cA, 60, .inl (zA (ssf)))), (a11, .inl (cA, 60, .inl (zA ((s_ves spf ssf q v0 (t + 1)).2))))] H := by rw [hst]; exact hP
                          have hD : va_D A [(m0, .inr (3, [.int (zi (0)), .int (zi ((mp : Int))), .ref a1, .ref a2, .ref a3, .ref a4, .ref a5, .ref a6, .int (zi ((mb : Int))), .ref a7, .ref a8, .int (zi ((ml : Int))), .ref a9, .ref a10, .int (zi ((mz : Int))), .ref a11, .long (zl (ab)), .long (zl (be))])), (a9, .inl (cA, 60, .inl (zA (spf)))), (a10, .inl (cA, 60, .inl (zA (ssf)))), (a11, .inl (cA, 60, .inl (zA ((s_ves spf ssf q v0 (t + 1)).2))))] := by rw [hst]; exact hD
                          have hl : lv_has ls 6 [(4, .int (zi (((t + 1 : Nat) : Int)))), (3, .int (zi ((((s_ves spf ssf q v0 (t + 1)).1 : Nat) : Int)))), (1, .int (zi (q))), (0, .ref m0)] := by rw [hst]; exact lv_sub hl [0, 2, 3, 4] rfl
                          exact ih_56 (t + 1) (by omega) (by omega) H locs hP hD hS ls hl
                        · have hcn : x = (s_ves spf ssf q v0 t).1 := by omega
                          refine lv_aload_n hx hb dX3_vessels_121 rfl (lv_at hl 4 rfl) ?_
                          refine va_get (D := (dC, dI)) (ci := 3) (v := .ref a11) (C := RX3) (T := TX3) (N := 18) hx hb hg inX3 hown hK hP 0 rfl rfl 15 (by decide) (hg _ wl_X3_41) (fun _ h9 => h9) rfl dX3_vessels_122 ?_
                          refine lv_iload hx hb dX3_vessels_125 (lv_at hl 0 rfl) ?_
                          refine lv_iconst (v := zi (0)) hx hb dX3_vessels_127 rfl ?_
                          refine zz_iast hx hb hK hP hD hS 3 0 rfl rfl (x) (by omega) (by omega) (by decide) dX3_vessels_128 (fun H locs hP hD hS => ?_)
                          have hP : va_P (dC, dI) vwCl [(m0, .inr (3, [.int (zi (0)), .int (zi ((mp : Int))), .ref a1, .ref a2, .ref a3, .ref a4, .ref a5, .ref a6, .int (zi ((mb : Int))), .ref a7, .ref a8, .int (zi ((ml : Int))), .ref a9, .ref a10, .int (zi ((mz : Int))), .ref a11, .long (zl (ab)), .long (zl (be))])), (a9, .inl (cA, 60, .inl (zA (spf)))), (a10, .inl (cA, 60, .inl (zA (ssf)))), (a11, .inl (cA, 60, .inl (zA (zupd ((s_ves spf ssf q v0 t).2) (x) (0)))))] H := hP
                          have hD : va_D A [(m0, .inr (3, [.int (zi (0)), .int (zi ((mp : Int))), .ref a1, .ref a2, .ref a3, .ref a4, .ref a5, .ref a6, .int (zi ((mb : Int))), .ref a7, .ref a8, .int (zi ((ml : Int))), .ref a9, .ref a10, .int (zi ((mz : Int))), .ref a11, .long (zl (ab)), .long (zl (be))])), (a9, .inl (cA, 60, .inl (zA (spf)))), (a10, .inl (cA, 60, .inl (zA (ssf)))), (a11, .inl (cA, 60, .inl (zA (zupd ((s_ves spf ssf q v0 t).2) (x) (0)))))] := hD
                          refine lv_iinc (v := zi (((((s_ves spf ssf q v0 t).1 : Nat) : Int)) + (1))) (lv' := [(3, .int (zi (((((s_ves spf ssf q v0 t).1 : Nat) : Int)) + (1)))), (5, .int (zi ((x : Int)))), (4, .int (zi ((t : Int)))), (1, .int (zi (q))), (0, .ref m0)]) hx hb dX3_vessels_129 hl (k := 2) rfl (zi_add _ _) (by decide) rfl (fun ls hl => ?_)
                          refine lv_aload_n hx hb dX3_vessels_132 rfl (lv_at hl 4 rfl) ?_
                          refine va_get (D := (dC, dI)) (ci := 3) (v := .ref a11) (C := RX3) (T := TX3) (N := 18) hx hb hg inX3 hown hK hP 0 rfl rfl 15 (by decide) (hg _ wl_X3_41) (fun _ h9 => h9) rfl dX3_vessels_133 ?_
                          refine lv_iload hx hb dX3_vessels_136 (lv_at hl 1 rfl) ?_
                          refine lv_dup2_11 hx hb dX3_vessels_138 rfl rfl ?_
                          refine zz_iald hx hb hK hP 3 0 rfl rfl (x) (by omega) (by omega) (by decide) dX3_vessels_139 ?_
                          refine lv_aload_n hx hb dX3_vessels_140 rfl (lv_at hl 4 rfl) ?_
                          refine va_get (D := (dC, dI)) (ci := 3) (v := .ref a10) (C := RX3) (T := TX3) (N := 18) hx hb hg inX3 hown hK hP 0 rfl rfl 13 (by decide) (hg _ wl_X3_38) (fun _ h9 => h9) rfl dX3_vessels_141 ?_
                          refine lv_iload hx hb dX3_vessels_144 (lv_at hl 2 rfl) ?_
                          refine zz_iald hx hb hK hP 2 0 rfl rfl (t) (by omega) (by omega) (by decide) dX3_vessels_146 ?_
                          have hv_3 := hS9 (t)
                          refine zz_iadd hx hb dX3_vessels_147 ?_
                          refine zz_iast hx hb hK hP hD hS 3 0 rfl rfl (x) (by omega) (by omega) (by decide) dX3_vessels_148 (fun H locs hP hD hS => ?_)
                          have hP : va_P (dC, dI) vwCl [(m0, .inr (3, [.int (zi (0)), .int (zi ((mp : Int))), .ref a1, .ref a2, .ref a3, .ref a4, .ref a5, .ref a6, .int (zi ((mb : Int))), .ref a7, .ref a8, .int (zi ((ml : Int))), .ref a9, .ref a10, .int (zi ((mz : Int))), .ref a11, .long (zl (ab)), .long (zl (be))])), (a9, .inl (cA, 60, .inl (zA (spf)))), (a10, .inl (cA, 60, .inl (zA (ssf)))), (a11, .inl (cA, 60, .inl (zA (zupd (zupd ((s_ves spf ssf q v0 t).2) (x) (0)) (x) (((zupd ((s_ves spf ssf q v0 t).2) (x) (0)) (x)) + (ssf (t)))))))] H := hP
                          have hD : va_D A [(m0, .inr (3, [.int (zi (0)), .int (zi ((mp : Int))), .ref a1, .ref a2, .ref a3, .ref a4, .ref a5, .ref a6, .int (zi ((mb : Int))), .ref a7, .ref a8, .int (zi ((ml : Int))), .ref a9, .ref a10, .int (zi ((mz : Int))), .ref a11, .long (zl (ab)), .long (zl (be))])), (a9, .inl (cA, 60, .inl (zA (spf)))), (a10, .inl (cA, 60, .inl (zA (ssf)))), (a11, .inl (cA, 60, .inl (zA (zupd (zupd ((s_ves spf ssf q v0 t).2) (x) (0)) (x) (((zupd ((s_ves spf ssf q v0 t).2) (x) (0)) (x)) + (ssf (t)))))))] := hD
                          refine lv_iinc (v := zi (((t : Int)) + (1))) (lv' := [(4, .int (zi (((t : Int)) + (1)))), (3, .int (zi (((((s_ves spf ssf q v0 t).1 : Nat) : Int)) + (1)))), (5, .int (zi ((x : Int)))), (1, .int (zi (q))), (0, .ref m0)]) hx hb dX3_vessels_149 hl (k := 2) rfl (zi_add _ _) (by decide) rfl (fun ls hl => ?_)
                          refine lv_goto (tgt := 56) hx hb dX3_vessels_152 (by decide) ?_
                          have hst : s_ves spf ssf q v0 (t + 1) = s_lay ((s_ves spf ssf q v0 t).1) ((s_ves spf ssf q v0 t).2) (ssf t) := by rw [s_ves, if_pos c_73]
                          have hl9 : s_lay ((s_ves spf ssf q v0 t).1) ((s_ves spf ssf q v0 t).2) (ssf t) = ((s_ves spf ssf q v0 t).1 + 1, zupd (zupd ((s_ves spf ssf q v0 t).2) (x) (0)) (x) (((zupd ((s_ves spf ssf q v0 t).2) (x) (0)) (x)) + (ssf (t)))) := by unfold s_lay; rw [hvx, if_pos hcn]
                          rw [hl9] at hst
                          have hP : va_P (dC, dI) vwCl [(m0, .inr (3, [.int (zi (0)), .int (zi ((mp : Int))), .ref a1, .ref a2, .ref a3, .ref a4, .ref a5, .ref a6, .int (zi ((mb : Int))), .ref a7, .ref a8, .int (zi ((ml : Int))), .ref a9, .ref a10, .int (zi ((mz : Int))), .ref a11, .long (zl (ab)), .long (zl (be))])), (a9, .inl (cA, 60, .inl (zA (spf)))), (a10, .inl (cA, 60, .inl (zA (ssf)))), (a11, .inl (cA, 60, .inl (zA ((s_ves spf ssf q v0 (t + 1)).2))))] H := by rw [hst]; exact hP
                          have hD : va_D A [(m0, .inr (3, [.int (zi (0)), .int (zi ((mp : Int))), .ref a1, .ref a2, .ref a3, .ref a4, .ref a5, .ref a6, .int (zi ((mb : Int))), .ref a7, .ref a8, .int (zi ((ml : Int))), .ref a9, .ref a10, .int (zi ((mz : Int))), .ref a11, .long (zl (ab)), .long (zl (be))])), (a9, .inl (cA, 60, .inl (zA (spf)))), (a10, .inl (cA, 60, .inl (zA (ssf)))), (a11, .inl (cA, 60, .inl (zA ((s_ves spf ssf q v0 (t + 1)).2))))] := by rw [hst]; exact hD
                          have hl : lv_has ls 6 [(4, .int (zi (((t + 1 : Nat) : Int)))), (3, .int (zi ((((s_ves spf ssf q v0 (t + 1)).1 : Nat) : Int)))), (1, .int (zi (q))), (0, .ref m0)] := by rw [hst]; exact lv_sub hl [0, 1, 3, 4] rfl
                          exact ih_56 (t + 1) (by omega) (by omega) H locs hP hD hS ls hl
                      · refine lv_aload_n hx hb dX3_vessels_88 rfl (lv_at hl 4 rfl) ?_
                        refine va_get (D := (dC, dI)) (ci := 3) (v := .ref a11) (C := RX3) (T := TX3) (N := 18) hx hb hg inX3 hown hK hP 0 rfl rfl 15 (by decide) (hg _ wl_X3_41) (fun _ h9 => h9) rfl dX3_vessels_89 ?_
                        refine lv_iload hx hb dX3_vessels_92 (lv_at hl 0 rfl) ?_
                        refine zz_iald hx hb hK hP 3 0 rfl rfl (x) (by omega) (by omega) (by decide) dX3_vessels_94 ?_
                        have hvv := hvb.2 x
                        refine lv_aload_n hx hb dX3_vessels_95 rfl (lv_at hl 4 rfl) ?_
                        refine va_get (D := (dC, dI)) (ci := 3) (v := .ref a10) (C := RX3) (T := TX3) (N := 18) hx hb hg inX3 hown hK hP 0 rfl rfl 13 (by decide) (hg _ wl_X3_38) (fun _ h9 => h9) rfl dX3_vessels_96 ?_
                        refine lv_iload hx hb dX3_vessels_99 (lv_at hl 1 rfl) ?_
                        refine zz_iald hx hb hK hP 2 0 rfl rfl (t) (by omega) (by omega) (by decide) dX3_vessels_101 ?_
                        have hv_4 := hS9 (t)
                        refine zz_iadd hx hb dX3_vessels_102 ?_
                        refine lv_sipush (v := zi (1000)) hx hb dX3_vessels_103 (by decide) ?_
                        refine zz_icmp_le (tgt := 115) hx hb (by omega) (by omega) dX3_vessels_106 (by decide) (fun c_106 => ?_) (fun c_106 => ?_)
                        · have hvx : (s_first (s_ves spf ssf q v0 t).2 (ssf t) (s_ves spf ssf q v0 t).1 0) = x := by rw [← hx2, show (s_ves spf ssf q v0 t).1 - x = ((s_ves spf ssf q v0 t).1 - (x + 1)) + 1 by omega, s_first, if_pos (by omega)]
                          refine lv_iload hx hb dX3_vessels_115 (lv_at hl 0 rfl) ?_
                          refine lv_iload_n hx hb dX3_vessels_117 rfl (lv_at hl 2 rfl) ?_
                          refine zz_icmp_ne (tgt := 132) hx hb (by omega) (by omega) dX3_vessels_118 (by decide) (fun c_118 => ?_) (fun c_118 => ?_)
                          · have hcn : ¬ x = (s_ves spf ssf q v0 t).1 := by omega
                            refine lv_aload_n hx hb dX3_vessels_132 rfl (lv_at hl 4 rfl) ?_
                            refine va_get (D := (dC, dI)) (ci := 3) (v := .ref a11) (C := RX3) (T := TX3) (N := 18) hx hb hg inX3 hown hK hP 0 rfl rfl 15 (by decide) (hg _ wl_X3_41) (fun _ h9 => h9) rfl dX3_vessels_133 ?_
                            refine lv_iload hx hb dX3_vessels_136 (lv_at hl 0 rfl) ?_
                            refine lv_dup2_11 hx hb dX3_vessels_138 rfl rfl ?_
                            refine zz_iald hx hb hK hP 3 0 rfl rfl (x) (by omega) (by omega) (by decide) dX3_vessels_139 ?_
                            refine lv_aload_n hx hb dX3_vessels_140 rfl (lv_at hl 4 rfl) ?_
                            refine va_get (D := (dC, dI)) (ci := 3) (v := .ref a10) (C := RX3) (T := TX3) (N := 18) hx hb hg inX3 hown hK hP 0 rfl rfl 13 (by decide) (hg _ wl_X3_38) (fun _ h9 => h9) rfl dX3_vessels_141 ?_
                            refine lv_iload hx hb dX3_vessels_144 (lv_at hl 1 rfl) ?_
                            refine zz_iald hx hb hK hP 2 0 rfl rfl (t) (by omega) (by omega) (by decide) dX3_vessels_146 ?_
                            have hv_5 := hS9 (t)
                            refine zz_iadd hx hb dX3_vessels_147 ?_
                            refine zz_iast hx hb hK hP hD hS 3 0 rfl rfl (x) (by omega) (by omega) (by decide) dX3_vessels_148 (fun H locs hP hD hS => ?_)
                            have hP : va_P (dC, dI) vwCl [(m0, .inr (3, [.int (zi (0)), .int (zi ((mp : Int))), .ref a1, .ref a2, .ref a3, .ref a4, .ref a5, .ref a6, .int (zi ((mb : Int))), .ref a7, .ref a8, .int (zi ((ml : Int))), .ref a9, .ref a10, .int (zi ((mz : Int))), .ref a11, .long (zl (ab)), .long (zl (be))])), (a9, .inl (cA, 60, .inl (zA (spf)))), (a10, .inl (cA, 60, .inl (zA (ssf)))), (a11, .inl (cA, 60, .inl (zA (zupd ((s_ves spf ssf q v0 t).2) (x) ((((s_ves spf ssf q v0 t).2) (x)) + (ssf (t)))))))] H := hP
                            have hD : va_D A [(m0, .inr (3, [.int (zi (0)), .int (zi ((mp : Int))), .ref a1, .ref a2, .ref a3, .ref a4, .ref a5, .ref a6, .int (zi ((mb : Int))), .ref a7, .ref a8, .int (zi ((ml : Int))), .ref a9, .ref a10, .int (zi ((mz : Int))), .ref a11, .long (zl (ab)), .long (zl (be))])), (a9, .inl (cA, 60, .inl (zA (spf)))), (a10, .inl (cA, 60, .inl (zA (ssf)))), (a11, .inl (cA, 60, .inl (zA (zupd ((s_ves spf ssf q v0 t).2) (x) ((((s_ves spf ssf q v0 t).2) (x)) + (ssf (t)))))))] := hD
                            refine lv_iinc (v := zi (((t : Int)) + (1))) (lv' := [(4, .int (zi (((t : Int)) + (1)))), (5, .int (zi ((x : Int)))), (3, .int (zi ((((s_ves spf ssf q v0 t).1 : Nat) : Int)))), (1, .int (zi (q))), (0, .ref m0)]) hx hb dX3_vessels_149 hl (k := 1) rfl (zi_add _ _) (by decide) rfl (fun ls hl => ?_)
                            refine lv_goto (tgt := 56) hx hb dX3_vessels_152 (by decide) ?_
                            have hst : s_ves spf ssf q v0 (t + 1) = s_lay ((s_ves spf ssf q v0 t).1) ((s_ves spf ssf q v0 t).2) (ssf t) := by rw [s_ves, if_pos c_73]
                            have hl9 : s_lay ((s_ves spf ssf q v0 t).1) ((s_ves spf ssf q v0 t).2) (ssf t) = ((s_ves spf ssf q v0 t).1, zupd ((s_ves spf ssf q v0 t).2) (x) ((((s_ves spf ssf q v0 t).2) (x)) + (ssf (t)))) := by unfold s_lay; rw [hvx, if_neg hcn]
                            rw [hl9] at hst
                            have hP : va_P (dC, dI) vwCl [(m0, .inr (3, [.int (zi (0)), .int (zi ((mp : Int))), .ref a1, .ref a2, .ref a3, .ref a4, .ref a5, .ref a6, .int (zi ((mb : Int))), .ref a7, .ref a8, .int (zi ((ml : Int))), .ref a9, .ref a10, .int (zi ((mz : Int))), .ref a11, .long (zl (ab)), .long (zl (be))])), (a9, .inl (cA, 60, .inl (zA (spf)))), (a10, .inl (cA, 60, .inl (zA (ssf)))), (a11, .inl (cA, 60, .inl (zA ((s_ves spf ssf q v0 (t + 1)).2))))] H := by rw [hst]; exact hP
                            have hD : va_D A [(m0, .inr (3, [.int (zi (0)), .int (zi ((mp : Int))), .ref a1, .ref a2, .ref a3, .ref a4, .ref a5, .ref a6, .int (zi ((mb : Int))), .ref a7, .ref a8, .int (zi ((ml : Int))), .ref a9, .ref a10, .int (zi ((mz : Int))), .ref a11, .long (zl (ab)), .long (zl (be))])), (a9, .inl (cA, 60, .inl (zA (spf)))), (a10, .inl (cA, 60, .inl (zA (ssf)))), (a11, .inl (cA, 60, .inl (zA ((s_ves spf ssf q v0 (t + 1)).2))))] := by rw [hst]; exact hD
                            have hl : lv_has ls 6 [(4, .int (zi (((t + 1 : Nat) : Int)))), (3, .int (zi ((((s_ves spf ssf q v0 (t + 1)).1 : Nat) : Int)))), (1, .int (zi (q))), (0, .ref m0)] := by rw [hst]; exact lv_sub hl [0, 2, 3, 4] rfl
                            exact ih_56 (t + 1) (by omega) (by omega) H locs hP hD hS ls hl
                          · have hcn : x = (s_ves spf ssf q v0 t).1 := by omega
                            refine lv_aload_n hx hb dX3_vessels_121 rfl (lv_at hl 4 rfl) ?_
                            refine va_get (D := (dC, dI)) (ci := 3) (v := .ref a11) (C := RX3) (T := TX3) (N := 18) hx hb hg inX3 hown hK hP 0 rfl rfl 15 (by decide) (hg _ wl_X3_41) (fun _ h9 => h9) rfl dX3_vessels_122 ?_
                            refine lv_iload hx hb dX3_vessels_125 (lv_at hl 0 rfl) ?_
                            refine lv_iconst (v := zi (0)) hx hb dX3_vessels_127 rfl ?_
                            refine zz_iast hx hb hK hP hD hS 3 0 rfl rfl (x) (by omega) (by omega) (by decide) dX3_vessels_128 (fun H locs hP hD hS => ?_)
                            have hP : va_P (dC, dI) vwCl [(m0, .inr (3, [.int (zi (0)), .int (zi ((mp : Int))), .ref a1, .ref a2, .ref a3, .ref a4, .ref a5, .ref a6, .int (zi ((mb : Int))), .ref a7, .ref a8, .int (zi ((ml : Int))), .ref a9, .ref a10, .int (zi ((mz : Int))), .ref a11, .long (zl (ab)), .long (zl (be))])), (a9, .inl (cA, 60, .inl (zA (spf)))), (a10, .inl (cA, 60, .inl (zA (ssf)))), (a11, .inl (cA, 60, .inl (zA (zupd ((s_ves spf ssf q v0 t).2) (x) (0)))))] H := hP
                            have hD : va_D A [(m0, .inr (3, [.int (zi (0)), .int (zi ((mp : Int))), .ref a1, .ref a2, .ref a3, .ref a4, .ref a5, .ref a6, .int (zi ((mb : Int))), .ref a7, .ref a8, .int (zi ((ml : Int))), .ref a9, .ref a10, .int (zi ((mz : Int))), .ref a11, .long (zl (ab)), .long (zl (be))])), (a9, .inl (cA, 60, .inl (zA (spf)))), (a10, .inl (cA, 60, .inl (zA (ssf)))), (a11, .inl (cA, 60, .inl (zA (zupd ((s_ves spf ssf q v0 t).2) (x) (0)))))] := hD
                            refine lv_iinc (v := zi (((((s_ves spf ssf q v0 t).1 : Nat) : Int)) + (1))) (lv' := [(3, .int (zi (((((s_ves spf ssf q v0 t).1 : Nat) : Int)) + (1)))), (5, .int (zi ((x : Int)))), (4, .int (zi ((t : Int)))), (1, .int (zi (q))), (0, .ref m0)]) hx hb dX3_vessels_129 hl (k := 2) rfl (zi_add _ _) (by decide) rfl (fun ls hl => ?_)
                            refine lv_aload_n hx hb dX3_vessels_132 rfl (lv_at hl 4 rfl) ?_
                            refine va_get (D := (dC, dI)) (ci := 3) (v := .ref a11) (C := RX3) (T := TX3) (N := 18) hx hb hg inX3 hown hK hP 0 rfl rfl 15 (by decide) (hg _ wl_X3_41) (fun _ h9 => h9) rfl dX3_vessels_133 ?_
                            refine lv_iload hx hb dX3_vessels_136 (lv_at hl 1 rfl) ?_
                            refine lv_dup2_11 hx hb dX3_vessels_138 rfl rfl ?_
                            refine zz_iald hx hb hK hP 3 0 rfl rfl (x) (by omega) (by omega) (by decide) dX3_vessels_139 ?_
                            refine lv_aload_n hx hb dX3_vessels_140 rfl (lv_at hl 4 rfl) ?_
                            refine va_get (D := (dC, dI)) (ci := 3) (v := .ref a10) (C := RX3) (T := TX3) (N := 18) hx hb hg inX3 hown hK hP 0 rfl rfl 13 (by decide) (hg _ wl_X3_38) (fun _ h9 => h9) rfl dX3_vessels_141 ?_
                            refine lv_iload hx hb dX3_vessels_144 (lv_at hl 2 rfl) ?_
                            refine zz_iald hx hb hK hP 2 0 rfl rfl (t) (by omega) (by omega) (by decide) dX3_vessels_146 ?_
                            have hv_6 := hS9 (t)
                            refine zz_iadd hx hb dX3_vessels_147 ?_
                            refine zz_iast hx hb hK hP hD hS 3 0 rfl rfl (x) (by omega) (by omega) (by decide) dX3_vessels_148 (fun H locs hP hD hS => ?_)
                            have hP : va_P (dC, dI) vwCl [(m0, .inr (3, [.int (zi (0)), .int (zi ((mp : Int))), .ref a1, .ref a2, .ref a3, .ref a4, .ref a5, .ref a6, .int (zi ((mb : Int))), .ref a7, .ref a8, .int (zi ((ml : Int))), .ref a9, .ref a10, .int (zi ((mz : Int))), .ref a11, .long (zl (ab)), .long (zl (be))])), (a9, .inl (cA, 60, .inl (zA (spf)))), (a10, .inl (cA, 60, .inl (zA (ssf)))), (a11, .inl (cA, 60, .inl (zA (zupd (zupd ((s_ves spf ssf q v0 t).2) (x) (0)) (x) (((zupd ((s_ves spf ssf q v0 t).2) (x) (0)) (x)) + (ssf (t)))))))] H := hP
                            have hD : va_D A [(m0, .inr (3, [.int (zi (0)), .int (zi ((mp : Int))), .ref a1, .ref a2, .ref a3, .ref a4, .ref a5, .ref a6, .int (zi ((mb : Int))), .ref a7, .ref a8, .int (zi ((ml : Int))), .ref a9, .ref a10, .int (zi ((mz : Int))), .ref a11, .long (zl (ab)), .long (zl (be))])), (a9, .inl (cA, 60, .inl (zA (spf)))), (a10, .inl (cA, 60, .inl (zA (ssf)))), (a11, .inl (cA, 60, .inl (zA (zupd (zupd ((s_ves spf ssf q v0 t).2) (x) (0)) (x) (((zupd ((s_ves spf ssf q v0 t).2) (x) (0)) (x)) + (ssf (t)))))))] := hD
                            refine lv_iinc (v := zi (((t : Int)) + (1))) (lv' := [(4, .int (zi (((t : Int)) + (1)))), (3, .int (zi (((((s_ves spf ssf q v0 t).1 : Nat) : Int)) + (1)))), (5, .int (zi ((x : Int)))), (1, .int (zi (q))), (0, .ref m0)]) hx hb dX3_vessels_149 hl (k := 2) rfl (zi_add _ _) (by decide) rfl (fun ls hl => ?_)
                            refine lv_goto (tgt := 56) hx hb dX3_vessels_152 (by decide) ?_
                            have hst : s_ves spf ssf q v0 (t + 1) = s_lay ((s_ves spf ssf q v0 t).1) ((s_ves spf ssf q v0 t).2) (ssf t) := by rw [s_ves, if_pos c_73]
                            have hl9 : s_lay ((s_ves spf ssf q v0 t).1) ((s_ves spf ssf q v0 t).2) (ssf t) = ((s_ves spf ssf q v0 t).1 + 1, zupd (zupd ((s_ves spf ssf q v0 t).2) (x) (0)) (x) (((zupd ((s_ves spf ssf q v0 t).2) (x) (0)) (x)) + (ssf (t)))) := by unfold s_lay; rw [hvx, if_pos hcn]
                            rw [hl9] at hst
                            have hP : va_P (dC, dI) vwCl [(m0, .inr (3, [.int (zi (0)), .int (zi ((mp : Int))), .ref a1, .ref a2, .ref a3, .ref a4, .ref a5, .ref a6, .int (zi ((mb : Int))), .ref a7, .ref a8, .int (zi ((ml : Int))), .ref a9, .ref a10, .int (zi ((mz : Int))), .ref a11, .long (zl (ab)), .long (zl (be))])), (a9, .inl (cA, 60, .inl (zA (spf)))), (a10, .inl (cA, 60, .inl (zA (ssf)))), (a11, .inl (cA, 60, .inl (zA ((s_ves spf ssf q v0 (t + 1)).2))))] H := by rw [hst]; exact hP
                            have hD : va_D A [(m0, .inr (3, [.int (zi (0)), .int (zi ((mp : Int))), .ref a1, .ref a2, .ref a3, .ref a4, .ref a5, .ref a6, .int (zi ((mb : Int))), .ref a7, .ref a8, .int (zi ((ml : Int))), .ref a9, .ref a10, .int (zi ((mz : Int))), .ref a11, .long (zl (ab)), .long (zl (be))])), (a9, .inl (cA, 60, .inl (zA (spf)))), (a10, .inl (cA, 60, .inl (zA (ssf)))), (a11, .inl (cA, 60, .inl (zA ((s_ves spf ssf q v0 (t + 1)).2))))] := by rw [hst]; exact hD
                            have hl : lv_has ls 6 [(4, .int (zi (((t + 1 : Nat) : Int)))), (3, .int (zi ((((s_ves spf ssf q v0 (t + 1)).1 : Nat) : Int)))), (1, .int (zi (q))), (0, .ref m0)] := by rw [hst]; exact lv_sub hl [0, 1, 3, 4] rfl
                            exact ih_56 (t + 1) (by omega) (by omega) H locs hP hD hS ls hl
                        · refine lv_iinc (v := zi (((x : Int)) + (1))) (lv' := [(5, .int (zi (((x : Int)) + (1)))), (4, .int (zi ((t : Int)))), (3, .int (zi ((((s_ves spf ssf q v0 t).1 : Nat) : Int)))), (1, .int (zi (q))), (0, .ref m0)]) hx hb dX3_vessels_109 hl (k := 0) rfl (zi_add _ _) (by decide) rfl (fun ls hl => ?_)
                          refine lv_goto (tgt := 82) hx hb dX3_vessels_112 (by decide) ?_
                          exact ih_82 (x + 1) (by omega) (by rw [← hx2, show (s_ves spf ssf q v0 t).1 - x = ((s_ves spf ssf q v0 t).1 - (x + 1)) + 1 by omega, s_first, if_neg (by omega)]) (by omega) ls (lv_sub hl [0, 1, 2, 3, 4] rfl)
                  exact key_82 _ 0 (Nat.zero_le _) rfl (Nat.lt_succ_self _) ls (lv_sub hl [0, 1, 2, 3, 4] rfl)
                · refine lv_goto (tgt := 149) hx hb dX3_vessels_76 (by decide) ?_
                  refine lv_iinc (v := zi (((t : Int)) + (1))) (lv' := [(4, .int (zi (((t : Int)) + (1)))), (3, .int (zi ((((s_ves spf ssf q v0 t).1 : Nat) : Int)))), (1, .int (zi (q))), (0, .ref m0)]) hx hb dX3_vessels_149 hl (k := 0) rfl (zi_add _ _) (by decide) rfl (fun ls hl => ?_)
                  refine lv_goto (tgt := 56) hx hb dX3_vessels_152 (by decide) ?_
                  have hst : s_ves spf ssf q v0 (t + 1) = s_ves spf ssf q v0 t := by rw [s_ves, if_neg c_73]
                  rw [← hst] at hP hD hl
                  have hl : lv_has ls 6 [(4, .int (zi (((t + 1 : Nat) : Int)))), (3, .int (zi ((((s_ves spf ssf q v0 (t + 1)).1 : Nat) : Int)))), (1, .int (zi (q))), (0, .ref m0)] := lv_sub hl [0, 1, 2, 3] rfl
                  exact ih_56 (t + 1) (by omega) (by omega) H locs hP hD hS ls hl
          exact key_56 _ 0 (Nat.zero_le _) (Nat.lt_succ_self _) H locs (hP.sub [0, 1, 2, 3] rfl) (hD.sub [0, 1, 2, 3] (by decide) rfl) hS ls (lv_sub hl [0, 1, 3, 2] rfl)
        · exact False.elim (by omega)
      · exact absurd c_28 (by decide)
    · exact absurd c_15 (by decide)

abbrev rm_X3_count : Room := { frames := 1, cells := 0, slots := 0, locals := 23 }
set_option maxHeartbeats 4000000 in
set_option maxRecDepth 100000 in
theorem e_count (l : Launch) (dC : Nat → ClassId) (dI : Nat → Nat → Nat) (sz : Nat) (m0 a1 a2 a3 a4 a5 a6 a7 a8 a9 a10 a11 : Nat) (tw ab be : Int) (mp mb ml mz : Nat) (what : Int) (hmp : mp ≤ 6) (h_what : -2147483648 ≤ what ∧ what < 2147483648) (hbad : ¬ (0 ≤ what ∧ what ≤ 3)) : Met l yX3_count (Cond.code yX3_count cX3_count 2 ((Option.some Jvm.ClassFile.FieldType.int)) :: gw) rm_X3_count (PcW [.ref m0, .int (zi (what))] (dC, dI) vwCl [(m0, .inr (3, [.int (zi (tw)), .int (zi ((mp : Int))), .ref a1, .ref a2, .ref a3, .ref a4, .ref a5, .ref a6, .int (zi ((mb : Int))), .ref a7, .ref a8, .int (zi ((ml : Int))), .ref a9, .ref a10, .int (zi ((mz : Int))), .ref a11, .long (zl (ab)), .long (zl (be))]))] [] sz) (WrQ (some (.int (zi 0))) (dC, dI) vwCl [(m0, .inr (3, [.int (zi (1)), .int (zi ((mp : Int))), .ref a1, .ref a2, .ref a3, .ref a4, .ref a5, .ref a6, .int (zi ((mb : Int))), .ref a7, .ref a8, .int (zi ((ml : Int))), .ref a9, .ref a10, .int (zi ((mz : Int))), .ref a11, .long (zl (ab)), .long (zl (be))]))] (va_A [(m0, .inr (3, [.int (zi (tw)), .int (zi ((mp : Int))), .ref a1, .ref a2, .ref a3, .ref a4, .ref a5, .ref a6, .int (zi ((mb : Int))), .ref a7, .ref a8, .int (zi ((ml : Int))), .ref a9, .ref a10, .int (zi ((mz : Int))), .ref a11, .long (zl (ab)), .long (zl (be))]))] sz)) 0 0 (va_A [(m0, .inr (3, [.int (zi (tw)), .int (zi ((mp : Int))), .ref a1, .ref a2, .ref a3, .ref a4, .ref a5, .ref a6, .int (zi ((mb : Int))), .ref a7, .ref a8, .int (zi ((ml : Int))), .ref a9, .ref a10, .int (zi ((mz : Int))), .ref a11, .long (zl (ab)), .long (zl (be))]))] sz) := by
  refine Met.ofW (cc := cX3_count) (maxL := 2) (ret := ((Option.some Jvm.ClassFile.FieldType.int))) (by decide) rfl ?_
  intro p e s m args below meth c s₁ B hml hv
  obtain ⟨hargs, hsz, hP, hK, hD0⟩ := hv
  have hx := B.exec
  have hb := B.bytes
  have hr := B.returns
  have hts := atoms_spec (ws := Cond.code yX3_count cX3_count 2 ((Option.some Jvm.ClassFile.FieldType.int)) :: gw) B.pre
  have hg : ∀ w ∈ gw, w.before args s = true := fun w h => hts w (List.mem_cons_of_mem _ h)
  have hown : s.vm.findClass RX3 = some m.cls := findClass_of_methodNamed B.named
  have hlocks := B.notSynchronized
  subst hsz
  have hD := hD0.self (sz := s.heap.size)
  generalize hAe : va_A [(m0, .inr (3, [.int (zi (tw)), .int (zi ((mp : Int))), .ref a1, .ref a2, .ref a3, .ref a4, .ref a5, .ref a6, .int (zi ((mb : Int))), .ref a7, .ref a8, .int (zi ((ml : Int))), .ref a9, .ref a10, .int (zi ((mz : Int))), .ref a11, .long (zl (ab)), .long (zl (be))]))] s.heap.size = A at hD ⊢
  have hA : ∀ q : Nat, s.heap.size ≤ q → A q := fun q h => by rw [← hAe]; exact Or.inr h
  show W p l e rm_X3_count s m args below meth c s.heap [] 0 0 _ _
  have hl := lv_entry ([.ref m0, .int (zi (what))]) (n := 2) (Nat.le_of_ble_eq_true rfl)
  rw [show entryFrame m args 2 = entryFrame m ([.ref m0, .int (zi (what))] : List Value).toArray 2 by rw [hargs], lg_entry_eq]
  generalize (lg_sl ([.ref m0, .int (zi (what))]) ++ List.replicate (2 - (lg_sl ([.ref m0, .int (zi (what))])).length) Slot.unset).toArray = ls at hl ⊢
  have hl : lv_has ls 2 [(0, .ref m0), (1, .int (zi (what)))] := hl
  obtain ⟨QQ, hQQ⟩ : ∃ Q, Q = MQ below (WrQ (some (.int (zi 0))) (dC, dI) vwCl [(m0, .inr (3, [.int (zi (1)), .int (zi ((mp : Int))), .ref a1, .ref a2, .ref a3, .ref a4, .ref a5, .ref a6, .int (zi ((mb : Int))), .ref a7, .ref a8, .int (zi ((ml : Int))), .ref a9, .ref a10, .int (zi ((mz : Int))), .ref a11, .long (zl (ab)), .long (zl (be))]))] A) args s 0 0 A := ⟨_, rfl⟩
  rw [← hQQ]
  obtain ⟨H, hHe⟩ : ∃ H : Heap, H = s.heap := ⟨_, rfl⟩
  obtain ⟨locs, hlc⟩ : ∃ x : List Loc, x = [] := ⟨_, rfl⟩
  have hS : va_S A s.heap H locs := by rw [hHe, hlc]; exact va_S.rf
  have hP : va_P (dC, dI) vwCl [(m0, .inr (3, [.int (zi (tw)), .int (zi ((mp : Int))), .ref a1, .ref a2, .ref a3, .ref a4, .ref a5, .ref a6, .int (zi ((mb : Int))), .ref a7, .ref a8, .int (zi ((ml : Int))), .ref a9, .ref a10, .int (zi ((mz : Int))), .ref a11, .long (zl (ab)), .long (zl (be))]))] H := by rw [hHe]; exact hP
  have hD : va_D A [(m0, .inr (3, [.int (zi (tw)), .int (zi ((mp : Int))), .ref a1, .ref a2, .ref a3, .ref a4, .ref a5, .ref a6, .int (zi ((mb : Int))), .ref a7, .ref a8, .int (zi ((ml : Int))), .ref a9, .ref a10, .int (zi ((mz : Int))), .ref a11, .long (zl (ab)), .long (zl (be))]))] := hD
  rw [← hHe, ← hlc]
  refine lv_aload_n hx hb dX3_count_0 rfl (lv_at hl 0 rfl) ?_
  refine lv_iload_n hx hb dX3_count_1 rfl (lv_at hl 1 rfl) ?_
  refine lv_iconst (v := zi (0)) hx hb dX3_count_2 rfl ?_
  refine lv_iconst (v := zi (3)) hx hb dX3_count_3 rfl ?_
  refine rdS (As := [.int (zi (what)), .int (zi (0)), .int (zi (3))]) (rest := [.ref m0]) (n := 3) hx hb hml hown hg (c_X3_in l (what) (0) (3) (by omega) (by omega) (by omega)) (gwS wl_X3_55 wt_X3_in wi_X3 wc_X3_in) rfl rfl (by decide +kernel) ⟨Nat.le_of_ble_eq_true rfl, Nat.le_of_ble_eq_true rfl⟩ rfl hl.1 rfl (Nat.le_of_ble_eq_true rfl) dX3_count_4 ⟨Nat.zero_le _, Nat.zero_le _⟩ ?_
  refine zz_topi (z := 0) (congrArg zi (zb_f (decide_eq_false (by omega)))) ?_
  refine zz_if_ne (tgt := 14) hx hb (by omega) dX3_count_7 (by decide) (fun c_7 => ?_) (fun c_7 => ?_)
  · exact absurd c_7 (by decide)
  · refine lv_iconst (v := zi (1)) hx hb dX3_count_10 rfl ?_
    refine lv_goto (tgt := 15) hx hb dX3_count_11 (by decide) ?_
    refine lv_iconst (v := zi (0)) hx hb dX3_count_15 rfl ?_
    refine lv_iconst (v := zi (0)) hx hb dX3_count_16 rfl ?_
    refine wrV (As := [.int (zi (1)), .int (zi (0)), .int (zi (0))]) (rest := []) (n := 3) (ws' := [(m0, .inr (3, [.int (zi (1)), .int (zi ((mp : Int))), .ref a1, .ref a2, .ref a3, .ref a4, .ref a5, .ref a6, .int (zi ((mb : Int))), .ref a7, .ref a8, .int (zi ((ml : Int))), .ref a9, .ref a10, .int (zi ((mz : Int))), .ref a11, .long (zl (ab)), .long (zl (be))]))]) hx hb hml hown hg (c_throwing l dC dI H.size m0 a1 a2 a3 a4 a5 a6 a7 a8 a9 a10 a11 (tw) (ab) (be) mp mb ml mz 1 0 0 (by decide) (by decide) (by decide)) (gwV wl_X3_59 wm_X3_throwing we_X3_throwing wi_X3 wc_X3_throwing) rfl rfl (by decide +kernel) ⟨Nat.le_of_ble_eq_true rfl, Nat.le_of_ble_eq_true rfl⟩ (hK.sub [] rfl) hP hD hS hA [0] rfl (by decide) [(true, 0)] rfl (by decide) rfl 0 rfl rfl rfl rfl hl.1 rfl (Nat.le_of_ble_eq_true rfl) dX3_count_17 ⟨Nat.zero_le _, Nat.zero_le _⟩ (fun H locs hP hD hS => ?_)
    refine zz_topi (z := 1) (congrArg zi (by decide)) ?_
    refine zz_if_eq (tgt := 25) hx hb (by omega) dX3_count_20 (by decide) (fun c_20 => ?_) (fun c_20 => ?_)
    · exact absurd c_20 (by decide)
    · refine lv_iconst (v := zi (0)) hx hb dX3_count_23 rfl ?_
      have hP9 : va_P (dC, dI) vwCl [(m0, .inr (3, [.int (zi (1)), .int (zi ((mp : Int))), .ref a1, .ref a2, .ref a3, .ref a4, .ref a5, .ref a6, .int (zi ((mb : Int))), .ref a7, .ref a8, .int (zi ((ml : Int))), .ref a9, .ref a10, .int (zi ((mz : Int))), .ref a11, .long (zl (ab)), .long (zl (be))]))] H := hP
      rw [hQQ]
      exact wr_i hx hb hr hlocks rfl hP9 hS dX3_count_24

set_option maxHeartbeats 4000000 in
set_option maxRecDepth 100000 in
theorem k_count (l : Launch) (dC : Nat → ClassId) (dI : Nat → Nat → Nat) (sz : Nat) (m0 a1 a2 a3 a4 a5 a6 a7 a8 a9 a10 a11 : Nat) (tw ab be : Int) (mp mb ml mz : Nat) (what : Int) (hok : 0 ≤ what ∧ what ≤ 3) : Met l yX3_count (Cond.code yX3_count cX3_count 2 ((Option.some Jvm.ClassFile.FieldType.int)) :: gw) rm_X3_count (PcW [.ref m0, .int (zi (what))] (dC, dI) vwCl [(m0, .inr (3, [.int (zi (tw)), .int (zi ((mp : Int))), .ref a1, .ref a2, .ref a3, .ref a4, .ref a5, .ref a6, .int (zi ((mb : Int))), .ref a7, .ref a8, .int (zi ((ml : Int))), .ref a9, .ref a10, .int (zi ((mz : Int))), .ref a11, .long (zl (ab)), .long (zl (be))]))] [] sz) (WrQ (some (.int (zi (if what = 0 then (mp : Int) else if what = 1 then (mb : Int) else if what = 2 then (ml : Int) else (mz : Int))))) (dC, dI) vwCl [(m0, .inr (3, [.int (zi (0)), .int (zi ((mp : Int))), .ref a1, .ref a2, .ref a3, .ref a4, .ref a5, .ref a6, .int (zi ((mb : Int))), .ref a7, .ref a8, .int (zi ((ml : Int))), .ref a9, .ref a10, .int (zi ((mz : Int))), .ref a11, .long (zl (ab)), .long (zl (be))]))] (va_A [(m0, .inr (3, [.int (zi (tw)), .int (zi ((mp : Int))), .ref a1, .ref a2, .ref a3, .ref a4, .ref a5, .ref a6, .int (zi ((mb : Int))), .ref a7, .ref a8, .int (zi ((ml : Int))), .ref a9, .ref a10, .int (zi ((mz : Int))), .ref a11, .long (zl (ab)), .long (zl (be))]))] sz)) 0 0 (va_A [(m0, .inr (3, [.int (zi (tw)), .int (zi ((mp : Int))), .ref a1, .ref a2, .ref a3, .ref a4, .ref a5, .ref a6, .int (zi ((mb : Int))), .ref a7, .ref a8, .int (zi ((ml : Int))), .ref a9, .ref a10, .int (zi ((mz : Int))), .ref a11, .long (zl (ab)), .long (zl (be))]))] sz) := by
  refine Met.ofW (cc := cX3_count) (maxL := 2) (ret := ((Option.some Jvm.ClassFile.FieldType.int))) (by decide) rfl ?_
  intro p e s m args below meth c s₁ B hml hv
  obtain ⟨hargs, hsz, hP, hK, hD0⟩ := hv
  have hx := B.exec
  have hb := B.bytes
  have hr := B.returns
  have hts := atoms_spec (ws := Cond.code yX3_count cX3_count 2 ((Option.some Jvm.ClassFile.FieldType.int)) :: gw) B.pre
  have hg : ∀ w ∈ gw, w.before args s = true := fun w h => hts w (List.mem_cons_of_mem _ h)
  have hown : s.vm.findClass RX3 = some m.cls := findClass_of_methodNamed B.named
  have hlocks := B.notSynchronized
  subst hsz
  have hD := hD0.self (sz := s.heap.size)
  generalize hAe : va_A [(m0, .inr (3, [.int (zi (tw)), .int (zi ((mp : Int))), .ref a1, .ref a2, .ref a3, .ref a4, .ref a5, .ref a6, .int (zi ((mb : Int))), .ref a7, .ref a8, .int (zi ((ml : Int))), .ref a9, .ref a10, .int (zi ((mz : Int))), .ref a11, .long (zl (ab)), .long (zl (be))]))] s.heap.size = A at hD ⊢
  have hA : ∀ q : Nat, s.heap.size ≤ q → A q := fun q h => by rw [← hAe]; exact Or.inr h
  show W p l e rm_X3_count s m args below meth c s.heap [] 0 0 _ _
  have hl := lv_entry ([.ref m0, .int (zi (what))]) (n := 2) (Nat.le_of_ble_eq_true rfl)
  rw [show entryFrame m args 2 = entryFrame m ([.ref m0, .int (zi (what))] : List Value).toArray 2 by rw [hargs], lg_entry_eq]
  generalize (lg_sl ([.ref m0, .int (zi (what))]) ++ List.replicate (2 - (lg_sl ([.ref m0, .int (zi (what))])).length) Slot.unset).toArray = ls at hl ⊢
  have hl : lv_has ls 2 [(0, .ref m0), (1, .int (zi (what)))] := hl
  obtain ⟨QQ, hQQ⟩ : ∃ Q, Q = MQ below (WrQ (some (.int (zi (if what = 0 then (mp : Int) else if what = 1 then (mb : Int) else if what = 2 then (ml : Int) else (mz : Int))))) (dC, dI) vwCl [(m0, .inr (3, [.int (zi (0)), .int (zi ((mp : Int))), .ref a1, .ref a2, .ref a3, .ref a4, .ref a5, .ref a6, .int (zi ((mb : Int))), .ref a7, .ref a8, .int (zi ((ml : Int))), .ref a9, .ref a10, .int (zi ((mz : Int))), .ref a11, .long (zl (ab)), .long (zl (be))]))] A) args s 0 0 A := ⟨_, rfl⟩
  rw [← hQQ]
  obtain ⟨H, hHe⟩ : ∃ H : Heap, H = s.heap := ⟨_, rfl⟩
  obtain ⟨locs, hlc⟩ : ∃ x : List Loc, x = [] := ⟨_, rfl⟩
  have hS : va_S A s.heap H locs := by rw [hHe, hlc]; exact va_S.rf
  have hP : va_P (dC, dI) vwCl [(m0, .inr (3, [.int (zi (tw)), .int (zi ((mp : Int))), .ref a1, .ref a2, .ref a3, .ref a4, .ref a5, .ref a6, .int (zi ((mb : Int))), .ref a7, .ref a8, .int (zi ((ml : Int))), .ref a9, .ref a10, .int (zi ((mz : Int))), .ref a11, .long (zl (ab)), .long (zl (be))]))] H := by rw [hHe]; exact hP
  have hD : va_D A [(m0, .inr (3, [.int (zi (tw)), .int (zi ((mp : Int))), .ref a1, .ref a2, .ref a3, .ref a4, .ref a5, .ref a6, .int (zi ((mb : Int))), .ref a7, .ref a8, .int (zi ((ml : Int))), .ref a9, .ref a10, .int (zi ((mz : Int))), .ref a11, .long (zl (ab)), .long (zl (be))]))] := hD
  rw [← hHe, ← hlc]
  refine lv_aload_n hx hb dX3_count_0 rfl (lv_at hl 0 rfl) ?_
  refine lv_iload_n hx hb dX3_count_1 rfl (lv_at hl 1 rfl) ?_
  refine lv_iconst (v := zi (0)) hx hb dX3_count_2 rfl ?_
  refine lv_iconst (v := zi (3)) hx hb dX3_count_3 rfl ?_
  refine rdS (As := [.int (zi (what)), .int (zi (0)), .int (zi (3))]) (rest := [.ref m0]) (n := 3) hx hb hml hown hg (c_X3_in l (what) (0) (3) (by omega) (by omega) (by omega)) (gwS wl_X3_55 wt_X3_in wi_X3 wc_X3_in) rfl rfl (by decide +kernel) ⟨Nat.le_of_ble_eq_true rfl, Nat.le_of_ble_eq_true rfl⟩ rfl hl.1 rfl (Nat.le_of_ble_eq_true rfl) dX3_count_4 ⟨Nat.zero_le _, Nat.zero_le _⟩ ?_
  refine zz_topi (z := 1) (congrArg zi (zb_t (decide_eq_true (by omega)))) ?_
  refine zz_if_ne (tgt := 14) hx hb (by omega) dX3_count_7 (by decide) (fun c_7 => ?_) (fun c_7 => ?_)
  · refine lv_iconst (v := zi (0)) hx hb dX3_count_14 rfl ?_
    refine lv_iconst (v := zi (0)) hx hb dX3_count_15 rfl ?_
    refine lv_iconst (v := zi (0)) hx hb dX3_count_16 rfl ?_
    refine wrV (As := [.int (zi (0)), .int (zi (0)), .int (zi (0))]) (rest := []) (n := 3) (ws' := [(m0, .inr (3, [.int (zi (0)), .int (zi ((mp : Int))), .ref a1, .ref a2, .ref a3, .ref a4, .ref a5, .ref a6, .int (zi ((mb : Int))), .ref a7, .ref a8, .int (zi ((ml : Int))), .ref a9, .ref a10, .int (zi ((mz : Int))), .ref a11, .long (zl (ab)), .long (zl (be))]))]) hx hb hml hown hg (c_throwing l dC dI H.size m0 a1 a2 a3 a4 a5 a6 a7 a8 a9 a10 a11 (tw) (ab) (be) mp mb ml mz 0 0 0 (by decide) (by decide) (by decide)) (gwV wl_X3_59 wm_X3_throwing we_X3_throwing wi_X3 wc_X3_throwing) rfl rfl (by decide +kernel) ⟨Nat.le_of_ble_eq_true rfl, Nat.le_of_ble_eq_true rfl⟩ (hK.sub [] rfl) hP hD hS hA [0] rfl (by decide) [(true, 0)] rfl (by decide) rfl 0 rfl rfl rfl rfl hl.1 rfl (Nat.le_of_ble_eq_true rfl) dX3_count_17 ⟨Nat.zero_le _, Nat.zero_le _⟩ (fun H locs hP hD hS => ?_)
    refine zz_topi (z := 0) (congrArg zi (by decide)) ?_
    refine zz_if_eq (tgt := 25) hx hb (by omega) dX3_count_20 (by decide) (fun c_20 => ?_) (fun c_20 => ?_)
    · refine lv_iload_n hx hb dX3_count_25 rfl (lv_at hl 1 rfl) ?_
      refine zz_if_ne (tgt := 36) hx hb (by omega) dX3_count_26 (by decide) (fun c_26 => ?_) (fun c_26 => ?_)
      · refine lv_iload_n hx hb dX3_count_36 rfl (lv_at hl 1 rfl) ?_
        refine lv_iconst (v := zi (1)) hx hb dX3_count_37 rfl ?_
        refine zz_icmp_ne (tgt := 48) hx hb (by omega) (by omega) dX3_count_38 (by decide) (fun c_38 => ?_) (fun c_38 => ?_)
        · refine lv_iload_n hx hb dX3_count_48 rfl (lv_at hl 1 rfl) ?_
          refine lv_iconst (v := zi (2)) hx hb dX3_count_49 rfl ?_
          refine zz_icmp_ne (tgt := 60) hx hb (by omega) (by omega) dX3_count_50 (by decide) (fun c_50 => ?_) (fun c_50 => ?_)
          · refine lv_aload_n hx hb dX3_count_60 rfl (lv_at hl 0 rfl) ?_
            refine va_get (D := (dC, dI)) (ci := 3) (v := .int (zi ((mz : Int)))) (C := RX3) (T := TX3) (N := 18) hx hb hg inX3 hown hK hP 0 rfl rfl 14 (by decide) (hg _ wl_X3_154) (fun _ h9 => h9) rfl dX3_count_61 ?_
            have hP9 : va_P (dC, dI) vwCl [(m0, .inr (3, [.int (zi (0)), .int (zi ((mp : Int))), .ref a1, .ref a2, .ref a3, .ref a4, .ref a5, .ref a6, .int (zi ((mb : Int))), .ref a7, .ref a8, .int (zi ((ml : Int))), .ref a9, .ref a10, .int (zi ((mz : Int))), .ref a11, .long (zl (ab)), .long (zl (be))]))] H := hP
            rw [hQQ]
            exact wr_i hx hb hr hlocks ((if_neg (by omega)).trans ((if_neg (by omega)).trans (if_neg (by omega)))).symm hP9 hS dX3_count_64
          · refine lv_aload_n hx hb dX3_count_53 rfl (lv_at hl 0 rfl) ?_
            refine va_get (D := (dC, dI)) (ci := 3) (v := .int (zi ((ml : Int)))) (C := RX3) (T := TX3) (N := 18) hx hb hg inX3 hown hK hP 0 rfl rfl 11 (by decide) (hg _ wl_X3_139) (fun _ h9 => h9) rfl dX3_count_54 ?_
            refine lv_goto (tgt := 64) hx hb dX3_count_57 (by decide) ?_
            have hP9 : va_P (dC, dI) vwCl [(m0, .inr (3, [.int (zi (0)), .int (zi ((mp : Int))), .ref a1, .ref a2, .ref a3, .ref a4, .ref a5, .ref a6, .int (zi ((mb : Int))), .ref a7, .ref a8, .int (zi ((ml : Int))), .ref a9, .ref a10, .int (zi ((mz : Int))), .ref a11, .long (zl (ab)), .long (zl (be))]))] H := hP
            rw [hQQ]
            exact wr_i hx hb hr hlocks ((if_neg (by omega)).trans ((if_neg (by omega)).trans (if_pos (by omega)))).symm hP9 hS dX3_count_64
        · refine lv_aload_n hx hb dX3_count_41 rfl (lv_at hl 0 rfl) ?_
          refine va_get (D := (dC, dI)) (ci := 3) (v := .int (zi ((mb : Int)))) (C := RX3) (T := TX3) (N := 18) hx hb hg inX3 hown hK hP 0 rfl rfl 8 (by decide) (hg _ wl_X3_136) (fun _ h9 => h9) rfl dX3_count_42 ?_
          refine lv_goto (tgt := 64) hx hb dX3_count_45 (by decide) ?_
          have hP9 : va_P (dC, dI) vwCl [(m0, .inr (3, [.int (zi (0)), .int (zi ((mp : Int))), .ref a1, .ref a2, .ref a3, .ref a4, .ref a5, .ref a6, .int (zi ((mb : Int))), .ref a7, .ref a8, .int (zi ((ml : Int))), .ref a9, .ref a10, .int (zi ((mz : Int))), .ref a11, .long (zl (ab)), .long (zl (be))]))] H := hP
          rw [hQQ]
          exact wr_i hx hb hr hlocks ((if_neg (by omega)).trans (if_pos (by omega))).symm hP9 hS dX3_count_64
      · refine lv_aload_n hx hb dX3_count_29 rfl (lv_at hl 0 rfl) ?_
        refine va_get (D := (dC, dI)) (ci := 3) (v := .int (zi ((mp : Int)))) (C := RX3) (T := TX3) (N := 18) hx hb hg inX3 hown hK hP 0 rfl rfl 1 (by decide) (hg _ wl_X3_52) (fun _ h9 => h9) rfl dX3_count_30 ?_
        refine lv_goto (tgt := 64) hx hb dX3_count_33 (by decide) ?_
        have hP9 : va_P (dC, dI) vwCl [(m0, .inr (3, [.int (zi (0)), .int (zi ((mp : Int))), .ref a1, .ref a2, .ref a3, .ref a4, .ref a5, .ref a6, .int (zi ((mb : Int))), .ref a7, .ref a8, .int (zi ((ml : Int))), .ref a9, .ref a10, .int (zi ((mz : Int))), .ref a11, .long (zl (ab)), .long (zl (be))]))] H := hP
        rw [hQQ]
        exact wr_i hx hb hr hlocks (if_pos (by omega)).symm hP9 hS dX3_count_64
    · exact absurd c_20 (by decide)
  · exact absurd c_7 (by decide)
