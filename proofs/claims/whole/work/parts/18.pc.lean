def c_crs (xs ys : Nat → Int) (m l : Nat) : Int := (xs m - xs 0) * (ys l - ys 0) - (ys m - ys 0) * (xs l - xs 0)
def c_sq (a b : Int) : Int := a * a + b * b
def c_prd (xs ys : Nat → Int) (m l : Nat) : Int := c_sq (xs m - xs 0) (ys m - ys 0) * c_sq (xs l - xs 0) (ys l - ys 0) * c_sq (xs l - xs 0 - (xs m - xs 0)) (ys l - ys 0 - (ys m - ys 0))
def c_cir (xs ys : Nat → Int) (n : Nat) : Nat × Nat := if c_crs xs ys (n / 2) (n - 1) = 0 then (0, 1) else fr_add (0, 1) (c_prd xs ys (n / 2) (n - 1)).toNat (4 * c_crs xs ys (n / 2) (n - 1) * c_crs xs ys (n / 2) (n - 1)).toNat
theorem c_absmul {a b A B : Int} (h1 : -A ≤ a ∧ a ≤ A) (h2 : -B ≤ b ∧ b ≤ B) : -(A * B) ≤ a * b ∧ a * b ≤ A * B := by
  have hA : 0 ≤ A := by omega
  have hB : 0 ≤ B := by omega
  have e : (a * b).natAbs = a.natAbs * b.natAbs := Int.natAbs_mul a b
  have h3 : a.natAbs * b.natAbs ≤ A.toNat * B.toNat := Nat.mul_le_mul (by omega) (by omega)
  have h4 : ((A.toNat * B.toNat : Nat) : Int) = A * B := by
    rw [Int.natCast_mul, Int.toNat_of_nonneg hA, Int.toNat_of_nonneg hB]
  omega
theorem c_sq_bd {a b : Int} (h1 : -400 ≤ a ∧ a ≤ 400) (h2 : -400 ≤ b ∧ b ≤ 400) : 0 ≤ c_sq a b ∧ c_sq a b ≤ 320000 := by
  have e1 := c_absmul h1 h1
  have e2 := c_absmul h2 h2
  have e3 : 0 ≤ a * a := by rcases Int.le_total 0 a with h | h
                            · exact Int.mul_nonneg h h
                            · exact Int.mul_nonneg_of_nonpos_of_nonpos h h
  have e4 : 0 ≤ b * b := by rcases Int.le_total 0 b with h | h
                            · exact Int.mul_nonneg h h
                            · exact Int.mul_nonneg_of_nonpos_of_nonpos h h
  unfold c_sq
  omega
theorem c_crs_bd {xs ys : Nat → Int} (hX : ∀ j, -200 ≤ xs j ∧ xs j ≤ 200) (hY : ∀ j, -200 ≤ ys j ∧ ys j ≤ 200) (m l : Nat) : -320000 ≤ c_crs xs ys m l ∧ c_crs xs ys m l ≤ 320000 := by
  have a := hX m; have b := hX l; have c := hX 0; have d := hY m; have e := hY l; have f := hY 0
  have e1 := c_absmul (a := xs m - xs 0) (b := ys l - ys 0) (A := 400) (B := 400) (by omega) (by omega)
  have e2 := c_absmul (a := ys m - ys 0) (b := xs l - xs 0) (A := 400) (B := 400) (by omega) (by omega)
  unfold c_crs
  omega
theorem c_prd_bd {xs ys : Nat → Int} (hX : ∀ j, -200 ≤ xs j ∧ xs j ≤ 200) (hY : ∀ j, -200 ≤ ys j ∧ ys j ≤ 200) (m l : Nat) : 0 ≤ c_prd xs ys m l ∧ c_prd xs ys m l ≤ 32768000000000000 := by
  have a := hX m; have b := hX l; have c := hX 0; have d := hY m; have e := hY l; have f := hY 0
  have e1 := c_sq_bd (a := xs m - xs 0) (b := ys m - ys 0) (by omega) (by omega)
  have e2 := c_sq_bd (a := xs l - xs 0) (b := ys l - ys 0) (by omega) (by omega)
  have e3 := c_sq_bd (a := xs l - xs 0 - (xs m - xs 0)) (b := ys l - ys 0 - (ys m - ys 0)) (by omega) (by omega)
  have e4 := p_mulb e1 e2
  have e5 := p_mulb e4 e3
  unfold c_prd
  omega
theorem c_4_bd {z : Int} (h : -320000 ≤ z ∧ z ≤ 320000) (h0 : ¬ z = 0) : 0 < 4 * z * z ∧ 4 * z * z ≤ 409600000000 := by
  have e1 := c_absmul (a := 4 * z) (b := z) (A := 1280000) (B := 320000) (by omega) h
  have e2 : 0 < 4 * z * z := by
    rcases Int.lt_or_gt_of_ne h0 with h | h
    · exact Int.mul_pos_of_neg_of_neg (by omega) h
    · exact Int.mul_pos (by omega) h
  omega
theorem c_ok {u q : Nat} (hu : u < 9223372036854775808) (hq : q < 562949953421312) : p_ok (0, 1) u q := by
  refine ⟨Nat.one_pos, ?_, ?_⟩
  · show 0 * (q / Nat.gcd u q) + u / Nat.gcd u q * 1 < _
    have := Nat.div_le_self u (Nat.gcd u q)
    omega
  · show 1 * (q / Nat.gcd u q) < _
    have := Nat.div_le_self q (Nat.gcd u q)
    omega
/-- the root, bit by bit -/
def r_rt (v : Nat) : Nat → Nat → Nat
  | 0, r => r
  | b + 1, r => if (r + 2 ^ b) * (r + 2 ^ b) ≤ v then r_rt v b (r + 2 ^ b) else r_rt v b r
theorem r_sh : ∀ b : Fin 27, zi 1 <<< (zi ((b.val : Nat) : Int) &&& 31) = zi ((2 ^ b.val : Nat) : Int) := by decide
theorem r_or {b k : Nat} (h1 : 1 ≤ b) (hb : b ≤ 27) (hk : k * 2 ^ b + 2 ^ (b - 1) < 2147483648) : zi ((k * 2 ^ b : Nat) : Int) ||| (zi 1 <<< (zi ((b : Int) - 1) &&& 31)) = zi ((k * 2 ^ b + 2 ^ (b - 1) : Nat) : Int) := by
  obtain ⟨c, rfl⟩ : ∃ c, b = c + 1 := ⟨b - 1, by omega⟩
  rw [Nat.add_sub_cancel] at hk ⊢
  rw [show ((c + 1 : Nat) : Int) - 1 = (c : Int) by omega, r_sh ⟨c, by omega⟩, zi_nat, zi_nat, zi_nat]
  apply Int32.toBitVec_inj.mp
  show BitVec.ofNat 32 (k * 2 ^ (c + 1)) ||| BitVec.ofNat 32 (2 ^ c) = BitVec.ofNat 32 (k * 2 ^ (c + 1) + 2 ^ c)
  apply BitVec.eq_of_toNat_eq
  have hp : 2 ^ c < 2 ^ (c + 1) := Nat.pow_lt_pow_right (by decide) (Nat.lt_succ_self c)
  have e : k * 2 ^ (c + 1) + 2 ^ c = k * 2 ^ (c + 1) ||| 2 ^ c := by
    have := Nat.shiftLeft_add_eq_or_of_lt hp k
    rw [Nat.shiftLeft_eq] at this
    exact this
  rw [BitVec.toNat_or, BitVec.toNat_ofNat, BitVec.toNat_ofNat, BitVec.toNat_ofNat, Nat.mod_eq_of_lt (show k * 2 ^ (c + 1) < 2 ^ 32 by omega), Nat.mod_eq_of_lt (show 2 ^ c < 2 ^ 32 by omega), Nat.mod_eq_of_lt (show k * 2 ^ (c + 1) + 2 ^ c < 2 ^ 32 by omega), e]
abbrev rm_X2_squareOfLength : Room := { frames := 0, cells := 0, slots := 0, locals := 0 }
set_option maxHeartbeats 4000000 in
set_option maxRecDepth 100000 in
theorem c_X2_squareOfLength (l : Launch) (u v : Int)  : Met l yX2_squareOfLength (Cond.code yX2_squareOfLength cX2_squareOfLength 4 ((Option.some Jvm.ClassFile.FieldType.long)) :: gw) rm_X2_squareOfLength (PcS [.long (zl (u)), .long (zl (v))]) (RdQ (some (.long (zl (c_sq u v))))) 0 0 (fun _ => False) := by
  refine Met.ofW (cc := cX2_squareOfLength) (maxL := 4) (ret := ((Option.some Jvm.ClassFile.FieldType.long))) (by decide) rfl ?_
  intro p e s m args below meth c s₁ B hml hv
  obtain ⟨hargs, -⟩ := hv
  have hx := B.exec
  have hb := B.bytes
  have hr := B.returns
  have hts := atoms_spec (ws := Cond.code yX2_squareOfLength cX2_squareOfLength 4 ((Option.some Jvm.ClassFile.FieldType.long)) :: gw) B.pre
  have hg : ∀ w ∈ gw, w.before args s = true := fun w h => hts w (List.mem_cons_of_mem _ h)
  have hown : s.vm.findClass RX2 = some m.cls := findClass_of_methodNamed B.named
  have hlocks := B.notSynchronized
  show W p l e rm_X2_squareOfLength s m args below meth c s.heap [] 0 0 _ _
  have hl := lv_entry ([.long (zl (u)), .long (zl (v))]) (n := 4) (Nat.le_of_ble_eq_true rfl)
  rw [show entryFrame m args 4 = entryFrame m ([.long (zl (u)), .long (zl (v))] : List Value).toArray 4 by rw [hargs], lg_entry_eq]
  generalize (lg_sl ([.long (zl (u)), .long (zl (v))]) ++ List.replicate (4 - (lg_sl ([.long (zl (u)), .long (zl (v))])).length) Slot.unset).toArray = ls at hl ⊢
  have hl : lv_has ls 4 [(0, .long (zl (u))), (2, .long (zl (v)))] := hl
  obtain ⟨QQ, hQQ⟩ : ∃ Q, Q = MQ below (RdQ (some (.long (zl (c_sq u v))))) args s 0 0 (fun _ => False) := ⟨_, rfl⟩
  rw [← hQQ]
  refine lv_lload_n hx hb dX2_squareOfLength_0 rfl (lv_at hl 0 rfl) ?_
  refine lv_lload_n hx hb dX2_squareOfLength_1 rfl (lv_at hl 0 rfl) ?_
  refine zz_lmul hx hb dX2_squareOfLength_2 ?_
  refine lv_lload_n hx hb dX2_squareOfLength_3 rfl (lv_at hl 1 rfl) ?_
  refine lv_lload_n hx hb dX2_squareOfLength_4 rfl (lv_at hl 1 rfl) ?_
  refine zz_lmul hx hb dX2_squareOfLength_5 ?_
  refine zz_ladd hx hb dX2_squareOfLength_6 ?_
  rw [hQQ]
  exact rd_l hx hb hr hlocks rfl dX2_squareOfLength_7

abbrev rm_X2_measureCircle : Room := { frames := 3, cells := 0, slots := 0, locals := 82 }
set_option maxHeartbeats 4000000 in
set_option maxRecDepth 100000 in
theorem c_measureCircle (l : Launch) (dC : Nat → ClassId) (dI : Nat → Nat → Nat) (sz : Nat) (x0 pa ba ax ay sp ss vs fr : Nat) (pn bn ln sn : Nat) (cA : ClassId) (xs ys : Nat → Int) (a b : Int) (hl3 : 3 ≤ ln ∧ ln ≤ 20) (hX : ∀ j, -200 ≤ xs j ∧ xs j ≤ 200) (hY : ∀ j, -200 ≤ ys j ∧ ys j ≤ 200) : Met l yX2_measureCircle (Cond.code yX2_measureCircle cX2_measureCircle 15 ((Option.none : Option Jvm.ClassFile.FieldType)) :: gw) rm_X2_measureCircle (PcW [.ref x0] (dC, dI) vwCl [(x0, .inr (2, [.ref pa, .int (zi ((pn : Int))), .ref ba, .int (zi ((bn : Int))), .ref ax, .ref ay, .int (zi ((ln : Int))), .ref sp, .ref ss, .int (zi ((sn : Int))), .ref vs, .ref fr])), (ax, .inl (cA, 20, .inl (zA (xs)))), (ay, .inl (cA, 20, .inl (zA (ys)))), (fr, .inr (0, [.long (zl (a)), .long (zl (b))]))] [(cA, .int)] sz) (WrQ (none) (dC, dI) vwCl [(x0, .inr (2, [.ref pa, .int (zi ((pn : Int))), .ref ba, .int (zi ((bn : Int))), .ref ax, .ref ay, .int (zi ((ln : Int))), .ref sp, .ref ss, .int (zi ((sn : Int))), .ref vs, .ref fr])), (ax, .inl (cA, 20, .inl (zA (xs)))), (ay, .inl (cA, 20, .inl (zA (ys)))), (fr, .inr (0, [.long (zl ((((c_cir xs ys ln).1 : Nat) : Int))), .long (zl ((((c_cir xs ys ln).2 : Nat) : Int)))]))] (va_A [(x0, .inr (2, [.ref pa, .int (zi ((pn : Int))), .ref ba, .int (zi ((bn : Int))), .ref ax, .ref ay, .int (zi ((ln : Int))), .ref sp, .ref ss, .int (zi ((sn : Int))), .ref vs, .ref fr])), (ax, .inl (cA, 20, .inl (zA (xs)))), (ay, .inl (cA, 20, .inl (zA (ys)))), (fr, .inr (0, [.long (zl (a)), .long (zl (b))]))] sz)) 0 0 (va_A [(x0, .inr (2, [.ref pa, .int (zi ((pn : Int))), .ref ba, .int (zi ((bn : Int))), .ref ax, .ref ay, .int (zi ((ln : Int))), .ref sp, .ref ss, .int (zi ((sn : Int))), .ref vs, .ref fr])), (ax, .inl (cA, 20, .inl (zA (xs)))), (ay, .inl (cA, 20, .inl (zA (ys)))), (fr, .inr (0, [.long (zl (a)), .long (zl (b))]))] sz) := by
  refine Met.ofW (cc := cX2_measureCircle) (maxL := 15) (ret := ((Option.none : Option Jvm.ClassFile.FieldType))) (by decide) rfl ?_
  intro p e s m args below meth c s₁ B hml hv
  obtain ⟨hargs, hsz, hP, hK, hD0⟩ := hv
  have hx := B.exec
  have hb := B.bytes
  have hr := B.returns
  have hts := atoms_spec (ws := Cond.code yX2_measureCircle cX2_measureCircle 15 ((Option.none : Option Jvm.ClassFile.FieldType)) :: gw) B.pre
  have hg : ∀ w ∈ gw, w.before args s = true := fun w h => hts w (List.mem_cons_of_mem _ h)
  have hown : s.vm.findClass RX2 = some m.cls := findClass_of_methodNamed B.named
  have hlocks := B.notSynchronized
  subst hsz
  have hD := hD0.self (sz := s.heap.size)
  generalize hAe : va_A [(x0, .inr (2, [.ref pa, .int (zi ((pn : Int))), .ref ba, .int (zi ((bn : Int))), .ref ax, .ref ay, .int (zi ((ln : Int))), .ref sp, .ref ss, .int (zi ((sn : Int))), .ref vs, .ref fr])), (ax, .inl (cA, 20, .inl (zA (xs)))), (ay, .inl (cA, 20, .inl (zA (ys)))), (fr, .inr (0, [.long (zl (a)), .long (zl (b))]))] s.heap.size = A at hD ⊢
  have hA : ∀ q : Nat, s.heap.size ≤ q → A q := fun q h => by rw [← hAe]; exact Or.inr h
  show W p l e rm_X2_measureCircle s m args below meth c s.heap [] 0 0 _ _
  have hl := lv_entry ([.ref x0]) (n := 15) (Nat.le_of_ble_eq_true rfl)
  rw [show entryFrame m args 15 = entryFrame m ([.ref x0] : List Value).toArray 15 by rw [hargs], lg_entry_eq]
  generalize (lg_sl ([.ref x0]) ++ List.replicate (15 - (lg_sl ([.ref x0])).length) Slot.unset).toArray = ls at hl ⊢
  have hl : lv_has ls 15 [(0, .ref x0)] := hl
  obtain ⟨QQ, hQQ⟩ : ∃ Q, Q = MQ below (WrQ (none) (dC, dI) vwCl [(x0, .inr (2, [.ref pa, .int (zi ((pn : Int))), .ref ba, .int (zi ((bn : Int))), .ref ax, .ref ay, .int (zi ((ln : Int))), .ref sp, .ref ss, .int (zi ((sn : Int))), .ref vs, .ref fr])), (ax, .inl (cA, 20, .inl (zA (xs)))), (ay, .inl (cA, 20, .inl (zA (ys)))), (fr, .inr (0, [.long (zl ((((c_cir xs ys ln).1 : Nat) : Int))), .long (zl ((((c_cir xs ys ln).2 : Nat) : Int)))]))] A) args s 0 0 A := ⟨_, rfl⟩
  rw [← hQQ]
  obtain ⟨H, hHe⟩ : ∃ H : Heap, H = s.heap := ⟨_, rfl⟩
  obtain ⟨locs, hlc⟩ : ∃ x : List Loc, x = [] := ⟨_, rfl⟩
  have hS : va_S A s.heap H locs := by rw [hHe, hlc]; exact va_S.rf
  have hP : va_P (dC, dI) vwCl [(x0, .inr (2, [.ref pa, .int (zi ((pn : Int))), .ref ba, .int (zi ((bn : Int))), .ref ax, .ref ay, .int (zi ((ln : Int))), .ref sp, .ref ss, .int (zi ((sn : Int))), .ref vs, .ref fr])), (ax, .inl (cA, 20, .inl (zA (xs)))), (ay, .inl (cA, 20, .inl (zA (ys)))), (fr, .inr (0, [.long (zl (a)), .long (zl (b))]))] H := by rw [hHe]; exact hP
  have hD : va_D A [(x0, .inr (2, [.ref pa, .int (zi ((pn : Int))), .ref ba, .int (zi ((bn : Int))), .ref ax, .ref ay, .int (zi ((ln : Int))), .ref sp, .ref ss, .int (zi ((sn : Int))), .ref vs, .ref fr])), (ax, .inl (cA, 20, .inl (zA (xs)))), (ay, .inl (cA, 20, .inl (zA (ys)))), (fr, .inr (0, [.long (zl (a)), .long (zl (b))]))] := hD
  rw [← hHe, ← hlc]
  have hcb := c_crs_bd hX hY (ln / 2) (ln - 1)
  have hpb := c_prd_bd hX hY (ln / 2) (ln - 1)
  refine lv_aload_n hx hb dX2_measureCircle_0 rfl (lv_at hl 0 rfl) ?_
  refine va_get (D := (dC, dI)) (ci := 2) (v := .int (zi ((ln : Int)))) (C := RX2) (T := TX2) (N := 12) hx hb hg inX2 hown hK hP 0 rfl rfl 6 (by decide) (hg _ wl_X2_150) (fun _ h9 => h9) rfl dX2_measureCircle_1 ?_
  refine lv_iconst (v := zi (2)) hx hb dX2_measureCircle_4 rfl ?_
  refine zz_idiv hx hb (by omega) (by omega) dX2_measureCircle_5 ?_
  refine zz_topi (z := ((ln / 2 : Nat) : Int)) (congrArg zi rfl) ?_
  refine lv_istore_n (lv' := [(1, .int (zi (((ln / 2 : Nat) : Int)))), (0, .ref x0)]) hx hb dX2_measureCircle_6 rfl hl (by decide) rfl (fun ls hl => ?_)
  refine lv_aload_n hx hb dX2_measureCircle_7 rfl (lv_at hl 1 rfl) ?_
  refine va_get (D := (dC, dI)) (ci := 2) (v := .int (zi ((ln : Int)))) (C := RX2) (T := TX2) (N := 12) hx hb hg inX2 hown hK hP 0 rfl rfl 6 (by decide) (hg _ wl_X2_150) (fun _ h9 => h9) rfl dX2_measureCircle_8 ?_
  refine lv_iconst (v := zi (1)) hx hb dX2_measureCircle_11 rfl ?_
  refine zz_isub hx hb dX2_measureCircle_12 ?_
  refine zz_topi (z := ((ln - 1 : Nat) : Int)) (congrArg zi (by omega)) ?_
  refine lv_istore_n (lv' := [(2, .int (zi (((ln - 1 : Nat) : Int)))), (1, .int (zi (((ln / 2 : Nat) : Int)))), (0, .ref x0)]) hx hb dX2_measureCircle_13 rfl hl (by decide) rfl (fun ls hl => ?_)
  refine lv_aload_n hx hb dX2_measureCircle_14 rfl (lv_at hl 2 rfl) ?_
  refine va_get (D := (dC, dI)) (ci := 2) (v := .ref fr) (C := RX2) (T := TX2) (N := 12) hx hb hg inX2 hown hK hP 0 rfl rfl 11 (by decide) (hg _ wl_X2_37) (fun _ h9 => h9) rfl dX2_measureCircle_15 ?_
  refine wrV (As := []) (rest := []) (n := 0) (ws' := [(x0, .inr (2, [.ref pa, .int (zi ((pn : Int))), .ref ba, .int (zi ((bn : Int))), .ref ax, .ref ay, .int (zi ((ln : Int))), .ref sp, .ref ss, .int (zi ((sn : Int))), .ref vs, .ref fr])), (ax, .inl (cA, 20, .inl (zA (xs)))), (ay, .inl (cA, 20, .inl (zA (ys)))), (fr, .inr (0, [.long (zl (((((0, 1)).1 : Nat) : Int))), .long (zl (((((0, 1)).2 : Nat) : Int)))]))]) hx hb hml hown hg (c_X0_clearToZero l dC dI H.size fr a b) (gwV wl_X2_192 wm_X0_clearToZero we_X0_clearToZero wi_X0 wc_X0_clearToZero) rfl rfl (by decide +kernel) ⟨Nat.le_of_ble_eq_true rfl, Nat.le_of_ble_eq_true rfl⟩ (hK.sub [] rfl) hP hD hS hA [3] rfl (by decide) [(false, 0), (false, 1), (false, 2), (true, 0)] rfl (by decide) rfl 0 rfl rfl rfl rfl hl.1 rfl (Nat.le_of_ble_eq_true rfl) dX2_measureCircle_18 ⟨Nat.zero_le _, Nat.zero_le _⟩ (fun H locs hP hD hS => ?_)
  refine lv_iload_n hx hb dX2_measureCircle_21 rfl (lv_at hl 1 rfl) ?_
  refine lv_iload_n hx hb dX2_measureCircle_22 rfl (lv_at hl 0 rfl) ?_
  refine zz_icmp_ge (tgt := 32) hx hb (by omega) (by omega) dX2_measureCircle_23 (by decide) (fun c_23 => ?_) (fun c_23 => ?_)
  · exact False.elim (by omega)
  · refine lv_iload_n hx hb dX2_measureCircle_26 rfl (lv_at hl 0 rfl) ?_
    refine lv_bipush (v := zi (20)) hx hb dX2_measureCircle_27 (by decide) ?_
    refine zz_icmp_lt (tgt := 33) hx hb (by omega) (by omega) dX2_measureCircle_29 (by decide) (fun c_29 => ?_) (fun c_29 => ?_)
    · refine lv_aload_n hx hb dX2_measureCircle_33 rfl (lv_at hl 2 rfl) ?_
      refine va_get (D := (dC, dI)) (ci := 2) (v := .ref ax) (C := RX2) (T := TX2) (N := 12) hx hb hg inX2 hown hK hP 0 rfl rfl 4 (by decide) (hg _ wl_X2_19) (fun _ h9 => h9) rfl dX2_measureCircle_34 ?_
      refine lv_iload_n hx hb dX2_measureCircle_37 rfl (lv_at hl 1 rfl) ?_
      refine zz_iald hx hb hK hP 1 0 rfl rfl (ln / 2) (by omega) (by omega) (by decide) dX2_measureCircle_38 ?_
      have hv_1 := hX (ln / 2)
      refine lv_aload_n hx hb dX2_measureCircle_39 rfl (lv_at hl 2 rfl) ?_
      refine va_get (D := (dC, dI)) (ci := 2) (v := .ref ax) (C := RX2) (T := TX2) (N := 12) hx hb hg inX2 hown hK hP 0 rfl rfl 4 (by decide) (hg _ wl_X2_19) (fun _ h9 => h9) rfl dX2_measureCircle_40 ?_
      refine lv_iconst (v := zi (0)) hx hb dX2_measureCircle_43 rfl ?_
      refine zz_iald hx hb hK hP 1 0 rfl rfl (0) (by omega) (by omega) (by decide) dX2_measureCircle_44 ?_
      have hv_2 := hX (0)
      refine zz_isub hx hb dX2_measureCircle_45 ?_
      refine zz_i2l hx hb (by omega) dX2_measureCircle_46 ?_
      refine lv_lstore_n (lv' := [(3, .long (zl ((xs (ln / 2)) - (xs (0))))), (2, .int (zi (((ln - 1 : Nat) : Int)))), (1, .int (zi (((ln / 2 : Nat) : Int)))), (0, .ref x0)]) hx hb dX2_measureCircle_47 rfl hl (by decide) rfl (fun ls hl => ?_)
      refine lv_aload_n hx hb dX2_measureCircle_48 rfl (lv_at hl 3 rfl) ?_
      refine va_get (D := (dC, dI)) (ci := 2) (v := .ref ay) (C := RX2) (T := TX2) (N := 12) hx hb hg inX2 hown hK hP 0 rfl rfl 5 (by decide) (hg _ wl_X2_22) (fun _ h9 => h9) rfl dX2_measureCircle_49 ?_
      refine lv_iload_n hx hb dX2_measureCircle_52 rfl (lv_at hl 2 rfl) ?_
      refine zz_iald hx hb hK hP 2 0 rfl rfl (ln / 2) (by omega) (by omega) (by decide) dX2_measureCircle_53 ?_
      have hv_3 := hY (ln / 2)
      refine lv_aload_n hx hb dX2_measureCircle_54 rfl (lv_at hl 3 rfl) ?_
      refine va_get (D := (dC, dI)) (ci := 2) (v := .ref ay) (C := RX2) (T := TX2) (N := 12) hx hb hg inX2 hown hK hP 0 rfl rfl 5 (by decide) (hg _ wl_X2_22) (fun _ h9 => h9) rfl dX2_measureCircle_55 ?_
      refine lv_iconst (v := zi (0)) hx hb dX2_measureCircle_58 rfl ?_
      refine zz_iald hx hb hK hP 2 0 rfl rfl (0) (by omega) (by omega) (by decide) dX2_measureCircle_59 ?_
      have hv_4 := hY (0)
      refine zz_isub hx hb dX2_measureCircle_60 ?_
      refine zz_i2l hx hb (by omega) dX2_measureCircle_61 ?_
      refine lv_lstore (lv' := [(5, .long (zl ((ys (ln / 2)) - (ys (0))))), (3, .long (zl ((xs (ln / 2)) - (xs (0))))), (2, .int (zi (((ln - 1 : Nat) : Int)))), (1, .int (zi (((ln / 2 : Nat) : Int)))), (0, .ref x0)]) hx hb dX2_measureCircle_62 hl (by decide) rfl (fun ls hl => ?_)
      refine lv_aload_n hx hb dX2_measureCircle_64 rfl (lv_at hl 4 rfl) ?_
      refine va_get (D := (dC, dI)) (ci := 2) (v := .ref ax) (C := RX2) (T := TX2) (N := 12) hx hb hg inX2 hown hK hP 0 rfl rfl 4 (by decide) (hg _ wl_X2_19) (fun _ h9 => h9) rfl dX2_measureCircle_65 ?_
      refine lv_iload_n hx hb dX2_measureCircle_68 rfl (lv_at hl 2 rfl) ?_
      refine zz_iald hx hb hK hP 1 0 rfl rfl (ln - 1) (by omega) (by omega) (by decide) dX2_measureCircle_69 ?_
      have hv_5 := hX (ln - 1)
      refine lv_aload_n hx hb dX2_measureCircle_70 rfl (lv_at hl 4 rfl) ?_
      refine va_get (D := (dC, dI)) (ci := 2) (v := .ref ax) (C := RX2) (T := TX2) (N := 12) hx hb hg inX2 hown hK hP 0 rfl rfl 4 (by decide) (hg _ wl_X2_19) (fun _ h9 => h9) rfl dX2_measureCircle_71 ?_
      refine lv_iconst (v := zi (0)) hx hb dX2_measureCircle_74 rfl ?_
      refine zz_iald hx hb hK hP 1 0 rfl rfl (0) (by omega) (by omega) (by decide) dX2_measureCircle_75 ?_
      have hv_6 := hX (0)
      refine zz_isub hx hb dX2_measureCircle_76 ?_
      refine zz_i2l hx hb (by omega) dX2_measureCircle_77 ?_
      refine lv_lstore (lv' := [(7, .long (zl ((xs (ln - 1)) - (xs (0))))), (5, .long (zl ((ys (ln / 2)) - (ys (0))))), (3, .long (zl ((xs (ln / 2)) - (xs (0))))), (2, .int (zi (((ln - 1 : Nat) : Int)))), (1, .int (zi (((ln / 2 : Nat) : Int)))), (0, .ref x0)]) hx hb dX2_measureCircle_78 hl (by decide) rfl (fun ls hl => ?_)
      refine lv_aload_n hx hb dX2_measureCircle_80 rfl (lv_at hl 5 rfl) ?_
      refine va_get (D := (dC, dI)) (ci := 2) (v := .ref ay) (C := RX2) (T := TX2) (N := 12) hx hb hg inX2 hown hK hP 0 rfl rfl 5 (by decide) (hg _ wl_X2_22) (fun _ h9 => h9) rfl dX2_measureCircle_81 ?_
      refine lv_iload_n hx hb dX2_measureCircle_84 rfl (lv_at hl 3 rfl) ?_
      refine zz_iald hx hb hK hP 2 0 rfl rfl (ln - 1) (by omega) (by omega) (by decide) dX2_measureCircle_85 ?_
      have hv_7 := hY (ln - 1)
      refine lv_aload_n hx hb dX2_measureCircle_86 rfl (lv_at hl 5 rfl) ?_
      refine va_get (D := (dC, dI)) (ci := 2) (v := .ref ay) (C := RX2) (T := TX2) (N := 12) hx hb hg inX2 hown hK hP 0 rfl rfl 5 (by decide) (hg _ wl_X2_22) (fun _ h9 => h9) rfl dX2_measureCircle_87 ?_
      refine lv_iconst (v := zi (0)) hx hb dX2_measureCircle_90 rfl ?_
      refine zz_iald hx hb hK hP 2 0 rfl rfl (0) (by omega) (by omega) (by decide) dX2_measureCircle_91 ?_
      have hv_8 := hY (0)
      refine zz_isub hx hb dX2_measureCircle_92 ?_
      refine zz_i2l hx hb (by omega) dX2_measureCircle_93 ?_
      refine lv_lstore (lv' := [(9, .long (zl ((ys (ln - 1)) - (ys (0))))), (7, .long (zl ((xs (ln - 1)) - (xs (0))))), (5, .long (zl ((ys (ln / 2)) - (ys (0))))), (3, .long (zl ((xs (ln / 2)) - (xs (0))))), (2, .int (zi (((ln - 1 : Nat) : Int)))), (1, .int (zi (((ln / 2 : Nat) : Int)))), (0, .ref x0)]) hx hb dX2_measureCircle_94 hl (by decide) rfl (fun ls hl => ?_)
      refine lv_lload_n hx hb dX2_measureCircle_96 rfl (lv_at hl 3 rfl) ?_
      refine lv_lload hx hb dX2_measureCircle_97 (lv_at hl 0 rfl) ?_
      refine zz_lmul hx hb dX2_measureCircle_99 ?_
      refine lv_lload hx hb dX2_measureCircle_100 (lv_at hl 2 rfl) ?_
      refine lv_lload hx hb dX2_measureCircle_102 (lv_at hl 1 rfl) ?_
      refine zz_lmul hx hb dX2_measureCircle_104 ?_
      refine zz_lsub hx hb dX2_measureCircle_105 ?_
      refine zz_topl (z := c_crs xs ys (ln / 2) (ln - 1)) (congrArg zl rfl) ?_
      refine lv_lstore (lv' := [(11, .long (zl (c_crs xs ys (ln / 2) (ln - 1)))), (9, .long (zl ((ys (ln - 1)) - (ys (0))))), (7, .long (zl ((xs (ln - 1)) - (xs (0))))), (5, .long (zl ((ys (ln / 2)) - (ys (0))))), (3, .long (zl ((xs (ln / 2)) - (xs (0))))), (2, .int (zi (((ln - 1 : Nat) : Int)))), (1, .int (zi (((ln / 2 : Nat) : Int)))), (0, .ref x0)]) hx hb dX2_measureCircle_106 hl (by decide) rfl (fun ls hl => ?_)
      refine lv_lload hx hb dX2_measureCircle_108 (lv_at hl 0 rfl) ?_
      refine lv_lconst (v := zl (0)) hx hb dX2_measureCircle_110 (by decide) ?_
      refine zz_lcmp_ne (tgt := 116) hx hb (by omega) (by omega) dX2_measureCircle_111 dX2_measureCircle_112 (by decide) (fun c_111 => ?_) (fun c_111 => ?_)
      · refine lv_lload_n hx hb dX2_measureCircle_116 rfl (lv_at hl 4 rfl) ?_
        refine lv_lload hx hb dX2_measureCircle_117 (lv_at hl 3 rfl) ?_
        refine rdS (As := [.long (zl ((xs (ln / 2)) - (xs (0)))), .long (zl ((ys (ln / 2)) - (ys (0))))]) (rest := []) (n := 2) hx hb hml hown hg (c_X2_squareOfLength l ((xs (ln / 2)) - (xs (0))) ((ys (ln / 2)) - (ys (0)))) (gwS wl_X2_195 wt_X2_squareOfLength wi_X2 wc_X2_squareOfLength) rfl rfl (by decide +kernel) ⟨Nat.le_of_ble_eq_true rfl, Nat.le_of_ble_eq_true rfl⟩ rfl hl.1 rfl (Nat.le_of_ble_eq_true rfl) dX2_measureCircle_119 ⟨Nat.zero_le _, Nat.zero_le _⟩ ?_
        refine lv_lload hx hb dX2_measureCircle_122 (lv_at hl 2 rfl) ?_
        refine lv_lload hx hb dX2_measureCircle_124 (lv_at hl 1 rfl) ?_
        refine rdS (As := [.long (zl ((xs (ln - 1)) - (xs (0)))), .long (zl ((ys (ln - 1)) - (ys (0))))]) (rest := [.long (zl (c_sq ((xs (ln / 2)) - (xs (0))) ((ys (ln / 2)) - (ys (0)))))]) (n := 2) hx hb hml hown hg (c_X2_squareOfLength l ((xs (ln - 1)) - (xs (0))) ((ys (ln - 1)) - (ys (0)))) (gwS wl_X2_195 wt_X2_squareOfLength wi_X2 wc_X2_squareOfLength) rfl rfl (by decide +kernel) ⟨Nat.le_of_ble_eq_true rfl, Nat.le_of_ble_eq_true rfl⟩ rfl hl.1 rfl (Nat.le_of_ble_eq_true rfl) dX2_measureCircle_126 ⟨Nat.zero_le _, Nat.zero_le _⟩ ?_
        refine zz_lmul hx hb dX2_measureCircle_129 ?_
        refine lv_lload hx hb dX2_measureCircle_130 (lv_at hl 2 rfl) ?_
        refine lv_lload_n hx hb dX2_measureCircle_132 rfl (lv_at hl 4 rfl) ?_
        refine zz_lsub hx hb dX2_measureCircle_133 ?_
        refine lv_lload hx hb dX2_measureCircle_134 (lv_at hl 1 rfl) ?_
        refine lv_lload hx hb dX2_measureCircle_136 (lv_at hl 3 rfl) ?_
        refine zz_lsub hx hb dX2_measureCircle_138 ?_
        refine rdS (As := [.long (zl (((xs (ln - 1)) - (xs (0))) - ((xs (ln / 2)) - (xs (0))))), .long (zl (((ys (ln - 1)) - (ys (0))) - ((ys (ln / 2)) - (ys (0)))))]) (rest := [.long (zl ((c_sq ((xs (ln / 2)) - (xs (0))) ((ys (ln / 2)) - (ys (0)))) * (c_sq ((xs (ln - 1)) - (xs (0))) ((ys (ln - 1)) - (ys (0))))))]) (n := 2) hx hb hml hown hg (c_X2_squareOfLength l (((xs (ln - 1)) - (xs (0))) - ((xs (ln / 2)) - (xs (0)))) (((ys (ln - 1)) - (ys (0))) - ((ys (ln / 2)) - (ys (0))))) (gwS wl_X2_195 wt_X2_squareOfLength wi_X2 wc_X2_squareOfLength) rfl rfl (by decide +kernel) ⟨Nat.le_of_ble_eq_true rfl, Nat.le_of_ble_eq_true rfl⟩ rfl hl.1 rfl (Nat.le_of_ble_eq_true rfl) dX2_measureCircle_139 ⟨Nat.zero_le _, Nat.zero_le _⟩ ?_
        refine zz_lmul hx hb dX2_measureCircle_142 ?_
        refine zz_topl (z := ((c_prd xs ys (ln / 2) (ln - 1)).toNat : Int)) (congrArg zl (Int.toNat_of_nonneg hpb.1).symm) ?_
        refine lv_lstore (lv' := [(13, .long (zl (((c_prd xs ys (ln / 2) (ln - 1)).toNat : Int)))), (11, .long (zl (c_crs xs ys (ln / 2) (ln - 1)))), (9, .long (zl ((ys (ln - 1)) - (ys (0))))), (7, .long (zl ((xs (ln - 1)) - (xs (0))))), (5, .long (zl ((ys (ln / 2)) - (ys (0))))), (3, .long (zl ((xs (ln / 2)) - (xs (0))))), (2, .int (zi (((ln - 1 : Nat) : Int)))), (1, .int (zi (((ln / 2 : Nat) : Int)))), (0, .ref x0)]) hx hb dX2_measureCircle_143 hl (by decide) rfl (fun ls hl => ?_)
        refine lv_aload_n hx hb dX2_measureCircle_145 rfl (lv_at hl 8 rfl) ?_
        refine va_get (D := (dC, dI)) (ci := 2) (v := .ref fr) (C := RX2) (T := TX2) (N := 12) hx hb hg inX2 hown hK hP 0 rfl rfl 11 (by decide) (hg _ wl_X2_37) (fun _ h9 => h9) rfl dX2_measureCircle_146 ?_
        refine lv_lload hx hb dX2_measureCircle_149 (lv_at hl 0 rfl) ?_
        refine lv_ldc2 (v := 4) hx hb hown (hg _ wl_X2_199) dX2_measureCircle_151 ?_
        refine zz_topl (z := 4) (by decide) ?_
        refine lv_lload hx hb dX2_measureCircle_154 (lv_at hl 1 rfl) ?_
        refine zz_lmul hx hb dX2_measureCircle_156 ?_
        refine lv_lload hx hb dX2_measureCircle_157 (lv_at hl 1 rfl) ?_
        refine zz_lmul hx hb dX2_measureCircle_159 ?_
        refine zz_topl (z := ((4 * c_crs xs ys (ln / 2) (ln - 1) * c_crs xs ys (ln / 2) (ln - 1)).toNat : Int)) (congrArg zl (Int.toNat_of_nonneg (by have := (c_4_bd hcb c_111).1; omega)).symm) ?_
        refine wrV (As := [.long (zl (((c_prd xs ys (ln / 2) (ln - 1)).toNat : Int))), .long (zl (((4 * c_crs xs ys (ln / 2) (ln - 1) * c_crs xs ys (ln / 2) (ln - 1)).toNat : Int)))]) (rest := []) (n := 2) (ws' := [(x0, .inr (2, [.ref pa, .int (zi ((pn : Int))), .ref ba, .int (zi ((bn : Int))), .ref ax, .ref ay, .int (zi ((ln : Int))), .ref sp, .ref ss, .int (zi ((sn : Int))), .ref vs, .ref fr])), (ax, .inl (cA, 20, .inl (zA (xs)))), (ay, .inl (cA, 20, .inl (zA (ys)))), (fr, .inr (0, [.long (zl ((((fr_add (0, 1) (c_prd xs ys (ln / 2) (ln - 1)).toNat (4 * c_crs xs ys (ln / 2) (ln - 1) * c_crs xs ys (ln / 2) (ln - 1)).toNat).1 : Nat) : Int))), .long (zl ((((fr_add (0, 1) (c_prd xs ys (ln / 2) (ln - 1)).toNat (4 * c_crs xs ys (ln / 2) (ln - 1) * c_crs xs ys (ln / 2) (ln - 1)).toNat).2 : Nat) : Int)))]))]) hx hb hml hown hg (c_fr_add l dC dI H.size fr (0, 1) ((c_prd xs ys (ln / 2) (ln - 1)).toNat) ((4 * c_crs xs ys (ln / 2) (ln - 1) * c_crs xs ys (ln / 2) (ln - 1)).toNat) (by have := (c_4_bd hcb c_111); omega) (by omega) (by have := (c_4_bd hcb c_111); omega) (c_ok (by omega) (by have := (c_4_bd hcb c_111); omega))) (gwV wl_X2_201 wm_X0_add we_X0_add wi_X0 wc_X0_add) rfl rfl (by decide +kernel) ⟨Nat.le_of_ble_eq_true rfl, Nat.le_of_ble_eq_true rfl⟩ (hK.sub [] rfl) hP hD hS hA [3] rfl (by decide) [(false, 0), (false, 1), (false, 2), (true, 0)] rfl (by decide) rfl 0 rfl rfl rfl rfl hl.1 rfl (Nat.le_of_ble_eq_true rfl) dX2_measureCircle_160 ⟨Nat.zero_le _, Nat.zero_le _⟩ (fun H locs hP hD hS => ?_)
        have hP9 : va_P (dC, dI) vwCl [(x0, .inr (2, [.ref pa, .int (zi ((pn : Int))), .ref ba, .int (zi ((bn : Int))), .ref ax, .ref ay, .int (zi ((ln : Int))), .ref sp, .ref ss, .int (zi ((sn : Int))), .ref vs, .ref fr])), (ax, .inl (cA, 20, .inl (zA (xs)))), (ay, .inl (cA, 20, .inl (zA (ys)))), (fr, .inr (0, [.long (zl ((((c_cir xs ys ln).1 : Nat) : Int))), .long (zl ((((c_cir xs ys ln).2 : Nat) : Int)))]))] H := by unfold c_cir; rw [if_neg c_111]; exact hP
        rw [hQQ]
        exact wr_v hx hb hr hlocks hP9 hS dX2_measureCircle_163
      · have hP9 : va_P (dC, dI) vwCl [(x0, .inr (2, [.ref pa, .int (zi ((pn : Int))), .ref ba, .int (zi ((bn : Int))), .ref ax, .ref ay, .int (zi ((ln : Int))), .ref sp, .ref ss, .int (zi ((sn : Int))), .ref vs, .ref fr])), (ax, .inl (cA, 20, .inl (zA (xs)))), (ay, .inl (cA, 20, .inl (zA (ys)))), (fr, .inr (0, [.long (zl ((((c_cir xs ys ln).1 : Nat) : Int))), .long (zl ((((c_cir xs ys ln).2 : Nat) : Int)))]))] H := by unfold c_cir; rw [if_pos c_111]; exact hP
        rw [hQQ]
        exact wr_v hx hb hr hlocks hP9 hS dX2_measureCircle_115
    · exact False.elim (by omega)

abbrev rt_X2_circle : Room := { frames := 8, cells := 1, slots := 6, locals := 140 }
set_option maxHeartbeats 4000000 in
set_option maxRecDepth 100000 in
theorem t_circle_I (l : Launch) (hl0 : l.stackTraces = false) (dC : Nat → ClassId) (dI : Nat → Nat → Nat) (x0 pa ba ax ay sp ss vs fr : Nat) (pn bn ln sn : Nat) (part : Int) (h_part : -2147483648 ≤ part ∧ part < 2147483648) (hbad : ¬ (part = 0 ∨ part = 1)) : ThM l yX2_circle cX2_circle 2 ((Option.some Jvm.ClassFile.FieldType.long)) rt_X2_circle (PcT [.ref x0, .int (zi (part))] (dC, dI) vwCl [(x0, .inr (2, [.ref pa, .int (zi ((pn : Int))), .ref ba, .int (zi ((bn : Int))), .ref ax, .ref ay, .int (zi ((ln : Int))), .ref sp, .ref ss, .int (zi ((sn : Int))), .ref vs, .ref fr]))] []) KI := by
  refine vx_ofW (cc := cX2_circle) (maxL := 2) (ret := ((Option.some Jvm.ClassFile.FieldType.long))) (by decide) rfl ?_
  intro p e s m args below meth c s₁ B hml hno hv
  obtain ⟨hargs, hP, hK, hE⟩ := hv
  have hx := B.exec
  have hb := B.bytes
  have hr := B.returns
  have hts := atoms_spec (ws := Cond.code yX2_circle cX2_circle 2 ((Option.some Jvm.ClassFile.FieldType.long)) :: gw) B.pre
  have hg : ∀ w ∈ gw, w.before args s = true := fun w h => hts w (List.mem_cons_of_mem _ h)
  have hown : s.vm.findClass RX2 = some m.cls := findClass_of_methodNamed B.named
  have hlocks := B.notSynchronized
  show W p l e rt_X2_circle s m args below meth c s.heap [] 0 0 _ _
  have hl := lv_entry ([.ref x0, .int (zi (part))]) (n := 2) (Nat.le_of_ble_eq_true rfl)
  rw [show entryFrame m args 2 = entryFrame m ([.ref x0, .int (zi (part))] : List Value).toArray 2 by rw [hargs], lg_entry_eq]
  generalize (lg_sl ([.ref x0, .int (zi (part))]) ++ List.replicate (2 - (lg_sl ([.ref x0, .int (zi (part))])).length) Slot.unset).toArray = ls at hl ⊢
  have hl : lv_has ls 2 [(0, .ref x0), (1, .int (zi (part)))] := hl
  obtain ⟨QQ, hQQ⟩ : ∃ Q, Q = vx_MQ below QF (XK KI) args s 1 6 (fun _ => False) := ⟨_, rfl⟩
  rw [← hQQ]
  refine lv_iload_n hx hb dX2_circle_0 rfl (lv_at hl 1 rfl) ?_
  rw [hQQ]
  exact thS (As := [.int (zi (part))]) (rest := []) (n := 1) hx hb hml hown hg (t_X2_needOneOfTwo l hl0 (part) h_part hbad) (gwS wl_X2_74 wt_X2_needOneOfTwo wi_X2 wc_X2_needOneOfTwo) rfl rfl (by decide +kernel) ⟨Nat.le_of_ble_eq_true rfl, Nat.le_of_ble_eq_true rfl⟩ hE rfl hl.1 rfl (Nat.le_of_ble_eq_true rfl) dX2_circle_1 ⟨Nat.le_of_ble_eq_true rfl, Nat.le_of_ble_eq_true rfl⟩ hno hlocks

set_option maxHeartbeats 4000000 in
set_option maxRecDepth 100000 in
theorem t_circle_S (l : Launch) (hl0 : l.stackTraces = false) (dC : Nat → ClassId) (dI : Nat → Nat → Nat) (x0 pa ba ax ay sp ss vs fr : Nat) (pn bn ln sn : Nat) (part : Int) (hp9 : part = 0 ∨ part = 1) (hln : ln ≤ 20) (hbad : ¬ 3 ≤ ln) : ThM l yX2_circle cX2_circle 2 ((Option.some Jvm.ClassFile.FieldType.long)) rt_X2_circle (PcT [.ref x0, .int (zi (part))] (dC, dI) vwCl [(x0, .inr (2, [.ref pa, .int (zi ((pn : Int))), .ref ba, .int (zi ((bn : Int))), .ref ax, .ref ay, .int (zi ((ln : Int))), .ref sp, .ref ss, .int (zi ((sn : Int))), .ref vs, .ref fr]))] []) KS := by
  refine vx_ofW (cc := cX2_circle) (maxL := 2) (ret := ((Option.some Jvm.ClassFile.FieldType.long))) (by decide) rfl ?_
  intro p e s m args below meth c s₁ B hml hno hv
  obtain ⟨hargs, hP, hK, hE⟩ := hv
  have hx := B.exec
  have hb := B.bytes
  have hr := B.returns
  have hts := atoms_spec (ws := Cond.code yX2_circle cX2_circle 2 ((Option.some Jvm.ClassFile.FieldType.long)) :: gw) B.pre
  have hg : ∀ w ∈ gw, w.before args s = true := fun w h => hts w (List.mem_cons_of_mem _ h)
  have hown : s.vm.findClass RX2 = some m.cls := findClass_of_methodNamed B.named
  have hlocks := B.notSynchronized
  show W p l e rt_X2_circle s m args below meth c s.heap [] 0 0 _ _
  have hl := lv_entry ([.ref x0, .int (zi (part))]) (n := 2) (Nat.le_of_ble_eq_true rfl)
  rw [show entryFrame m args 2 = entryFrame m ([.ref x0, .int (zi (part))] : List Value).toArray 2 by rw [hargs], lg_entry_eq]
  generalize (lg_sl ([.ref x0, .int (zi (part))]) ++ List.replicate (2 - (lg_sl ([.ref x0, .int (zi (part))])).length) Slot.unset).toArray = ls at hl ⊢
  have hl : lv_has ls 2 [(0, .ref x0), (1, .int (zi (part)))] := hl
  obtain ⟨QQ, hQQ⟩ : ∃ Q, Q = vx_MQ below QF (XK KS) args s 1 6 (fun _ => False) := ⟨_, rfl⟩
  rw [← hQQ]
  refine lv_iload_n hx hb dX2_circle_0 rfl (lv_at hl 1 rfl) ?_
  refine rdS (As := [.int (zi (part))]) (rest := []) (n := 1) hx hb hml hown hg (c_X2_needOneOfTwo l (part) hp9) (gwS wl_X2_74 wt_X2_needOneOfTwo wi_X2 wc_X2_needOneOfTwo) rfl rfl (by decide +kernel) ⟨Nat.le_of_ble_eq_true rfl, Nat.le_of_ble_eq_true rfl⟩ rfl hl.1 rfl (Nat.le_of_ble_eq_true rfl) dX2_circle_1 ⟨Nat.zero_le _, Nat.zero_le _⟩ ?_
  refine lv_aload_n hx hb dX2_circle_4 rfl (lv_at hl 0 rfl) ?_
  rw [hQQ]
  exact thV (As := []) (rest := []) (n := 0) hx hb hml hown hg (t_X2_needCircle l hl0 dC dI x0 pa ba ax ay sp ss vs fr pn bn ln sn hln hbad) (gwV wl_X2_155 wm_X2_needCircle we_X2_needCircle wi_X2 wc_X2_needCircle) rfl rfl (by decide +kernel) ⟨Nat.le_of_ble_eq_true rfl, Nat.le_of_ble_eq_true rfl⟩ (hK.sub [] rfl) (hP.sub [0] rfl) hE 0 rfl rfl rfl rfl hl.1 rfl (Nat.le_of_ble_eq_true rfl) dX2_circle_5 ⟨Nat.le_of_ble_eq_true rfl, Nat.le_of_ble_eq_true rfl⟩ hno hlocks

abbrev rm_X2_circle : Room := { frames := 7, cells := 0, slots := 0, locals := 120 }
set_option maxHeartbeats 4000000 in
set_option maxRecDepth 100000 in
theorem c_circle (l : Launch) (dC : Nat → ClassId) (dI : Nat → Nat → Nat) (sz : Nat) (x0 pa ba ax ay sp ss vs fr : Nat) (pn bn ln sn : Nat) (cA : ClassId) (xs ys : Nat → Int) (a b : Int) (part : Int) (hl3 : 3 ≤ ln ∧ ln ≤ 20) (hX : ∀ j, -200 ≤ xs j ∧ xs j ≤ 200) (hY : ∀ j, -200 ≤ ys j ∧ ys j ≤ 200) (hp9 : part = 0 ∨ part = 1) : Met l yX2_circle (Cond.code yX2_circle cX2_circle 2 ((Option.some Jvm.ClassFile.FieldType.long)) :: gw) rm_X2_circle (PcW [.ref x0, .int (zi (part))] (dC, dI) vwCl [(x0, .inr (2, [.ref pa, .int (zi ((pn : Int))), .ref ba, .int (zi ((bn : Int))), .ref ax, .ref ay, .int (zi ((ln : Int))), .ref sp, .ref ss, .int (zi ((sn : Int))), .ref vs, .ref fr])), (ax, .inl (cA, 20, .inl (zA (xs)))), (ay, .inl (cA, 20, .inl (zA (ys)))), (fr, .inr (0, [.long (zl (a)), .long (zl (b))]))] [(cA, .int)] sz) (WrQ (some (.long (zl (if part = 0 then (((c_cir xs ys ln).1 : Nat) : Int) else (((c_cir xs ys ln).2 : Nat) : Int))))) (dC, dI) vwCl [(x0, .inr (2, [.ref pa, .int (zi ((pn : Int))), .ref ba, .int (zi ((bn : Int))), .ref ax, .ref ay, .int (zi ((ln : Int))), .ref sp, .ref ss, .int (zi ((sn : Int))), .ref vs, .ref fr])), (ax, .inl (cA, 20, .inl (zA (xs)))), (ay, .inl (cA, 20, .inl (zA (ys)))), (fr, .inr (0, [.long (zl ((((c_cir xs ys ln).1 : Nat) : Int))), .long (zl ((((c_cir xs ys ln).2 : Nat) : Int)))]))] (va_A [(x0, .inr (2, [.ref pa, .int (zi ((pn : Int))), .ref ba, .int (zi ((bn : Int))), .ref ax, .ref ay, .int (zi ((ln : Int))), .ref sp, .ref ss, .int (zi ((sn : Int))), .ref vs, .ref fr])), (ax, .inl (cA, 20, .inl (zA (xs)))), (ay, .inl (cA, 20, .inl (zA (ys)))), (fr, .inr (0, [.long (zl (a)), .long (zl (b))]))] sz)) 0 0 (va_A [(x0, .inr (2, [.ref pa, .int (zi ((pn : Int))), .ref ba, .int (zi ((bn : Int))), .ref ax, .ref ay, .int (zi ((ln : Int))), .ref sp, .ref ss, .int (zi ((sn : Int))), .ref vs, .ref fr])), (ax, .inl (cA, 20, .inl (zA (xs)))), (ay, .inl (cA, 20, .inl (zA (ys)))), (fr, .inr (0, [.long (zl (a)), .long (zl (b))]))] sz) := by
  refine Met.ofW (cc := cX2_circle) (maxL := 2) (ret := ((Option.some Jvm.ClassFile.FieldType.long))) (by decide) rfl ?_
  intro p e s m args below meth c s₁ B hml hv
  obtain ⟨hargs, hsz, hP, hK, hD0⟩ := hv
  have hx := B.exec
  have hb := B.bytes
  have hr := B.returns
  have hts := atoms_spec (ws := Cond.code yX2_circle cX2_circle 2 ((Option.some Jvm.ClassFile.FieldType.long)) :: gw) B.pre
  have hg : ∀ w ∈ gw, w.before args s = true := fun w h => hts w (List.mem_cons_of_mem _ h)
  have hown : s.vm.findClass RX2 = some m.cls := findClass_of_methodNamed B.named
  have hlocks := B.notSynchronized
  subst hsz
  have hD := hD0.self (sz := s.heap.size)
  generalize hAe : va_A [(x0, .inr (2, [.ref pa, .int (zi ((pn : Int))), .ref ba, .int (zi ((bn : Int))), .ref ax, .ref ay, .int (zi ((ln : Int))), .ref sp, .ref ss, .int (zi ((sn : Int))), .ref vs, .ref fr])), (ax, .inl (cA, 20, .inl (zA (xs)))), (ay, .inl (cA, 20, .inl (zA (ys)))), (fr, .inr (0, [.long (zl (a)), .long (zl (b))]))] s.heap.size = A at hD ⊢
  have hA : ∀ q : Nat, s.heap.size ≤ q → A q := fun q h => by rw [← hAe]; exact Or.inr h
  show W p l e rm_X2_circle s m args below meth c s.heap [] 0 0 _ _
  have hl := lv_entry ([.ref x0, .int (zi (part))]) (n := 2) (Nat.le_of_ble_eq_true rfl)
  rw [show entryFrame m args 2 = entryFrame m ([.ref x0, .int (zi (part))] : List Value).toArray 2 by rw [hargs], lg_entry_eq]
  generalize (lg_sl ([.ref x0, .int (zi (part))]) ++ List.replicate (2 - (lg_sl ([.ref x0, .int (zi (part))])).length) Slot.unset).toArray = ls at hl ⊢
  have hl : lv_has ls 2 [(0, .ref x0), (1, .int (zi (part)))] := hl
  obtain ⟨QQ, hQQ⟩ : ∃ Q, Q = MQ below (WrQ (some (.long (zl (if part = 0 then (((c_cir xs ys ln).1 : Nat) : Int) else (((c_cir xs ys ln).2 : Nat) : Int))))) (dC, dI) vwCl [(x0, .inr (2, [.ref pa, .int (zi ((pn : Int))), .ref ba, .int (zi ((bn : Int))), .ref ax, .ref ay, .int (zi ((ln : Int))), .ref sp, .ref ss, .int (zi ((sn : Int))), .ref vs, .ref fr])), (ax, .inl (cA, 20, .inl (zA (xs)))), (ay, .inl (cA, 20, .inl (zA (ys)))), (fr, .inr (0, [.long (zl ((((c_cir xs ys ln).1 : Nat) : Int))), .long (zl ((((c_cir xs ys ln).2 : Nat) : Int)))]))] A) args s 0 0 A := ⟨_, rfl⟩
  rw [← hQQ]
  obtain ⟨H, hHe⟩ : ∃ H : Heap, H = s.heap := ⟨_, rfl⟩
  obtain ⟨locs, hlc⟩ : ∃ x : List Loc, x = [] := ⟨_, rfl⟩
  have hS : va_S A s.heap H locs := by rw [hHe, hlc]; exact va_S.rf
  have hP : va_P (dC, dI) vwCl [(x0, .inr (2, [.ref pa, .int (zi ((pn : Int))), .ref ba, .int (zi ((bn : Int))), .ref ax, .ref ay, .int (zi ((ln : Int))), .ref sp, .ref ss, .int (zi ((sn : Int))), .ref vs, .ref fr])), (ax, .inl (cA, 20, .inl (zA (xs)))), (ay, .inl (cA, 20, .inl (zA (ys)))), (fr, .inr (0, [.long (zl (a)), .long (zl (b))]))] H := by rw [hHe]; exact hP
  have hD : va_D A [(x0, .inr (2, [.ref pa, .int (zi ((pn : Int))), .ref ba, .int (zi ((bn : Int))), .ref ax, .ref ay, .int (zi ((ln : Int))), .ref sp, .ref ss, .int (zi ((sn : Int))), .ref vs, .ref fr])), (ax, .inl (cA, 20, .inl (zA (xs)))), (ay, .inl (cA, 20, .inl (zA (ys)))), (fr, .inr (0, [.long (zl (a)), .long (zl (b))]))] := hD
  rw [← hHe, ← hlc]
  refine lv_iload_n hx hb dX2_circle_0 rfl (lv_at hl 1 rfl) ?_
  refine rdS (As := [.int (zi (part))]) (rest := []) (n := 1) hx hb hml hown hg (c_X2_needOneOfTwo l (part) hp9) (gwS wl_X2_74 wt_X2_needOneOfTwo wi_X2 wc_X2_needOneOfTwo) rfl rfl (by decide +kernel) ⟨Nat.le_of_ble_eq_true rfl, Nat.le_of_ble_eq_true rfl⟩ rfl hl.1 rfl (Nat.le_of_ble_eq_true rfl) dX2_circle_1 ⟨Nat.zero_le _, Nat.zero_le _⟩ ?_
  refine lv_aload_n hx hb dX2_circle_4 rfl (lv_at hl 0 rfl) ?_
  refine rdV (As := []) (rest := []) (n := 0) hx hb hml hown hg (c_X2_needCircle l dC dI x0 pa ba ax ay sp ss vs fr pn bn ln sn hl3.2 hl3.1) (gwV wl_X2_155 wm_X2_needCircle we_X2_needCircle wi_X2 wc_X2_needCircle) rfl rfl (by decide +kernel) ⟨Nat.le_of_ble_eq_true rfl, Nat.le_of_ble_eq_true rfl⟩ (hK.sub [] rfl) (hP.sub [0] rfl) 0 rfl rfl rfl rfl hl.1 rfl (Nat.le_of_ble_eq_true rfl) dX2_circle_5 ⟨Nat.zero_le _, Nat.zero_le _⟩ ?_
  refine lv_aload_n hx hb dX2_circle_8 rfl (lv_at hl 0 rfl) ?_
  refine wrV (As := []) (rest := []) (n := 0) (ws' := [(x0, .inr (2, [.ref pa, .int (zi ((pn : Int))), .ref ba, .int (zi ((bn : Int))), .ref ax, .ref ay, .int (zi ((ln : Int))), .ref sp, .ref ss, .int (zi ((sn : Int))), .ref vs, .ref fr])), (ax, .inl (cA, 20, .inl (zA (xs)))), (ay, .inl (cA, 20, .inl (zA (ys)))), (fr, .inr (0, [.long (zl ((((c_cir xs ys ln).1 : Nat) : Int))), .long (zl ((((c_cir xs ys ln).2 : Nat) : Int)))]))]) hx hb hml hown hg (c_measureCircle l dC dI H.size x0 pa ba ax ay sp ss vs fr pn bn ln sn cA xs ys a b hl3 hX hY) (gwV wl_X2_158 wm_X2_measureCircle we_X2_measureCircle wi_X2 wc_X2_measureCircle) rfl rfl (by decide +kernel) ⟨Nat.le_of_ble_eq_true rfl, Nat.le_of_ble_eq_true rfl⟩ (hK.sub [0] rfl) hP hD hS hA [0, 1, 2, 3] rfl (by decide) [(true, 0), (true, 1), (true, 2), (true, 3)] rfl (by decide) rfl 0 rfl rfl rfl rfl hl.1 rfl (Nat.le_of_ble_eq_true rfl) dX2_circle_9 ⟨Nat.zero_le _, Nat.zero_le _⟩ (fun H locs hP hD hS => ?_)
  refine lv_aload_n hx hb dX2_circle_12 rfl (lv_at hl 0 rfl) ?_
  refine va_get (D := (dC, dI)) (ci := 2) (v := .ref fr) (C := RX2) (T := TX2) (N := 12) hx hb hg inX2 hown hK hP 0 rfl rfl 11 (by decide) (hg _ wl_X2_37) (fun _ h9 => h9) rfl dX2_circle_13 ?_
  refine lv_iload_n hx hb dX2_circle_16 rfl (lv_at hl 1 rfl) ?_
  refine rdV (As := [.int (zi (part))]) (rest := []) (n := 1) hx hb hml hown hg (c_X0_tell l dC dI fr ((((c_cir xs ys ln).1 : Nat) : Int)) ((((c_cir xs ys ln).2 : Nat) : Int)) (part) (by omega)) (gwV wl_X2_100 wm_X0_tell we_X0_tell wi_X0 wc_X0_tell) rfl rfl (by decide +kernel) ⟨Nat.le_of_ble_eq_true rfl, Nat.le_of_ble_eq_true rfl⟩ (hK.sub [] rfl) (hP.sub [3] rfl) 0 rfl rfl rfl rfl hl.1 rfl (Nat.le_of_ble_eq_true rfl) dX2_circle_17 ⟨Nat.zero_le _, Nat.zero_le _⟩ ?_
  have hP9 : va_P (dC, dI) vwCl [(x0, .inr (2, [.ref pa, .int (zi ((pn : Int))), .ref ba, .int (zi ((bn : Int))), .ref ax, .ref ay, .int (zi ((ln : Int))), .ref sp, .ref ss, .int (zi ((sn : Int))), .ref vs, .ref fr])), (ax, .inl (cA, 20, .inl (zA (xs)))), (ay, .inl (cA, 20, .inl (zA (ys)))), (fr, .inr (0, [.long (zl ((((c_cir xs ys ln).1 : Nat) : Int))), .long (zl ((((c_cir xs ys ln).2 : Nat) : Int)))]))] H := hP
  rw [hQQ]
  exact wr_l hx hb hr hlocks rfl hP9 hS dX2_circle_20

theorem zm_bd {n : Nat} (h : n < 2147483648) : -2147483648 ≤ (n : Int) ∧ (n : Int) < 2147483648 := by omega
theorem r_lt {k b : Nat} (h1 : 1 ≤ b) (hb : b ≤ 27) (h : k * 2 ^ b < 2 ^ 27) : k * 2 ^ b + 2 ^ (b - 1) < 2 ^ 27 := by
  obtain ⟨c, rfl⟩ : ∃ c, b = c + 1 := ⟨b - 1, by omega⟩
  have h1 : (2 : Nat) ^ 27 = 2 ^ (26 - c) * 2 ^ (c + 1) := by rw [← Nat.pow_add, show 26 - c + (c + 1) = 27 by omega]
  rw [Nat.add_sub_cancel]
  rw [h1] at h ⊢
  have h2 : k < 2 ^ (26 - c) := Nat.lt_of_mul_lt_mul_right h
  have h3 : (k + 1) * 2 ^ (c + 1) ≤ 2 ^ (26 - c) * 2 ^ (c + 1) := Nat.mul_le_mul_right _ h2
  rw [Nat.add_mul, Nat.one_mul] at h3
  have h4 : 2 ^ c < 2 ^ (c + 1) := Nat.pow_lt_pow_right (by decide) (Nat.lt_succ_self c)
  omega
theorem r_sq {x : Nat} (h : x < 2 ^ 27) : ((x : Nat) : Int) * ((x : Nat) : Int) ≥ 0 ∧ ((x : Nat) : Int) * ((x : Nat) : Int) ≤ 18014398509481984 := by
  have h1 : x * x ≤ 2 ^ 27 * 2 ^ 27 := Nat.mul_le_mul (Nat.le_of_lt h) (Nat.le_of_lt h)
  have h2 : (2 : Nat) ^ 27 * 2 ^ 27 = 18014398509481984 := by decide
  have h3 : ((x : Nat) : Int) * ((x : Nat) : Int) = ((x * x : Nat) : Int) := by push_cast; rfl
  omega
theorem r_y {k b : Nat} (h1 : 1 ≤ b) : k * 2 ^ b + 2 ^ (b - 1) = (2 * k + 1) * 2 ^ (b - 1) := by
  obtain ⟨c, rfl⟩ : ∃ c, b = c + 1 := ⟨b - 1, by omega⟩
  rw [Nat.add_sub_cancel, Nat.pow_succ, Nat.add_mul, Nat.one_mul, Nat.mul_comm 2 k, Nat.mul_assoc, Nat.mul_comm (2 ^ c) 2]
theorem r_n {k b : Nat} (h1 : 1 ≤ b) : k * 2 ^ b = (2 * k) * 2 ^ (b - 1) := by
  obtain ⟨c, rfl⟩ : ∃ c, b = c + 1 := ⟨b - 1, by omega⟩
  rw [Nat.add_sub_cancel, Nat.pow_succ, Nat.mul_comm 2 k, Nat.mul_assoc, Nat.mul_comm (2 ^ c) 2]
theorem r_le {x v : Nat} (h : ¬ (v : Int) < ((x : Nat) : Int) * ((x : Nat) : Int)) : x * x ≤ v := by
  have h3 : ((x : Nat) : Int) * ((x : Nat) : Int) = ((x * x : Nat) : Int) := by push_cast; rfl
  rw [h3] at h
  omega
theorem r_gt {x v : Nat} (h : (v : Int) < ((x : Nat) : Int) * ((x : Nat) : Int)) : ¬ x * x ≤ v := by
  have h3 : ((x : Nat) : Int) * ((x : Nat) : Int) = ((x * x : Nat) : Int) := by push_cast; rfl
  rw [h3] at h
  omega
theorem r_sy {v b r : Nat} (h1 : 1 ≤ b) (h : (r + 2 ^ (b - 1)) * (r + 2 ^ (b - 1)) ≤ v) : r_rt v b r = r_rt v (b - 1) (r + 2 ^ (b - 1)) := by
  obtain ⟨c, rfl⟩ : ∃ c, b = c + 1 := ⟨b - 1, by omega⟩
  rw [r_rt, Nat.add_sub_cancel] at *
  rw [if_pos h]
theorem r_sn {v b r : Nat} (h1 : 1 ≤ b) (h : ¬ (r + 2 ^ (b - 1)) * (r + 2 ^ (b - 1)) ≤ v) : r_rt v b r = r_rt v (b - 1) r := by
  obtain ⟨c, rfl⟩ : ∃ c, b = c + 1 := ⟨b - 1, by omega⟩
  rw [r_rt, Nat.add_sub_cancel] at *
  rw [if_neg h]
abbrev rm_X2_rootDown : Room := { frames := 0, cells := 0, slots := 0, locals := 0 }
set_option maxHeartbeats 4000000 in
set_option maxRecDepth 100000 in
theorem c_X2_rootDown (l : Launch) (v : Nat) (hv : v < 9223372036854775808) : Met l yX2_rootDown (Cond.code yX2_rootDown cX2_rootDown 6 ((Option.some Jvm.ClassFile.FieldType.int)) :: gw) rm_X2_rootDown (PcS [.long (zl ((v : Int)))]) (RdQ (some (.int (zi ((r_rt v 27 0 : Nat) : Int))))) 0 0 (fun _ => False) := by
  refine Met.ofW (cc := cX2_rootDown) (maxL := 6) (ret := ((Option.some Jvm.ClassFile.FieldType.int))) (by decide) rfl ?_
  intro p e s m args below meth c s₁ B hml hv
  obtain ⟨hargs, -⟩ := hv
  have hx := B.exec
  have hb := B.bytes
  have hr := B.returns
  have hts := atoms_spec (ws := Cond.code yX2_rootDown cX2_rootDown 6 ((Option.some Jvm.ClassFile.FieldType.int)) :: gw) B.pre
  have hg : ∀ w ∈ gw, w.before args s = true := fun w h => hts w (List.mem_cons_of_mem _ h)
  have hown : s.vm.findClass RX2 = some m.cls := findClass_of_methodNamed B.named
  have hlocks := B.notSynchronized
  show W p l e rm_X2_rootDown s m args below meth c s.heap [] 0 0 _ _
  have hl := lv_entry ([.long (zl ((v : Int)))]) (n := 6) (Nat.le_of_ble_eq_true rfl)
  rw [show entryFrame m args 6 = entryFrame m ([.long (zl ((v : Int)))] : List Value).toArray 6 by rw [hargs], lg_entry_eq]
  generalize (lg_sl ([.long (zl ((v : Int)))]) ++ List.replicate (6 - (lg_sl ([.long (zl ((v : Int)))])).length) Slot.unset).toArray = ls at hl ⊢
  have hl : lv_has ls 6 [(0, .long (zl ((v : Int))))] := hl
  obtain ⟨QQ, hQQ⟩ : ∃ Q, Q = MQ below (RdQ (some (.int (zi ((r_rt v 27 0 : Nat) : Int))))) args s 0 0 (fun _ => False) := ⟨_, rfl⟩
  rw [← hQQ]
  refine lv_iconst (v := zi (0)) hx hb dX2_rootDown_0 rfl ?_
  refine lv_istore_n (lv' := [(2, .int (zi (0))), (0, .long (zl ((v : Int))))]) hx hb dX2_rootDown_1 rfl hl (by decide) rfl (fun ls hl => ?_)
  refine lv_bipush (v := zi (26)) hx hb dX2_rootDown_2 (by decide) ?_
  refine lv_istore_n (lv' := [(3, .int (zi (26))), (2, .int (zi (0))), (0, .long (zl ((v : Int))))]) hx hb dX2_rootDown_4 rfl hl (by decide) rfl (fun ls hl => ?_)
  have key_5 : ∀ (n_ : Nat) (b k : Nat), b ≤ 27 → k * 2 ^ b < 2 ^ 27 → r_rt v b (k * 2 ^ b) = r_rt v 27 0 → b < n_ → ∀ (ls : Array Slot), lv_has ls 6 [(3, .int (zi ((b : Int) - 1))), (2, .int (zi (((k * 2 ^ b : Nat) : Int)))), (0, .long (zl ((v : Int))))] → W p l e rm_X2_rootDown s m args below meth c s.heap [] 0 0 QQ (F0 m 5 ls []) := by
    intro n_
    induction n_ with
    | zero => intro b k hb9 hk ht hm_; exact absurd hm_ (Nat.not_lt_zero _)
    | succ n_ ih =>
      intro b k hb9 hk ht hm_ ls hl
      refine lv_iload_n hx hb dX2_rootDown_5 rfl (lv_at hl 0 rfl) ?_
      refine zz_if_lt (tgt := 37) hx hb (by omega) dX2_rootDown_6 (by decide) (fun c_6 => ?_) (fun c_6 => ?_)
      · have hb0 : b = 0 := by omega
        subst hb0
        refine lv_iload_n hx hb dX2_rootDown_37 rfl (lv_at hl 1 rfl) ?_
        rw [hQQ]
        exact rd_i hx hb hr hlocks (by rw [← ht, r_rt]) dX2_rootDown_38
      · have hb1 : 1 ≤ b := by omega
        have hk2 : k * 2 ^ b + 2 ^ (b - 1) < 2 ^ 27 := r_lt hb1 hb9 hk
        have hk3 : (2 : Nat) ^ 27 = 134217728 := by decide
        refine lv_iload_n hx hb dX2_rootDown_9 rfl (lv_at hl 1 rfl) ?_
        refine lv_iconst (v := zi (1)) hx hb dX2_rootDown_10 rfl ?_
        refine lv_iload_n hx hb dX2_rootDown_11 rfl (lv_at hl 0 rfl) ?_
        refine lv_ishl hx hb dX2_rootDown_12 ?_
        refine lv_ior hx hb dX2_rootDown_13 ?_
        refine zz_topi (z := ((k * 2 ^ b + 2 ^ (b - 1) : Nat) : Int)) (r_or hb1 hb9 (by omega)) ?_
        refine zz_i2l hx hb (zm_bd (by omega)) dX2_rootDown_14 ?_
        refine lv_lstore (lv' := [(4, .long (zl (((k * 2 ^ b + 2 ^ (b - 1) : Nat) : Int)))), (3, .int (zi ((b : Int) - 1))), (2, .int (zi (((k * 2 ^ b : Nat) : Int)))), (0, .long (zl ((v : Int))))]) hx hb dX2_rootDown_15 hl (by decide) rfl (fun ls hl => ?_)
        refine lv_lload hx hb dX2_rootDown_17 (lv_at hl 0 rfl) ?_
        refine lv_lload hx hb dX2_rootDown_19 (lv_at hl 0 rfl) ?_
        refine zz_lmul hx hb dX2_rootDown_21 ?_
        refine lv_lload_n hx hb dX2_rootDown_22 rfl (lv_at hl 3 rfl) ?_
        refine zz_lcmp_gt (tgt := 31) hx hb (by have := r_sq hk2; omega) (by omega) dX2_rootDown_23 dX2_rootDown_24 (by decide) (fun c_23 => ?_) (fun c_23 => ?_)
        · refine lv_iinc (v := zi (((b : Int) - 1) + (-1))) (lv' := [(3, .int (zi (((b : Int) - 1) + (-1)))), (4, .long (zl (((k * 2 ^ b + 2 ^ (b - 1) : Nat) : Int)))), (2, .int (zi (((k * 2 ^ b : Nat) : Int)))), (0, .long (zl ((v : Int))))]) hx hb dX2_rootDown_31 hl (k := 1) rfl (zi_add _ _) (by decide) rfl (fun ls hl => ?_)
          refine lv_goto (tgt := 5) hx hb dX2_rootDown_34 (by decide) ?_
          rw [show ((b : Int) - 1) + (-1) = ((b - 1 : Nat) : Int) - 1 by omega] at hl
          have hst := r_n (k := k) hb1
          rw [hst] at hl
          exact ih (b - 1) (2 * k) (by omega) (by rw [← hst]; exact hk) (by rw [← ht, r_sn hb1 (r_gt c_23), hst]) (by omega) ls (lv_sub hl [0, 2, 3] rfl)
        · refine lv_lload hx hb dX2_rootDown_27 (lv_at hl 0 rfl) ?_
          refine zz_l2i hx hb dX2_rootDown_29 ?_
          refine lv_istore_n (lv' := [(2, .int (zi (((k * 2 ^ b + 2 ^ (b - 1) : Nat) : Int)))), (4, .long (zl (((k * 2 ^ b + 2 ^ (b - 1) : Nat) : Int)))), (3, .int (zi ((b : Int) - 1))), (0, .long (zl ((v : Int))))]) hx hb dX2_rootDown_30 rfl hl (by decide) rfl (fun ls hl => ?_)
          refine lv_iinc (v := zi (((b : Int) - 1) + (-1))) (lv' := [(3, .int (zi (((b : Int) - 1) + (-1)))), (2, .int (zi (((k * 2 ^ b + 2 ^ (b - 1) : Nat) : Int)))), (4, .long (zl (((k * 2 ^ b + 2 ^ (b - 1) : Nat) : Int)))), (0, .long (zl ((v : Int))))]) hx hb dX2_rootDown_31 hl (k := 2) rfl (zi_add _ _) (by decide) rfl (fun ls hl => ?_)
          refine lv_goto (tgt := 5) hx hb dX2_rootDown_34 (by decide) ?_
          rw [show ((b : Int) - 1) + (-1) = ((b - 1 : Nat) : Int) - 1 by omega] at hl
          have hst := r_y (k := k) hb1
          rw [hst] at hl
          exact ih (b - 1) (2 * k + 1) (by omega) (by rw [← hst]; exact hk2) (by rw [← ht, r_sy hb1 (r_le c_23), hst]) (by omega) ls (lv_sub hl [0, 1, 3] rfl)
  exact key_5 _ 27 0 (Nat.le_refl _) (by decide) (by rw [Nat.zero_mul]) (Nat.lt_succ_self _) ls (lv_sub hl [0, 1, 2] rfl)

theorem fr_add_bd {u q : Nat} (hq : 0 < q) : 0 < (fr_add (0, 1) u q).2 ∧ (fr_add (0, 1) u q).1 ≤ u ∧ (fr_add (0, 1) u q).2 ≤ q := by
  have hg : 0 < Nat.gcd u q := Nat.gcd_pos_of_pos_right u hq
  have hq1 : 0 < q / Nat.gcd u q := Nat.div_pos (Nat.gcd_le_right u hq) hg
  have hd : 0 < fr_d 1 u q := by unfold fr_d; omega
  have hd2 : fr_d 1 u q ≤ q := by unfold fr_d; have := Nat.div_le_self q (Nat.gcd u q); omega
  have hn2 : fr_n 0 1 u q ≤ u := by unfold fr_n; have := Nat.div_le_self u (Nat.gcd u q); omega
  have hg2 : 0 < Nat.gcd (fr_n 0 1 u q) (fr_d 1 u q) := Nat.gcd_pos_of_pos_right _ hd
  refine ⟨Nat.div_pos (Nat.gcd_le_right _ hd) hg2, ?_, ?_⟩
  · exact Nat.le_trans (Nat.div_le_self _ _) hn2
  · exact Nat.le_trans (Nat.div_le_self _ _) hd2
theorem c_cir_bd {xs ys : Nat → Int} (hX : ∀ j, -200 ≤ xs j ∧ xs j ≤ 200) (hY : ∀ j, -200 ≤ ys j ∧ ys j ≤ 200) (n : Nat) : 0 < (c_cir xs ys n).2 ∧ (c_cir xs ys n).1 ≤ 32768000000000000 ∧ (c_cir xs ys n).2 ≤ 409600000000 := by
  unfold c_cir
  have hcb := c_crs_bd hX hY (n / 2) (n - 1)
  have hpb := c_prd_bd hX hY (n / 2) (n - 1)
  split
  · exact ⟨Nat.one_pos, by decide, by decide⟩
  · rename_i h
    have h4 := c_4_bd hcb h
    have := fr_add_bd (u := (c_prd xs ys (n / 2) (n - 1)).toNat) (q := (4 * c_crs xs ys (n / 2) (n - 1) * c_crs xs ys (n / 2) (n - 1)).toNat) (by omega)
    omega
abbrev rt_X2_curve : Room := { frames := 8, cells := 1, slots := 6, locals := 140 }
set_option maxHeartbeats 4000000 in
set_option maxRecDepth 100000 in
theorem t_curve_S (l : Launch) (hl0 : l.stackTraces = false) (dC : Nat → ClassId) (dI : Nat → Nat → Nat) (x0 pa ba ax ay sp ss vs fr : Nat) (pn bn ln sn : Nat) (hln : ln ≤ 20) (hbad : ¬ 3 ≤ ln) : ThM l yX2_curve cX2_curve 1 ((Option.some Jvm.ClassFile.FieldType.int)) rt_X2_curve (PcT [.ref x0] (dC, dI) vwCl [(x0, .inr (2, [.ref pa, .int (zi ((pn : Int))), .ref ba, .int (zi ((bn : Int))), .ref ax, .ref ay, .int (zi ((ln : Int))), .ref sp, .ref ss, .int (zi ((sn : Int))), .ref vs, .ref fr]))] []) KS := by
  refine vx_ofW (cc := cX2_curve) (maxL := 1) (ret := ((Option.some Jvm.ClassFile.FieldType.int))) (by decide) rfl ?_
  intro p e s m args below meth c s₁ B hml hno hv
  obtain ⟨hargs, hP, hK, hE⟩ := hv
  have hx := B.exec
  have hb := B.bytes
  have hr := B.returns
  have hts := atoms_spec (ws := Cond.code yX2_curve cX2_curve 1 ((Option.some Jvm.ClassFile.FieldType.int)) :: gw) B.pre
  have hg : ∀ w ∈ gw, w.before args s = true := fun w h => hts w (List.mem_cons_of_mem _ h)
  have hown : s.vm.findClass RX2 = some m.cls := findClass_of_methodNamed B.named
  have hlocks := B.notSynchronized
  show W p l e rt_X2_curve s m args below meth c s.heap [] 0 0 _ _
  have hl := lv_entry ([.ref x0]) (n := 1) (Nat.le_of_ble_eq_true rfl)
  rw [show entryFrame m args 1 = entryFrame m ([.ref x0] : List Value).toArray 1 by rw [hargs], lg_entry_eq]
  generalize (lg_sl ([.ref x0]) ++ List.replicate (1 - (lg_sl ([.ref x0])).length) Slot.unset).toArray = ls at hl ⊢
  have hl : lv_has ls 1 [(0, .ref x0)] := hl
  obtain ⟨QQ, hQQ⟩ : ∃ Q, Q = vx_MQ below QF (XK KS) args s 1 6 (fun _ => False) := ⟨_, rfl⟩
  rw [← hQQ]
  refine lv_aload_n hx hb dX2_curve_0 rfl (lv_at hl 0 rfl) ?_
  rw [hQQ]
  exact thV (As := []) (rest := []) (n := 0) hx hb hml hown hg (t_X2_needCircle l hl0 dC dI x0 pa ba ax ay sp ss vs fr pn bn ln sn hln hbad) (gwV wl_X2_155 wm_X2_needCircle we_X2_needCircle wi_X2 wc_X2_needCircle) rfl rfl (by decide +kernel) ⟨Nat.le_of_ble_eq_true rfl, Nat.le_of_ble_eq_true rfl⟩ (hK.sub [] rfl) (hP.sub [0] rfl) hE 0 rfl rfl rfl rfl hl.1 rfl (Nat.le_of_ble_eq_true rfl) dX2_curve_1 ⟨Nat.le_of_ble_eq_true rfl, Nat.le_of_ble_eq_true rfl⟩ hno hlocks

abbrev rm_X2_curve : Room := { frames := 7, cells := 0, slots := 0, locals := 120 }
set_option maxHeartbeats 4000000 in
set_option maxRecDepth 100000 in
theorem c_curve (l : Launch) (dC : Nat → ClassId) (dI : Nat → Nat → Nat) (sz : Nat) (x0 pa ba ax ay sp ss vs fr : Nat) (pn bn ln sn : Nat) (cA : ClassId) (xs ys : Nat → Int) (a b : Int) (hl3 : 3 ≤ ln ∧ ln ≤ 20) (hX : ∀ j, -200 ≤ xs j ∧ xs j ≤ 200) (hY : ∀ j, -200 ≤ ys j ∧ ys j ≤ 200) : Met l yX2_curve (Cond.code yX2_curve cX2_curve 1 ((Option.some Jvm.ClassFile.FieldType.int)) :: gw) rm_X2_curve (PcW [.ref x0] (dC, dI) vwCl [(x0, .inr (2, [.ref pa, .int (zi ((pn : Int))), .ref ba, .int (zi ((bn : Int))), .ref ax, .ref ay, .int (zi ((ln : Int))), .ref sp, .ref ss, .int (zi ((sn : Int))), .ref vs, .ref fr])), (ax, .inl (cA, 20, .inl (zA (xs)))), (ay, .inl (cA, 20, .inl (zA (ys)))), (fr, .inr (0, [.long (zl (a)), .long (zl (b))]))] [(cA, .int)] sz) (WrQ (some (.int (zi ((r_rt ((c_cir xs ys ln).1 / (c_cir xs ys ln).2) 27 0 : Nat) : Int)))) (dC, dI) vwCl [(x0, .inr (2, [.ref pa, .int (zi ((pn : Int))), .ref ba, .int (zi ((bn : Int))), .ref ax, .ref ay, .int (zi ((ln : Int))), .ref sp, .ref ss, .int (zi ((sn : Int))), .ref vs, .ref fr])), (ax, .inl (cA, 20, .inl (zA (xs)))), (ay, .inl (cA, 20, .inl (zA (ys)))), (fr, .inr (0, [.long (zl ((((c_cir xs ys ln).1 : Nat) : Int))), .long (zl ((((c_cir xs ys ln).2 : Nat) : Int)))]))] (va_A [(x0, .inr (2, [.ref pa, .int (zi ((pn : Int))), .ref ba, .int (zi ((bn : Int))), .ref ax, .ref ay, .int (zi ((ln : Int))), .ref sp, .ref ss, .int (zi ((sn : Int))), .ref vs, .ref fr])), (ax, .inl (cA, 20, .inl (zA (xs)))), (ay, .inl (cA, 20, .inl (zA (ys)))), (fr, .inr (0, [.long (zl (a)), .long (zl (b))]))] sz)) 0 0 (va_A [(x0, .inr (2, [.ref pa, .int (zi ((pn : Int))), .ref ba, .int (zi ((bn : Int))), .ref ax, .ref ay, .int (zi ((ln : Int))), .ref sp, .ref ss, .int (zi ((sn : Int))), .ref vs, .ref fr])), (ax, .inl (cA, 20, .inl (zA (xs)))), (ay, .inl (cA, 20, .inl (zA (ys)))), (fr, .inr (0, [.long (zl (a)), .long (zl (b))]))] sz) := by
  refine Met.ofW (cc := cX2_curve) (maxL := 1) (ret := ((Option.some Jvm.ClassFile.FieldType.int))) (by decide) rfl ?_
  intro p e s m args below meth c s₁ B hml hv
  obtain ⟨hargs, hsz, hP, hK, hD0⟩ := hv
  have hx := B.exec
  have hb := B.bytes
  have hr := B.returns
  have hts := atoms_spec (ws := Cond.code yX2_curve cX2_curve 1 ((Option.some Jvm.ClassFile.FieldType.int)) :: gw) B.pre
  have hg : ∀ w ∈ gw, w.before args s = true := fun w h => hts w (List.mem_cons_of_mem _ h)
  have hown : s.vm.findClass RX2 = some m.cls := findClass_of_methodNamed B.named
  have hlocks := B.notSynchronized
  subst hsz
  have hD := hD0.self (sz := s.heap.size)
  generalize hAe : va_A [(x0, .inr (2, [.ref pa, .int (zi ((pn : Int))), .ref ba, .int (zi ((bn : Int))), .ref ax, .ref ay, .int (zi ((ln : Int))), .ref sp, .ref ss, .int (zi ((sn : Int))), .ref vs, .ref fr])), (ax, .inl (cA, 20, .inl (zA (xs)))), (ay, .inl (cA, 20, .inl (zA (ys)))), (fr, .inr (0, [.long (zl (a)), .long (zl (b))]))] s.heap.size = A at hD ⊢
  have hA : ∀ q : Nat, s.heap.size ≤ q → A q := fun q h => by rw [← hAe]; exact Or.inr h
  show W p l e rm_X2_curve s m args below meth c s.heap [] 0 0 _ _
  have hl := lv_entry ([.ref x0]) (n := 1) (Nat.le_of_ble_eq_true rfl)
  rw [show entryFrame m args 1 = entryFrame m ([.ref x0] : List Value).toArray 1 by rw [hargs], lg_entry_eq]
  generalize (lg_sl ([.ref x0]) ++ List.replicate (1 - (lg_sl ([.ref x0])).length) Slot.unset).toArray = ls at hl ⊢
  have hl : lv_has ls 1 [(0, .ref x0)] := hl
  obtain ⟨QQ, hQQ⟩ : ∃ Q, Q = MQ below (WrQ (some (.int (zi ((r_rt ((c_cir xs ys ln).1 / (c_cir xs ys ln).2) 27 0 : Nat) : Int)))) (dC, dI) vwCl [(x0, .inr (2, [.ref pa, .int (zi ((pn : Int))), .ref ba, .int (zi ((bn : Int))), .ref ax, .ref ay, .int (zi ((ln : Int))), .ref sp, .ref ss, .int (zi ((sn : Int))), .ref vs, .ref fr])), (ax, .inl (cA, 20, .inl (zA (xs)))), (ay, .inl (cA, 20, .inl (zA (ys)))), (fr, .inr (0, [.long (zl ((((c_cir xs ys ln).1 : Nat) : Int))), .long (zl ((((c_cir xs ys ln).2 : Nat) : Int)))]))] A) args s 0 0 A := ⟨_, rfl⟩
  rw [← hQQ]
  obtain ⟨H, hHe⟩ : ∃ H : Heap, H = s.heap := ⟨_, rfl⟩
  obtain ⟨locs, hlc⟩ : ∃ x : List Loc, x = [] := ⟨_, rfl⟩
  have hS : va_S A s.heap H locs := by rw [hHe, hlc]; exact va_S.rf
  have hP : va_P (dC, dI) vwCl [(x0, .inr (2, [.ref pa, .int (zi ((pn : Int))), .ref ba, .int (zi ((bn : Int))), .ref ax, .ref ay, .int (zi ((ln : Int))), .ref sp, .ref ss, .int (zi ((sn : Int))), .ref vs, .ref fr])), (ax, .inl (cA, 20, .inl (zA (xs)))), (ay, .inl (cA, 20, .inl (zA (ys)))), (fr, .inr (0, [.long (zl (a)), .long (zl (b))]))] H := by rw [hHe]; exact hP
  have hD : va_D A [(x0, .inr (2, [.ref pa, .int (zi ((pn : Int))), .ref ba, .int (zi ((bn : Int))), .ref ax, .ref ay, .int (zi ((ln : Int))), .ref sp, .ref ss, .int (zi ((sn : Int))), .ref vs, .ref fr])), (ax, .inl (cA, 20, .inl (zA (xs)))), (ay, .inl (cA, 20, .inl (zA (ys)))), (fr, .inr (0, [.long (zl (a)), .long (zl (b))]))] := hD
  rw [← hHe, ← hlc]
  have hcc := c_cir_bd hX hY ln
  have hdv : (c_cir xs ys ln).1 / (c_cir xs ys ln).2 < 9223372036854775808 := by
    have := Nat.div_le_self (c_cir xs ys ln).1 (c_cir xs ys ln).2
    omega
  refine lv_aload_n hx hb dX2_curve_0 rfl (lv_at hl 0 rfl) ?_
  refine rdV (As := []) (rest := []) (n := 0) hx hb hml hown hg (c_X2_needCircle l dC dI x0 pa ba ax ay sp ss vs fr pn bn ln sn hl3.2 hl3.1) (gwV wl_X2_155 wm_X2_needCircle we_X2_needCircle wi_X2 wc_X2_needCircle) rfl rfl (by decide +kernel) ⟨Nat.le_of_ble_eq_true rfl, Nat.le_of_ble_eq_true rfl⟩ (hK.sub [] rfl) (hP.sub [0] rfl) 0 rfl rfl rfl rfl hl.1 rfl (Nat.le_of_ble_eq_true rfl) dX2_curve_1 ⟨Nat.zero_le _, Nat.zero_le _⟩ ?_
  refine lv_aload_n hx hb dX2_curve_4 rfl (lv_at hl 0 rfl) ?_
  refine wrV (As := []) (rest := []) (n := 0) (ws' := [(x0, .inr (2, [.ref pa, .int (zi ((pn : Int))), .ref ba, .int (zi ((bn : Int))), .ref ax, .ref ay, .int (zi ((ln : Int))), .ref sp, .ref ss, .int (zi ((sn : Int))), .ref vs, .ref fr])), (ax, .inl (cA, 20, .inl (zA (xs)))), (ay, .inl (cA, 20, .inl (zA (ys)))), (fr, .inr (0, [.long (zl ((((c_cir xs ys ln).1 : Nat) : Int))), .long (zl ((((c_cir xs ys ln).2 : Nat) : Int)))]))]) hx hb hml hown hg (c_measureCircle l dC dI H.size x0 pa ba ax ay sp ss vs fr pn bn ln sn cA xs ys a b hl3 hX hY) (gwV wl_X2_158 wm_X2_measureCircle we_X2_measureCircle wi_X2 wc_X2_measureCircle) rfl rfl (by decide +kernel) ⟨Nat.le_of_ble_eq_true rfl, Nat.le_of_ble_eq_true rfl⟩ (hK.sub [0] rfl) hP hD hS hA [0, 1, 2, 3] rfl (by decide) [(true, 0), (true, 1), (true, 2), (true, 3)] rfl (by decide) rfl 0 rfl rfl rfl rfl hl.1 rfl (Nat.le_of_ble_eq_true rfl) dX2_curve_5 ⟨Nat.zero_le _, Nat.zero_le _⟩ (fun H locs hP hD hS => ?_)
  refine lv_aload_n hx hb dX2_curve_8 rfl (lv_at hl 0 rfl) ?_
  refine va_get (D := (dC, dI)) (ci := 2) (v := .ref fr) (C := RX2) (T := TX2) (N := 12) hx hb hg inX2 hown hK hP 0 rfl rfl 11 (by decide) (hg _ wl_X2_37) (fun _ h9 => h9) rfl dX2_curve_9 ?_
  refine rdV (As := []) (rest := []) (n := 0) hx hb hml hown hg (c_X0_roundedDown l dC dI fr (c_cir xs ys ln).1 (c_cir xs ys ln).2 (by omega) (by omega) (by omega)) (gwV wl_X2_161 wm_X0_roundedDown we_X0_roundedDown wi_X0 wc_X0_roundedDown) rfl rfl (by decide +kernel) ⟨Nat.le_of_ble_eq_true rfl, Nat.le_of_ble_eq_true rfl⟩ (hK.sub [] rfl) (hP.sub [3] rfl) 0 rfl rfl rfl rfl hl.1 rfl (Nat.le_of_ble_eq_true rfl) dX2_curve_12 ⟨Nat.zero_le _, Nat.zero_le _⟩ ?_
  refine rdS (As := [.long (zl ((((c_cir xs ys ln).1 / (c_cir xs ys ln).2 : Nat) : Int)))]) (rest := []) (n := 1) hx hb hml hown hg (c_X2_rootDown l ((c_cir xs ys ln).1 / (c_cir xs ys ln).2) hdv) (gwS wl_X2_164 wt_X2_rootDown wi_X2 wc_X2_rootDown) rfl rfl (by decide +kernel) ⟨Nat.le_of_ble_eq_true rfl, Nat.le_of_ble_eq_true rfl⟩ rfl hl.1 rfl (Nat.le_of_ble_eq_true rfl) dX2_curve_15 ⟨Nat.zero_le _, Nat.zero_le _⟩ ?_
  have hP9 : va_P (dC, dI) vwCl [(x0, .inr (2, [.ref pa, .int (zi ((pn : Int))), .ref ba, .int (zi ((bn : Int))), .ref ax, .ref ay, .int (zi ((ln : Int))), .ref sp, .ref ss, .int (zi ((sn : Int))), .ref vs, .ref fr])), (ax, .inl (cA, 20, .inl (zA (xs)))), (ay, .inl (cA, 20, .inl (zA (ys)))), (fr, .inr (0, [.long (zl ((((c_cir xs ys ln).1 : Nat) : Int))), .long (zl ((((c_cir xs ys ln).2 : Nat) : Int)))]))] H := hP
  rw [hQQ]
  exact wr_i hx hb hr hlocks rfl hP9 hS dX2_curve_18

abbrev rm_X2_sumOfShares : Room := { frames := 0, cells := 0, slots := 0, locals := 0 }
set_option maxHeartbeats 4000000 in
set_option maxRecDepth 100000 in
theorem c_sumOfShares (l : Launch) (dC : Nat → ClassId) (dI : Nat → Nat → Nat) (x0 pa ba ax ay sp ss vs fr : Nat) (pn bn ln sn : Nat) (cA : ClassId) (spf ssf : Nat → Int) (q : Int) (hsn : sn ≤ 60) (hP9 : ∀ j, 0 ≤ spf j ∧ spf j ≤ 5) (hS9 : ∀ j, 0 ≤ ssf j ∧ ssf j ≤ 1000) (hq : -2147483648 ≤ q ∧ q < 2147483648) : Met l yX2_sumOfShares (Cond.code yX2_sumOfShares cX2_sumOfShares 4 ((Option.some Jvm.ClassFile.FieldType.int)) :: gw) rm_X2_sumOfShares (PcR [.ref x0, .int (zi (q))] (dC, dI) vwCl [(x0, .inr (2, [.ref pa, .int (zi ((pn : Int))), .ref ba, .int (zi ((bn : Int))), .ref ax, .ref ay, .int (zi ((ln : Int))), .ref sp, .ref ss, .int (zi ((sn : Int))), .ref vs, .ref fr])), (sp, .inl (cA, 60, .inl (zA (spf)))), (ss, .inl (cA, 60, .inl (zA (ssf))))] [(cA, .int)]) (RdQ (some (.int (zi (s_sum spf ssf q sn))))) 0 0 (fun _ => False) := by
  refine Met.ofW (cc := cX2_sumOfShares) (maxL := 4) (ret := ((Option.some Jvm.ClassFile.FieldType.int))) (by decide) rfl ?_
  intro p e s m args below meth c s₁ B hml hv
  obtain ⟨hargs, hP, hK⟩ := hv
  have hx := B.exec
  have hb := B.bytes
  have hr := B.returns
  have hts := atoms_spec (ws := Cond.code yX2_sumOfShares cX2_sumOfShares 4 ((Option.some Jvm.ClassFile.FieldType.int)) :: gw) B.pre
  have hg : ∀ w ∈ gw, w.before args s = true := fun w h => hts w (List.mem_cons_of_mem _ h)
  have hown : s.vm.findClass RX2 = some m.cls := findClass_of_methodNamed B.named
  have hlocks := B.notSynchronized
  show W p l e rm_X2_sumOfShares s m args below meth c s.heap [] 0 0 _ _
  have hl := lv_entry ([.ref x0, .int (zi (q))]) (n := 4) (Nat.le_of_ble_eq_true rfl)
  rw [show entryFrame m args 4 = entryFrame m ([.ref x0, .int (zi (q))] : List Value).toArray 4 by rw [hargs], lg_entry_eq]
  generalize (lg_sl ([.ref x0, .int (zi (q))]) ++ List.replicate (4 - (lg_sl ([.ref x0, .int (zi (q))])).length) Slot.unset).toArray = ls at hl ⊢
  have hl : lv_has ls 4 [(0, .ref x0), (1, .int (zi (q)))] := hl
  obtain ⟨QQ, hQQ⟩ : ∃ Q, Q = MQ below (RdQ (some (.int (zi (s_sum spf ssf q sn))))) args s 0 0 (fun _ => False) := ⟨_, rfl⟩
  rw [← hQQ]
  refine lv_iconst (v := zi (0)) hx hb dX2_sumOfShares_0 rfl ?_
  refine lv_istore_n (lv' := [(2, .int (zi (0))), (0, .ref x0), (1, .int (zi (q)))]) hx hb dX2_sumOfShares_1 rfl hl (by decide) rfl (fun ls hl => ?_)
  refine lv_iconst (v := zi (0)) hx hb dX2_sumOfShares_2 rfl ?_
  refine lv_istore_n (lv' := [(3, .int (zi (0))), (2, .int (zi (0))), (0, .ref x0), (1, .int (zi (q)))]) hx hb dX2_sumOfShares_3 rfl hl (by decide) rfl (fun ls hl => ?_)
  have key_4 : ∀ (n_ : Nat) (t : Nat), t ≤ sn → sn - t < n_ → ∀ (ls : Array Slot), lv_has ls 4 [(3, .int (zi ((t : Int)))), (2, .int (zi (s_sum spf ssf q t))), (1, .int (zi (q))), (0, .ref x0)] → W p l e rm_X2_sumOfShares s m args below meth c s.heap [] 0 0 QQ (F0 m 4 ls []) := by
    intro n_
    induction n_ with
    | zero => intro t ht hm_; exact absurd hm_ (Nat.not_lt_zero _)
    | succ n_ ih =>
      intro t ht hm_ ls hl
      refine lv_iload_n hx hb dX2_sumOfShares_4 rfl (lv_at hl 0 rfl) ?_
      refine lv_aload_n hx hb dX2_sumOfShares_5 rfl (lv_at hl 3 rfl) ?_
      refine va_get (D := (dC, dI)) (ci := 2) (v := .int (zi ((sn : Int)))) (C := RX2) (T := TX2) (N := 12) hx hb hg inX2 hown hK hP 0 rfl rfl 9 (by decide) (hg _ wl_X2_173) (fun _ h9 => h9) rfl dX2_sumOfShares_6 ?_
      refine zz_icmp_ge (tgt := 37) hx hb (by omega) (by omega) dX2_sumOfShares_9 (by decide) (fun c_9 => ?_) (fun c_9 => ?_)
      · refine lv_iload_n hx hb dX2_sumOfShares_37 rfl (lv_at hl 1 rfl) ?_
        rw [hQQ]
        exact rd_i hx hb hr hlocks (by rw [show t = sn by omega]) dX2_sumOfShares_38
      · refine lv_aload_n hx hb dX2_sumOfShares_12 rfl (lv_at hl 3 rfl) ?_
        refine va_get (D := (dC, dI)) (ci := 2) (v := .ref sp) (C := RX2) (T := TX2) (N := 12) hx hb hg inX2 hown hK hP 0 rfl rfl 7 (by decide) (hg _ wl_X2_25) (fun _ h9 => h9) rfl dX2_sumOfShares_13 ?_
        refine lv_iload_n hx hb dX2_sumOfShares_16 rfl (lv_at hl 0 rfl) ?_
        refine zz_iald hx hb hK hP 1 0 rfl rfl (t) (by omega) (by omega) (by decide) dX2_sumOfShares_17 ?_
        have hv_1 := hP9 (t)
        refine lv_iload_n hx hb dX2_sumOfShares_18 rfl (lv_at hl 2 rfl) ?_
        refine zz_icmp_ne (tgt := 31) hx hb (by omega) (by omega) dX2_sumOfShares_19 (by decide) (fun c_19 => ?_) (fun c_19 => ?_)
        · refine lv_iinc (v := zi (((t : Int)) + (1))) (lv' := [(3, .int (zi (((t : Int)) + (1)))), (2, .int (zi (s_sum spf ssf q t))), (1, .int (zi (q))), (0, .ref x0)]) hx hb dX2_sumOfShares_31 hl (k := 0) rfl (zi_add _ _) (by decide) rfl (fun ls hl => ?_)
          refine lv_goto (tgt := 4) hx hb dX2_sumOfShares_34 (by decide) ?_
          exact ih (t + 1) (by omega) (by omega) ls (lv_sub hl [0, 1, 2, 3] (by simp only [s_sum, if_neg c_19, Int.add_zero]; rfl))
        · refine lv_iload_n hx hb dX2_sumOfShares_22 rfl (lv_at hl 1 rfl) ?_
          refine lv_aload_n hx hb dX2_sumOfShares_23 rfl (lv_at hl 3 rfl) ?_
          refine va_get (D := (dC, dI)) (ci := 2) (v := .ref ss) (C := RX2) (T := TX2) (N := 12) hx hb hg inX2 hown hK hP 0 rfl rfl 8 (by decide) (hg _ wl_X2_28) (fun _ h9 => h9) rfl dX2_sumOfShares_24 ?_
          refine lv_iload_n hx hb dX2_sumOfShares_27 rfl (lv_at hl 0 rfl) ?_
          refine zz_iald hx hb hK hP 2 0 rfl rfl (t) (by omega) (by omega) (by decide) dX2_sumOfShares_28 ?_
          have hv_2 := hS9 (t)
          refine zz_iadd hx hb dX2_sumOfShares_29 ?_
          refine lv_istore_n (lv' := [(2, .int (zi ((s_sum spf ssf q t) + (ssf (t))))), (3, .int (zi ((t : Int)))), (1, .int (zi (q))), (0, .ref x0)]) hx hb dX2_sumOfShares_30 rfl hl (by decide) rfl (fun ls hl => ?_)
          refine lv_iinc (v := zi (((t : Int)) + (1))) (lv' := [(3, .int (zi (((t : Int)) + (1)))), (2, .int (zi ((s_sum spf ssf q t) + (ssf (t))))), (1, .int (zi (q))), (0, .ref x0)]) hx hb dX2_sumOfShares_31 hl (k := 1) rfl (zi_add _ _) (by decide) rfl (fun ls hl => ?_)
          refine lv_goto (tgt := 4) hx hb dX2_sumOfShares_34 (by decide) ?_
          exact ih (t + 1) (by omega) (by omega) ls (lv_sub hl [0, 1, 2, 3] (by simp only [s_sum, if_pos c_19]; rfl))
  exact key_4 _ 0 (Nat.zero_le _) (Nat.lt_succ_self _) ls (lv_sub hl [0, 1, 3, 2] rfl)

abbrev rm_X2_firstWithRoom : Room := { frames := 0, cells := 0, slots := 0, locals := 0 }
set_option maxHeartbeats 4000000 in
set_option maxRecDepth 100000 in
theorem c_firstWithRoom (l : Launch) (dC : Nat → ClassId) (dI : Nat → Nat → Nat) (x0 pa ba ax ay sp ss vs fr : Nat) (pn bn ln sn : Nat) (cA : ClassId) (vf : Nat → Int) (vc : Nat) (share : Int) (hvc : vc ≤ 60) (hV : ∀ j, 0 ≤ vf j ∧ vf j ≤ 1000) (hsh : 0 ≤ share ∧ share ≤ 1000) : Met l yX2_firstWithRoom (Cond.code yX2_firstWithRoom cX2_firstWithRoom 4 ((Option.some Jvm.ClassFile.FieldType.int)) :: gw) rm_X2_firstWithRoom (PcR [.ref x0, .int (zi ((vc : Int))), .int (zi (share))] (dC, dI) vwCl [(x0, .inr (2, [.ref pa, .int (zi ((pn : Int))), .ref ba, .int (zi ((bn : Int))), .ref ax, .ref ay, .int (zi ((ln : Int))), .ref sp, .ref ss, .int (zi ((sn : Int))), .ref vs, .ref fr])), (vs, .inl (cA, 60, .inl (zA (vf))))] [(cA, .int)]) (RdQ (some (.int (zi ((s_first vf share vc 0 : Nat) : Int))))) 0 0 (fun _ => False) := by
  refine Met.ofW (cc := cX2_firstWithRoom) (maxL := 4) (ret := ((Option.some Jvm.ClassFile.FieldType.int))) (by decide) rfl ?_
  intro p e s m args below meth c s₁ B hml hv
  obtain ⟨hargs, hP, hK⟩ := hv
  have hx := B.exec
  have hb := B.bytes
  have hr := B.returns
  have hts := atoms_spec (ws := Cond.code yX2_firstWithRoom cX2_firstWithRoom 4 ((Option.some Jvm.ClassFile.FieldType.int)) :: gw) B.pre
  have hg : ∀ w ∈ gw, w.before args s = true := fun w h => hts w (List.mem_cons_of_mem _ h)
  have hown : s.vm.findClass RX2 = some m.cls := findClass_of_methodNamed B.named
  have hlocks := B.notSynchronized
  show W p l e rm_X2_firstWithRoom s m args below meth c s.heap [] 0 0 _ _
  have hl := lv_entry ([.ref x0, .int (zi ((vc : Int))), .int (zi (share))]) (n := 4) (Nat.le_of_ble_eq_true rfl)
  rw [show entryFrame m args 4 = entryFrame m ([.ref x0, .int (zi ((vc : Int))), .int (zi (share))] : List Value).toArray 4 by rw [hargs], lg_entry_eq]
  generalize (lg_sl ([.ref x0, .int (zi ((vc : Int))), .int (zi (share))]) ++ List.replicate (4 - (lg_sl ([.ref x0, .int (zi ((vc : Int))), .int (zi (share))])).length) Slot.unset).toArray = ls at hl ⊢
  have hl : lv_has ls 4 [(0, .ref x0), (1, .int (zi ((vc : Int)))), (2, .int (zi (share)))] := hl
  obtain ⟨QQ, hQQ⟩ : ∃ Q, Q = MQ below (RdQ (some (.int (zi ((s_first vf share vc 0 : Nat) : Int))))) args s 0 0 (fun _ => False) := ⟨_, rfl⟩
  rw [← hQQ]
  refine lv_iconst (v := zi (0)) hx hb dX2_firstWithRoom_0 rfl ?_
  refine lv_istore_n (lv' := [(3, .int (zi (0))), (0, .ref x0), (1, .int (zi ((vc : Int)))), (2, .int (zi (share)))]) hx hb dX2_firstWithRoom_1 rfl hl (by decide) rfl (fun ls hl => ?_)
  have key_2 : ∀ (n_ : Nat) (t : Nat), t ≤ vc → s_first vf share (vc - t) t = s_first vf share vc 0 → vc - t < n_ → ∀ (ls : Array Slot), lv_has ls 4 [(3, .int (zi ((t : Int)))), (2, .int (zi (share))), (1, .int (zi ((vc : Int)))), (0, .ref x0)] → W p l e rm_X2_firstWithRoom s m args below meth c s.heap [] 0 0 QQ (F0 m 2 ls []) := by
    intro n_
    induction n_ with
    | zero => intro t ht hf hm_; exact absurd hm_ (Nat.not_lt_zero _)
    | succ n_ ih =>
      intro t ht hf hm_ ls hl
      refine lv_iload_n hx hb dX2_firstWithRoom_2 rfl (lv_at hl 0 rfl) ?_
      refine lv_iload_n hx hb dX2_firstWithRoom_3 rfl (lv_at hl 2 rfl) ?_
      refine zz_icmp_ge (tgt := 29) hx hb (by omega) (by omega) dX2_firstWithRoom_4 (by decide) (fun c_4 => ?_) (fun c_4 => ?_)
      · refine lv_iload_n hx hb dX2_firstWithRoom_29 rfl (lv_at hl 2 rfl) ?_
        rw [hQQ]
        exact rd_i hx hb hr hlocks (by rw [← hf, show vc - t = 0 by omega, s_first]; omega) dX2_firstWithRoom_30
      · refine lv_aload_n hx hb dX2_firstWithRoom_7 rfl (lv_at hl 3 rfl) ?_
        refine va_get (D := (dC, dI)) (ci := 2) (v := .ref vs) (C := RX2) (T := TX2) (N := 12) hx hb hg inX2 hown hK hP 0 rfl rfl 10 (by decide) (hg _ wl_X2_31) (fun _ h9 => h9) rfl dX2_firstWithRoom_8 ?_
        refine lv_iload_n hx hb dX2_firstWithRoom_11 rfl (lv_at hl 0 rfl) ?_
        refine zz_iald hx hb hK hP 1 0 rfl rfl (t) (by omega) (by omega) (by decide) dX2_firstWithRoom_12 ?_
        have hv_1 := hV (t)
        refine lv_iload_n hx hb dX2_firstWithRoom_13 rfl (lv_at hl 1 rfl) ?_
        refine zz_iadd hx hb dX2_firstWithRoom_14 ?_
        refine lv_sipush (v := zi (1000)) hx hb dX2_firstWithRoom_15 (by decide) ?_
        refine zz_icmp_gt (tgt := 23) hx hb (by omega) (by omega) dX2_firstWithRoom_18 (by decide) (fun c_18 => ?_) (fun c_18 => ?_)
        · refine lv_iinc (v := zi (((t : Int)) + (1))) (lv' := [(3, .int (zi (((t : Int)) + (1)))), (2, .int (zi (share))), (1, .int (zi ((vc : Int)))), (0, .ref x0)]) hx hb dX2_firstWithRoom_23 hl (k := 0) rfl (zi_add _ _) (by decide) rfl (fun ls hl => ?_)
          refine lv_goto (tgt := 2) hx hb dX2_firstWithRoom_26 (by decide) ?_
          exact ih (t + 1) (by omega) (by rw [← hf, show vc - t = (vc - (t + 1)) + 1 by omega, s_first, if_neg (by omega)]) (by omega) ls (lv_sub hl [0, 1, 2, 3] rfl)
        · refine lv_iload_n hx hb dX2_firstWithRoom_21 rfl (lv_at hl 0 rfl) ?_
          rw [hQQ]
          exact rd_i hx hb hr hlocks (by rw [← hf, show vc - t = (vc - (t + 1)) + 1 by omega, s_first, if_pos (by omega)]) dX2_firstWithRoom_22
  exact key_2 _ 0 (Nat.zero_le _) rfl (Nat.lt_succ_self _) ls (lv_sub hl [0, 3, 2, 1] rfl)
