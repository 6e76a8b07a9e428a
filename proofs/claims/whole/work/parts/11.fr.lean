theorem ma_gcd (a b : Nat) : Nat.gcd b (a % b) = Nat.gcd a b := by
  rw [Nat.gcd_comm b (a % b), ← Nat.gcd_rec, Nat.gcd_comm]
theorem ma_half {a b : Nat} (hb : 0 < b) (h : b ≤ a) : 2 * (a % b) ≤ a := by
  have h1 := Nat.div_add_mod a b
  have h2 := Nat.mod_lt a hb
  have h3 : 1 ≤ a / b := (Nat.one_le_div_iff hb).mpr h
  have h4 : b * 1 ≤ b * (a / b) := Nat.mul_le_mul_left b h3
  omega
theorem ma_prod {a b t : Nat} (hb : 0 < b) (h : b ≤ a) (hp : a * b < 2 ^ (t + 1)) : b * (a % b) < 2 ^ t := by
  have h1 : b * (2 * (a % b)) ≤ b * a := Nat.mul_le_mul_left b (ma_half hb h)
  have h2 : b * (2 * (a % b)) = 2 * (b * (a % b)) := by rw [Nat.mul_left_comm]
  rw [Nat.mul_comm b a] at h1
  rw [Nat.pow_succ] at hp
  omega
theorem ma_first {a b : Nat} (hb : 0 < b) (h : b < 562949953421312) : b * (a % b) < 2 ^ 98 := by
  have h1 : b * (a % b) ≤ b * b := Nat.mul_le_mul_left b (Nat.le_of_lt (Nat.mod_lt a hb))
  have h2 : b * b < 562949953421312 * 562949953421312 := Nat.mul_lt_mul'' h h
  have h3 : (2 : Nat) ^ 98 = 562949953421312 * 562949953421312 := by decide
  omega
/-- what Euclid's loop keeps -/
def ma_E (x y t : Nat) : Prop := t = 0 ∨ (t ≤ 99 ∧ y < x ∧ x * y < 2 ^ (99 - t))
theorem ma_E_step {x y t : Nat} (hy0 : 0 < y) (hy : y < 562949953421312) (h : ma_E x y t) : ma_E y (x % y) (t + 1) := by
  have hm := Nat.mod_lt x hy0
  rcases h with rfl | ⟨h1, h2, h3⟩
  · exact Or.inr ⟨by omega, hm, ma_first hy0 hy⟩
  · have h4 : t ≠ 99 := by
      intro q
      subst q
      have h5 : x * y < 1 := h3
      have h6 : 0 < x * y := Nat.mul_pos (by omega) hy0
      omega
    refine Or.inr ⟨by omega, hm, ?_⟩
    have h7 : 99 - t = (99 - (t + 1)) + 1 := by omega
    rw [h7] at h3
    exact ma_prod hy0 (Nat.le_of_lt h2) h3
theorem ma_E_le {x y t : Nat} (h : ma_E x y t) : t ≤ 99 := by
  rcases h with rfl | ⟨h1, -, -⟩
  · omega
  · exact h1
theorem ma_tmod (x y : Nat) : Int.tmod (x : Int) (y : Int) = ((x % y : Nat) : Int) := by
  rw [Int.tmod_eq_emod_of_nonneg (by omega)]
  exact (Int.natCast_mod x y).symm
abbrev rm_X0_commonDivisor : Room := { frames := 0, cells := 0, slots := 0, locals := 0 }
set_option maxHeartbeats 4000000 in
set_option maxRecDepth 100000 in
theorem c_X0_commonDivisor (l : Launch) (a b : Nat) (ha : a < 9223372036854775808) (hb9 : b < 562949953421312) : Met l yX0_commonDivisor (Cond.code yX0_commonDivisor cX0_commonDivisor 11 ((Option.some Jvm.ClassFile.FieldType.long)) :: gw) rm_X0_commonDivisor (PcS [.long (zl ((a : Int))), .long (zl ((b : Int)))]) (RdQ (some (.long (zl ((Nat.gcd a b : Nat) : Int))))) 0 0 (fun _ => False) := by
  refine Met.ofW (cc := cX0_commonDivisor) (maxL := 11) (ret := ((Option.some Jvm.ClassFile.FieldType.long))) (by decide) rfl ?_
  intro p e s m args below meth c s₁ B hml hv
  obtain ⟨hargs, -⟩ := hv
  have hx := B.exec
  have hb := B.bytes
  have hr := B.returns
  have hts := atoms_spec (ws := Cond.code yX0_commonDivisor cX0_commonDivisor 11 ((Option.some Jvm.ClassFile.FieldType.long)) :: gw) B.pre
  have hg : ∀ w ∈ gw, w.before args s = true := fun w h => hts w (List.mem_cons_of_mem _ h)
  have hown : s.vm.findClass RX0 = some m.cls := findClass_of_methodNamed B.named
  have hlocks := B.notSynchronized
  show W p l e rm_X0_commonDivisor s m args below meth c s.heap [] 0 0 _ _
  have hl := lv_entry ([.long (zl ((a : Int))), .long (zl ((b : Int)))]) (n := 11) (Nat.le_of_ble_eq_true rfl)
  rw [show entryFrame m args 11 = entryFrame m ([.long (zl ((a : Int))), .long (zl ((b : Int)))] : List Value).toArray 11 by rw [hargs], lg_entry_eq]
  generalize (lg_sl ([.long (zl ((a : Int))), .long (zl ((b : Int)))]) ++ List.replicate (11 - (lg_sl ([.long (zl ((a : Int))), .long (zl ((b : Int)))])).length) Slot.unset).toArray = ls at hl ⊢
  have hl : lv_has ls 11 [(0, .long (zl ((a : Int)))), (2, .long (zl ((b : Int))))] := hl
  obtain ⟨QQ, hQQ⟩ : ∃ Q, Q = MQ below (RdQ (some (.long (zl ((Nat.gcd a b : Nat) : Int))))) args s 0 0 (fun _ => False) := ⟨_, rfl⟩
  rw [← hQQ]
  refine lv_lload_n hx hb dX0_commonDivisor_0 rfl (lv_at hl 0 rfl) ?_
  refine lv_lstore (lv' := [(4, .long (zl ((a : Int)))), (0, .long (zl ((a : Int)))), (2, .long (zl ((b : Int))))]) hx hb dX0_commonDivisor_1 hl (by decide) rfl (fun ls hl => ?_)
  refine lv_lload_n hx hb dX0_commonDivisor_3 rfl (lv_at hl 2 rfl) ?_
  refine lv_lstore (lv' := [(6, .long (zl ((b : Int)))), (4, .long (zl ((a : Int)))), (0, .long (zl ((a : Int)))), (2, .long (zl ((b : Int))))]) hx hb dX0_commonDivisor_4 hl (by decide) rfl (fun ls hl => ?_)
  refine lv_iconst (v := zi (0)) hx hb dX0_commonDivisor_6 rfl ?_
  refine lv_istore (lv' := [(8, .int (zi (0))), (6, .long (zl ((b : Int)))), (4, .long (zl ((a : Int)))), (0, .long (zl ((a : Int)))), (2, .long (zl ((b : Int))))]) hx hb dX0_commonDivisor_7 hl (by decide) rfl (fun ls hl => ?_)
  have key_9 : ∀ (n_ : Nat) (x y t : Nat), Nat.gcd x y = Nat.gcd a b → x < 9223372036854775808 → y < 562949953421312 → ma_E x y t → 100 - t < n_ → ∀ (ls : Array Slot), lv_has ls 11 [(8, .int (zi ((t : Int)))), (6, .long (zl ((y : Int)))), (4, .long (zl ((x : Int)))), (2, .long (zl ((b : Int)))), (0, .long (zl ((a : Int))))] → W p l e rm_X0_commonDivisor s m args below meth c s.heap [] 0 0 QQ (F0 m 9 ls []) := by
    intro n_
    induction n_ with
    | zero => intro x y t hgc hxb hyb hE hm_; exact absurd hm_ (Nat.not_lt_zero _)
    | succ n_ ih =>
      intro x y t hgc hxb hyb hE hm_ ls hl
      refine lv_iload hx hb dX0_commonDivisor_9 (lv_at hl 0 rfl) ?_
      refine lv_bipush (v := zi (100)) hx hb dX0_commonDivisor_11 (by decide) ?_
      refine zz_icmp_ge (tgt := 44) hx hb (by have := ma_E_le hE; omega) (by omega) dX0_commonDivisor_13 (by decide) (fun c_13 => ?_) (fun c_13 => ?_)
      · exact absurd (ma_E_le hE) (by omega)
      · refine lv_lload hx hb dX0_commonDivisor_16 (lv_at hl 1 rfl) ?_
        refine lv_lconst (v := zl (0)) hx hb dX0_commonDivisor_18 (by decide) ?_
        refine zz_lcmp_eq (tgt := 44) hx hb (by omega) (by omega) dX0_commonDivisor_19 dX0_commonDivisor_20 (by decide) (fun c_19 => ?_) (fun c_19 => ?_)
        · have hy0 : y = 0 := by omega
          subst hy0
          refine lv_lload hx hb dX0_commonDivisor_44 (lv_at hl 2 rfl) ?_
          rw [hQQ]
          exact rd_l hx hb hr hlocks (by rw [← hgc, Nat.gcd_zero_right]) dX0_commonDivisor_46
        · refine lv_lload hx hb dX0_commonDivisor_23 (lv_at hl 2 rfl) ?_
          refine lv_lload hx hb dX0_commonDivisor_25 (lv_at hl 1 rfl) ?_
          refine zz_lrem hx hb (by omega) (by omega) dX0_commonDivisor_27 ?_
          refine zz_topl (z := ((x % y : Nat) : Int)) (congrArg zl (ma_tmod x y)) ?_
          refine lv_lstore (lv' := [(9, .long (zl (((x % y : Nat) : Int)))), (8, .int (zi ((t : Int)))), (6, .long (zl ((y : Int)))), (4, .long (zl ((x : Int)))), (2, .long (zl ((b : Int)))), (0, .long (zl ((a : Int))))]) hx hb dX0_commonDivisor_28 hl (by decide) rfl (fun ls hl => ?_)
          refine lv_lload hx hb dX0_commonDivisor_30 (lv_at hl 2 rfl) ?_
          refine lv_lstore (lv' := [(4, .long (zl ((y : Int)))), (9, .long (zl (((x % y : Nat) : Int)))), (8, .int (zi ((t : Int)))), (6, .long (zl ((y : Int)))), (2, .long (zl ((b : Int)))), (0, .long (zl ((a : Int))))]) hx hb dX0_commonDivisor_32 hl (by decide) rfl (fun ls hl => ?_)
          refine lv_lload hx hb dX0_commonDivisor_34 (lv_at hl 1 rfl) ?_
          refine lv_lstore (lv' := [(6, .long (zl (((x % y : Nat) : Int)))), (4, .long (zl ((y : Int)))), (9, .long (zl (((x % y : Nat) : Int)))), (8, .int (zi ((t : Int)))), (2, .long (zl ((b : Int)))), (0, .long (zl ((a : Int))))]) hx hb dX0_commonDivisor_36 hl (by decide) rfl (fun ls hl => ?_)
          refine lv_iinc (v := zi (((t : Int)) + (1))) (lv' := [(8, .int (zi (((t : Int)) + (1)))), (6, .long (zl (((x % y : Nat) : Int)))), (4, .long (zl ((y : Int)))), (9, .long (zl (((x % y : Nat) : Int)))), (2, .long (zl ((b : Int)))), (0, .long (zl ((a : Int))))]) hx hb dX0_commonDivisor_38 hl (k := 3) rfl (zi_add _ _) (by decide) rfl (fun ls hl => ?_)
          refine lv_goto (tgt := 9) hx hb dX0_commonDivisor_41 (by decide) ?_
          exact ih y (x % y) (t + 1) ((ma_gcd x y).trans hgc) (by omega) (by have := Nat.mod_lt x (show 0 < y by omega); omega) (ma_E_step (by omega) hyb hE) (by have := ma_E_le (ma_E_step (by omega) hyb hE); omega) ls (lv_sub hl [0, 1, 2, 4, 5] rfl)
  exact key_9 _ a b 0 rfl ha hb9 (Or.inl rfl) (Nat.lt_succ_self _) ls (lv_sub hl [0, 1, 2, 4, 3] rfl)
