def p_sc (hs rs : Nat → Int) (k : Nat) (wall h : Int) : Int := max 0 (rs (k - 1) - wall) * (hs k - h) + max 0 (rs k - wall) * (h - hs (k - 1))
def p_rad (hs rs : Nat → Int) (h : Int) : Nat → Nat → Int → Int
  | 0, _, g => g
  | f + 1, k, g => if hs k = h then p_rad hs rs h f (k + 1) (max g (rs k)) else if 0 < k ∧ hs (k - 1) < h ∧ h < hs k then Int.tdiv (p_sc hs rs k 0 h) (hs k - hs (k - 1)) else p_rad hs rs h f (k + 1) g
def p_radius (n : Nat) (hs rs : Nat → Int) (h : Int) : Int := p_rad hs rs h n 0 (-1)
def p_cu (hs : Nat → Int) (h : Int) : Nat → Nat
  | 0 => 0
  | k + 1 => p_cu hs h k + if hs k ≤ h then 1 else 0
def p_co (rs : Nat → Int) : Nat → Nat
  | 0 => 0
  | k + 1 => p_co rs k + if rs k = 0 then 0 else 1
def p_fo (rs : Nat → Int) (ahead : Int) : Nat → Nat → Nat → Int
  | 0, _, _ => -1
  | f + 1, k, d => if rs k = 0 then p_fo rs ahead f (k + 1) d else if (d : Int) = ahead then (k : Int) else p_fo rs ahead f (k + 1) (d + 1)
theorem p_cu_le (hs : Nat → Int) (h : Int) (k : Nat) : p_cu hs h k ≤ k := by
  induction k with
  | zero => exact Nat.le_refl 0
  | succ k ih => unfold p_cu; split <;> omega
theorem p_co_le (rs : Nat → Int) (k : Nat) : p_co rs k ≤ k := by
  induction k with
  | zero => exact Nat.le_refl 0
  | succ k ih => unfold p_co; split <;> omega
theorem p_mulb {a b A B : Int} (h1 : 0 ≤ a ∧ a ≤ A) (h2 : 0 ≤ b ∧ b ≤ B) : 0 ≤ a * b ∧ a * b ≤ A * B :=
  ⟨Int.mul_nonneg h1.1 h2.1, Int.mul_le_mul h1.2 h2.2 h2.1 (by omega)⟩
theorem p_sc_bd {hs rs : Nat → Int} {k : Nat} {wall h : Int} (hR : ∀ j, 0 ≤ rs j ∧ rs j ≤ 200) (hw : 0 ≤ wall) (h1 : hs (k - 1) ≤ h) (h2 : h ≤ hs k) : 0 ≤ p_sc hs rs k wall h ∧ p_sc hs rs k wall h ≤ 200 * (hs k - hs (k - 1)) := by
  have a := hR (k - 1)
  have b := hR k
  have h3 := p_mulb (a := max 0 (rs (k - 1) - wall)) (b := hs k - h) (A := 200) (B := hs k - h) (by omega) (by omega)
  have h4 := p_mulb (a := max 0 (rs k - wall)) (b := h - hs (k - 1)) (A := 200) (B := h - hs (k - 1)) (by omega) (by omega)
  unfold p_sc
  omega
def p_canf (n : Nat) (hs rs : Nat → Int) (h r : Int) : Bool := if n = 0 then true else if h = hs (n - 1) then !(decide (1 < n ∧ hs (n - 2) = h)) && decide (r ≠ rs (n - 1)) else decide (hs (n - 1) < h)
def zb (b : Bool) : Int := if b then 1 else 0
theorem zb_t {b : Bool} (h : b = true) : zb b = 1 := by rw [h]; rfl
theorem zb_f {b : Bool} (h : b = false) : zb b = 0 := by rw [h]; rfl
theorem zb_01 (b : Bool) : zb b = 0 ∨ zb b = 1 := by cases b <;> simp [zb]
abbrev rm_X1_isClosed : Room := { frames := 0, cells := 0, slots := 0, locals := 0 }
set_option maxHeartbeats 4000000 in
set_option maxRecDepth 100000 in
theorem c_X1_isClosed (l : Launch) (dC : Nat → ClassId) (dI : Nat → Nat → Nat) (h0 h1 h2 : Nat) (cA : ClassId) (n : Nat) (th wc : Int) (hs rs : Nat → Int) (hn : n ≤ 12) (hw : wc = 0 ∨ wc = 1) : Met l yX1_isClosed (Cond.code yX1_isClosed cX1_isClosed 1 ((Option.some Jvm.ClassFile.FieldType.boolean)) :: gw) rm_X1_isClosed (PcR [.ref h0] (dC, dI) vwCl [(h0, .inr (1, [.ref h1, .ref h2, .int (zi ((n : Int))), .int (zi (th)), .int (zi (wc))])), (h1, .inl (cA, 12, .inl (zA (hs)))), (h2, .inl (cA, 12, .inl (zA (rs))))] [(cA, .int)]) (RdQ (some (.int (zi (zb (decide (wc = 1 ∨ 12 ≤ n))))))) 0 0 (fun _ => False) := by
  refine Met.ofW (cc := cX1_isClosed) (maxL := 1) (ret := ((Option.some Jvm.ClassFile.FieldType.boolean))) (by decide) rfl ?_
  intro p e s m args below meth c s₁ B hml hv
  obtain ⟨hargs, hP, hK⟩ := hv
  have hx := B.exec
  have hb := B.bytes
  have hr := B.returns
  have hts := atoms_spec (ws := Cond.code yX1_isClosed cX1_isClosed 1 ((Option.some Jvm.ClassFile.FieldType.boolean)) :: gw) B.pre
  have hg : ∀ w ∈ gw, w.before args s = true := fun w h => hts w (List.mem_cons_of_mem _ h)
  have hown : s.vm.findClass RX1 = some m.cls := findClass_of_methodNamed B.named
  have hlocks := B.notSynchronized
  show W p l e rm_X1_isClosed s m args below meth c s.heap [] 0 0 _ _
  have hl := lv_entry ([.ref h0]) (n := 1) (Nat.le_of_ble_eq_true rfl)
  rw [show entryFrame m args 1 = entryFrame m ([.ref h0] : List Value).toArray 1 by rw [hargs], lg_entry_eq]
  generalize (lg_sl ([.ref h0]) ++ List.replicate (1 - (lg_sl ([.ref h0])).length) Slot.unset).toArray = ls at hl ⊢
  have hl : lv_has ls 1 [(0, .ref h0)] := hl
  obtain ⟨QQ, hQQ⟩ : ∃ Q, Q = MQ below (RdQ (some (.int (zi (zb (decide (wc = 1 ∨ 12 ≤ n))))))) args s 0 0 (fun _ => False) := ⟨_, rfl⟩
  rw [← hQQ]
  refine lv_aload_n hx hb dX1_isClosed_0 rfl (lv_at hl 0 rfl) ?_
  refine va_get (D := (dC, dI)) (ci := 1) (v := .int (zi (wc))) (C := RX1) (T := TX1) (N := 5) hx hb hg inX1 hown hK hP 0 rfl rfl 4 (by decide) (hg _ wl_X1_18) (fun _ h9 => h9) rfl dX1_isClosed_1 ?_
  refine zz_if_ne (tgt := 16) hx hb (by omega) dX1_isClosed_4 (by decide) (fun c_4 => ?_) (fun c_4 => ?_)
  · refine lv_iconst (v := zi (1)) hx hb dX1_isClosed_16 rfl ?_
    refine lv_goto (tgt := 21) hx hb dX1_isClosed_17 (by decide) ?_
    rw [hQQ]
    exact rd_z hx hb hr hlocks (zb_t (by simp; omega)).symm (by first | exact Or.inl rfl | exact Or.inr rfl | omega) dX1_isClosed_21
  · refine lv_aload_n hx hb dX1_isClosed_7 rfl (lv_at hl 0 rfl) ?_
    refine va_get (D := (dC, dI)) (ci := 1) (v := .int (zi ((n : Int)))) (C := RX1) (T := TX1) (N := 5) hx hb hg inX1 hown hK hP 0 rfl rfl 2 (by decide) (hg _ wl_X1_22) (fun _ h9 => h9) rfl dX1_isClosed_8 ?_
    refine lv_bipush (v := zi (12)) hx hb dX1_isClosed_11 (by decide) ?_
    refine zz_icmp_lt (tgt := 20) hx hb (by omega) (by omega) dX1_isClosed_13 (by decide) (fun c_13 => ?_) (fun c_13 => ?_)
    · refine lv_iconst (v := zi (0)) hx hb dX1_isClosed_20 rfl ?_
      rw [hQQ]
      exact rd_z hx hb hr hlocks (zb_f (by simp; omega)).symm (by first | exact Or.inl rfl | exact Or.inr rfl | omega) dX1_isClosed_21
    · refine lv_iconst (v := zi (1)) hx hb dX1_isClosed_16 rfl ?_
      refine lv_goto (tgt := 21) hx hb dX1_isClosed_17 (by decide) ?_
      rw [hQQ]
      exact rd_z hx hb hr hlocks (zb_t (by simp; omega)).symm (by first | exact Or.inl rfl | exact Or.inr rfl | omega) dX1_isClosed_21

abbrev rm_X1_canFollow : Room := { frames := 0, cells := 0, slots := 0, locals := 0 }
set_option maxHeartbeats 4000000 in
set_option maxRecDepth 100000 in
theorem c_X1_canFollow (l : Launch) (dC : Nat → ClassId) (dI : Nat → Nat → Nat) (h0 h1 h2 : Nat) (cA : ClassId) (n : Nat) (th wc : Int) (hs rs : Nat → Int) (h r : Int) (hn : n ≤ 12) (hH : ∀ j, 0 ≤ hs j ∧ hs j ≤ 400) (hR : ∀ j, 0 ≤ rs j ∧ rs j ≤ 200) (hh : 0 ≤ h ∧ h ≤ 400) (hr9 : 0 ≤ r ∧ r ≤ 200) : Met l yX1_canFollow (Cond.code yX1_canFollow cX1_canFollow 5 ((Option.some Jvm.ClassFile.FieldType.boolean)) :: gw) rm_X1_canFollow (PcR [.ref h0, .int (zi (h)), .int (zi (r))] (dC, dI) vwCl [(h0, .inr (1, [.ref h1, .ref h2, .int (zi ((n : Int))), .int (zi (th)), .int (zi (wc))])), (h1, .inl (cA, 12, .inl (zA (hs)))), (h2, .inl (cA, 12, .inl (zA (rs))))] [(cA, .int)]) (RdQ (some (.int (zi (zb (p_canf n hs rs h r)))))) 0 0 (fun _ => False) := by
  refine Met.ofW (cc := cX1_canFollow) (maxL := 5) (ret := ((Option.some Jvm.ClassFile.FieldType.boolean))) (by decide) rfl ?_
  intro p e s m args below meth c s₁ B hml hv
  obtain ⟨hargs, hP, hK⟩ := hv
  have hx := B.exec
  have hb := B.bytes
  have hr := B.returns
  have hts := atoms_spec (ws := Cond.code yX1_canFollow cX1_canFollow 5 ((Option.some Jvm.ClassFile.FieldType.boolean)) :: gw) B.pre
  have hg : ∀ w ∈ gw, w.before args s = true := fun w h => hts w (List.mem_cons_of_mem _ h)
  have hown : s.vm.findClass RX1 = some m.cls := findClass_of_methodNamed B.named
  have hlocks := B.notSynchronized
  show W p l e rm_X1_canFollow s m args below meth c s.heap [] 0 0 _ _
  have hl := lv_entry ([.ref h0, .int (zi (h)), .int (zi (r))]) (n := 5) (Nat.le_of_ble_eq_true rfl)
  rw [show entryFrame m args 5 = entryFrame m ([.ref h0, .int (zi (h)), .int (zi (r))] : List Value).toArray 5 by rw [hargs], lg_entry_eq]
  generalize (lg_sl ([.ref h0, .int (zi (h)), .int (zi (r))]) ++ List.replicate (5 - (lg_sl ([.ref h0, .int (zi (h)), .int (zi (r))])).length) Slot.unset).toArray = ls at hl ⊢
  have hl : lv_has ls 5 [(0, .ref h0), (1, .int (zi (h))), (2, .int (zi (r)))] := hl
  obtain ⟨QQ, hQQ⟩ : ∃ Q, Q = MQ below (RdQ (some (.int (zi (zb (p_canf n hs rs h r)))))) args s 0 0 (fun _ => False) := ⟨_, rfl⟩
  rw [← hQQ]
  refine lv_aload_n hx hb dX1_canFollow_0 rfl (lv_at hl 0 rfl) ?_
  refine va_get (D := (dC, dI)) (ci := 1) (v := .int (zi ((n : Int)))) (C := RX1) (T := TX1) (N := 5) hx hb hg inX1 hown hK hP 0 rfl rfl 2 (by decide) (hg _ wl_X1_22) (fun _ h9 => h9) rfl dX1_canFollow_1 ?_
  refine zz_if_ne (tgt := 9) hx hb (by omega) dX1_canFollow_4 (by decide) (fun c_4 => ?_) (fun c_4 => ?_)
  · refine lv_aload_n hx hb dX1_canFollow_9 rfl (lv_at hl 0 rfl) ?_
    refine va_get (D := (dC, dI)) (ci := 1) (v := .int (zi ((n : Int)))) (C := RX1) (T := TX1) (N := 5) hx hb hg inX1 hown hK hP 0 rfl rfl 2 (by decide) (hg _ wl_X1_22) (fun _ h9 => h9) rfl dX1_canFollow_10 ?_
    refine lv_iconst (v := zi (1)) hx hb dX1_canFollow_13 rfl ?_
    refine zz_isub hx hb dX1_canFollow_14 ?_
    refine lv_istore_n (lv' := [(3, .int (zi (((n : Int)) - (1)))), (0, .ref h0), (1, .int (zi (h))), (2, .int (zi (r)))]) hx hb dX1_canFollow_15 rfl hl (by decide) rfl (fun ls hl => ?_)
    refine lv_iload_n hx hb dX1_canFollow_16 rfl (lv_at hl 2 rfl) ?_
    refine lv_aload_n hx hb dX1_canFollow_17 rfl (lv_at hl 1 rfl) ?_
    refine va_get (D := (dC, dI)) (ci := 1) (v := .ref h1) (C := RX1) (T := TX1) (N := 5) hx hb hg inX1 hown hK hP 0 rfl rfl 0 (by decide) (hg _ wl_X1_9) (fun _ h9 => h9) rfl dX1_canFollow_18 ?_
    refine lv_iload_n hx hb dX1_canFollow_21 rfl (lv_at hl 0 rfl) ?_
    refine zz_iald hx hb hK hP 1 0 rfl rfl (n - 1) (by omega) (by omega) (by decide) dX1_canFollow_22 ?_
    have hv_1 := hH (n - 1)
    refine zz_icmp_eq (tgt := 42) hx hb (by omega) (by omega) dX1_canFollow_23 (by decide) (fun c_23 => ?_) (fun c_23 => ?_)
    · refine lv_iload_n hx hb dX1_canFollow_42 rfl (lv_at hl 0 rfl) ?_
      refine zz_if_le (tgt := 62) hx hb (by omega) dX1_canFollow_43 (by decide) (fun c_43 => ?_) (fun c_43 => ?_)
      · refine lv_iconst (v := zi (0)) hx hb dX1_canFollow_62 rfl ?_
        refine lv_istore (lv' := [(4, .int (zi (0))), (3, .int (zi (((n : Int)) - (1)))), (0, .ref h0), (1, .int (zi (h))), (2, .int (zi (r)))]) hx hb dX1_canFollow_63 hl (by decide) rfl (fun ls hl => ?_)
        refine lv_iload hx hb dX1_canFollow_65 (lv_at hl 0 rfl) ?_
        refine zz_if_ne (tgt := 84) hx hb (by omega) dX1_canFollow_67 (by decide) (fun c_67 => ?_) (fun c_67 => ?_)
        · refine lv_iconst (v := zi (0)) hx hb dX1_canFollow_84 rfl ?_
          rw [hQQ]
          exact rd_z hx hb hr hlocks (zb_f (by unfold p_canf; first | (simp; omega) | (rw [if_neg (by omega)]; simp; omega) | (rw [if_pos (by omega)]) | (split <;> simp_all <;> omega) | (simp_all; omega))).symm (by first | exact Or.inl rfl | exact Or.inr rfl | omega) dX1_canFollow_85
        · refine lv_iload_n hx hb dX1_canFollow_70 rfl (lv_at hl 4 rfl) ?_
          refine lv_aload_n hx hb dX1_canFollow_71 rfl (lv_at hl 2 rfl) ?_
          refine va_get (D := (dC, dI)) (ci := 1) (v := .ref h2) (C := RX1) (T := TX1) (N := 5) hx hb hg inX1 hown hK hP 0 rfl rfl 1 (by decide) (hg _ wl_X1_15) (fun _ h9 => h9) rfl dX1_canFollow_72 ?_
          refine lv_iload_n hx hb dX1_canFollow_75 rfl (lv_at hl 1 rfl) ?_
          refine zz_iald hx hb hK hP 2 0 rfl rfl (n - 1) (by omega) (by omega) (by decide) dX1_canFollow_76 ?_
          have hv_2 := hR (n - 1)
          refine zz_icmp_eq (tgt := 84) hx hb (by omega) (by omega) dX1_canFollow_77 (by decide) (fun c_77 => ?_) (fun c_77 => ?_)
          · refine lv_iconst (v := zi (0)) hx hb dX1_canFollow_84 rfl ?_
            rw [hQQ]
            exact rd_z hx hb hr hlocks (zb_f (by unfold p_canf; first | (simp; omega) | (rw [if_neg (by omega)]; simp; omega) | (rw [if_pos (by omega)]) | (split <;> simp_all <;> omega) | (simp_all; omega))).symm (by first | exact Or.inl rfl | exact Or.inr rfl | omega) dX1_canFollow_85
          · refine lv_iconst (v := zi (1)) hx hb dX1_canFollow_80 rfl ?_
            refine lv_goto (tgt := 85) hx hb dX1_canFollow_81 (by decide) ?_
            rw [hQQ]
            exact rd_z hx hb hr hlocks (zb_t (by unfold p_canf; first | (simp; omega) | (rw [if_neg (by omega)]; simp; omega) | (rw [if_pos (by omega)]) | (split <;> simp_all <;> omega) | (simp_all; omega))).symm (by first | exact Or.inl rfl | exact Or.inr rfl | omega) dX1_canFollow_85
      · refine lv_aload_n hx hb dX1_canFollow_46 rfl (lv_at hl 1 rfl) ?_
        refine va_get (D := (dC, dI)) (ci := 1) (v := .ref h1) (C := RX1) (T := TX1) (N := 5) hx hb hg inX1 hown hK hP 0 rfl rfl 0 (by decide) (hg _ wl_X1_9) (fun _ h9 => h9) rfl dX1_canFollow_47 ?_
        refine lv_iload_n hx hb dX1_canFollow_50 rfl (lv_at hl 0 rfl) ?_
        refine lv_iconst (v := zi (1)) hx hb dX1_canFollow_51 rfl ?_
        refine zz_isub hx hb dX1_canFollow_52 ?_
        refine zz_iald hx hb hK hP 1 0 rfl rfl (n - 2) (by omega) (by omega) (by decide) dX1_canFollow_53 ?_
        have hv_3 := hH (n - 2)
        refine lv_iload_n hx hb dX1_canFollow_54 rfl (lv_at hl 2 rfl) ?_
        refine zz_icmp_ne (tgt := 62) hx hb (by omega) (by omega) dX1_canFollow_55 (by decide) (fun c_55 => ?_) (fun c_55 => ?_)
        · refine lv_iconst (v := zi (0)) hx hb dX1_canFollow_62 rfl ?_
          refine lv_istore (lv' := [(4, .int (zi (0))), (3, .int (zi (((n : Int)) - (1)))), (0, .ref h0), (1, .int (zi (h))), (2, .int (zi (r)))]) hx hb dX1_canFollow_63 hl (by decide) rfl (fun ls hl => ?_)
          refine lv_iload hx hb dX1_canFollow_65 (lv_at hl 0 rfl) ?_
          refine zz_if_ne (tgt := 84) hx hb (by omega) dX1_canFollow_67 (by decide) (fun c_67 => ?_) (fun c_67 => ?_)
          · refine lv_iconst (v := zi (0)) hx hb dX1_canFollow_84 rfl ?_
            rw [hQQ]
            exact rd_z hx hb hr hlocks (zb_f (by unfold p_canf; first | (simp; omega) | (rw [if_neg (by omega)]; simp; omega) | (rw [if_pos (by omega)]) | (split <;> simp_all <;> omega) | (simp_all; omega))).symm (by first | exact Or.inl rfl | exact Or.inr rfl | omega) dX1_canFollow_85
          · refine lv_iload_n hx hb dX1_canFollow_70 rfl (lv_at hl 4 rfl) ?_
            refine lv_aload_n hx hb dX1_canFollow_71 rfl (lv_at hl 2 rfl) ?_
            refine va_get (D := (dC, dI)) (ci := 1) (v := .ref h2) (C := RX1) (T := TX1) (N := 5) hx hb hg inX1 hown hK hP 0 rfl rfl 1 (by decide) (hg _ wl_X1_15) (fun _ h9 => h9) rfl dX1_canFollow_72 ?_
            refine lv_iload_n hx hb dX1_canFollow_75 rfl (lv_at hl 1 rfl) ?_
            refine zz_iald hx hb hK hP 2 0 rfl rfl (n - 1) (by omega) (by omega) (by decide) dX1_canFollow_76 ?_
            have hv_4 := hR (n - 1)
            refine zz_icmp_eq (tgt := 84) hx hb (by omega) (by omega) dX1_canFollow_77 (by decide) (fun c_77 => ?_) (fun c_77 => ?_)
            · refine lv_iconst (v := zi (0)) hx hb dX1_canFollow_84 rfl ?_
              rw [hQQ]
              exact rd_z hx hb hr hlocks (zb_f (by unfold p_canf; first | (simp; omega) | (rw [if_neg (by omega)]; simp; omega) | (rw [if_pos (by omega)]) | (split <;> simp_all <;> omega) | (simp_all; omega))).symm (by first | exact Or.inl rfl | exact Or.inr rfl | omega) dX1_canFollow_85
            · refine lv_iconst (v := zi (1)) hx hb dX1_canFollow_80 rfl ?_
              refine lv_goto (tgt := 85) hx hb dX1_canFollow_81 (by decide) ?_
              rw [hQQ]
              exact rd_z hx hb hr hlocks (zb_t (by unfold p_canf; first | (simp; omega) | (rw [if_neg (by omega)]; simp; omega) | (rw [if_pos (by omega)]) | (split <;> simp_all <;> omega) | (simp_all; omega))).symm (by first | exact Or.inl rfl | exact Or.inr rfl | omega) dX1_canFollow_85
        · refine lv_iconst (v := zi (1)) hx hb dX1_canFollow_58 rfl ?_
          refine lv_goto (tgt := 63) hx hb dX1_canFollow_59 (by decide) ?_
          refine lv_istore (lv' := [(4, .int (zi (1))), (3, .int (zi (((n : Int)) - (1)))), (0, .ref h0), (1, .int (zi (h))), (2, .int (zi (r)))]) hx hb dX1_canFollow_63 hl (by decide) rfl (fun ls hl => ?_)
          refine lv_iload hx hb dX1_canFollow_65 (lv_at hl 0 rfl) ?_
          refine zz_if_ne (tgt := 84) hx hb (by omega) dX1_canFollow_67 (by decide) (fun c_67 => ?_) (fun c_67 => ?_)
          · refine lv_iconst (v := zi (0)) hx hb dX1_canFollow_84 rfl ?_
            rw [hQQ]
            exact rd_z hx hb hr hlocks (zb_f (by unfold p_canf; first | (simp; omega) | (rw [if_neg (by omega)]; simp; omega) | (rw [if_pos (by omega)]) | (split <;> simp_all <;> omega) | (simp_all; omega))).symm (by first | exact Or.inl rfl | exact Or.inr rfl | omega) dX1_canFollow_85
          · refine lv_iload_n hx hb dX1_canFollow_70 rfl (lv_at hl 4 rfl) ?_
            refine lv_aload_n hx hb dX1_canFollow_71 rfl (lv_at hl 2 rfl) ?_
            refine va_get (D := (dC, dI)) (ci := 1) (v := .ref h2) (C := RX1) (T := TX1) (N := 5) hx hb hg inX1 hown hK hP 0 rfl rfl 1 (by decide) (hg _ wl_X1_15) (fun _ h9 => h9) rfl dX1_canFollow_72 ?_
            refine lv_iload_n hx hb dX1_canFollow_75 rfl (lv_at hl 1 rfl) ?_
            refine zz_iald hx hb hK hP 2 0 rfl rfl (n - 1) (by omega) (by omega) (by decide) dX1_canFollow_76 ?_
            have hv_5 := hR (n - 1)
            refine zz_icmp_eq (tgt := 84) hx hb (by omega) (by omega) dX1_canFollow_77 (by decide) (fun c_77 => ?_) (fun c_77 => ?_)
            · refine lv_iconst (v := zi (0)) hx hb dX1_canFollow_84 rfl ?_
              rw [hQQ]
              exact rd_z hx hb hr hlocks (zb_f (by unfold p_canf; first | (simp; omega) | (rw [if_neg (by omega)]; simp; omega) | (rw [if_pos (by omega)]) | (split <;> simp_all <;> omega) | (simp_all; omega))).symm (by first | exact Or.inl rfl | exact Or.inr rfl | omega) dX1_canFollow_85
            · refine lv_iconst (v := zi (1)) hx hb dX1_canFollow_80 rfl ?_
              refine lv_goto (tgt := 85) hx hb dX1_canFollow_81 (by decide) ?_
              rw [hQQ]
              exact rd_z hx hb hr hlocks (zb_t (by unfold p_canf; first | (simp; omega) | (rw [if_neg (by omega)]; simp; omega) | (rw [if_pos (by omega)]) | (split <;> simp_all <;> omega) | (simp_all; omega))).symm (by first | exact Or.inl rfl | exact Or.inr rfl | omega) dX1_canFollow_85
    · refine lv_iload_n hx hb dX1_canFollow_26 rfl (lv_at hl 2 rfl) ?_
      refine lv_aload_n hx hb dX1_canFollow_27 rfl (lv_at hl 1 rfl) ?_
      refine va_get (D := (dC, dI)) (ci := 1) (v := .ref h1) (C := RX1) (T := TX1) (N := 5) hx hb hg inX1 hown hK hP 0 rfl rfl 0 (by decide) (hg _ wl_X1_9) (fun _ h9 => h9) rfl dX1_canFollow_28 ?_
      refine lv_iload_n hx hb dX1_canFollow_31 rfl (lv_at hl 0 rfl) ?_
      refine zz_iald hx hb hK hP 1 0 rfl rfl (n - 1) (by omega) (by omega) (by decide) dX1_canFollow_32 ?_
      have hv_6 := hH (n - 1)
      refine zz_icmp_le (tgt := 40) hx hb (by omega) (by omega) dX1_canFollow_33 (by decide) (fun c_33 => ?_) (fun c_33 => ?_)
      · refine lv_iconst (v := zi (0)) hx hb dX1_canFollow_40 rfl ?_
        rw [hQQ]
        exact rd_z hx hb hr hlocks (zb_f (by unfold p_canf; first | (simp; omega) | (rw [if_neg (by omega)]; simp; omega) | (rw [if_pos (by omega)]) | (split <;> simp_all <;> omega) | (simp_all; omega))).symm (by first | exact Or.inl rfl | exact Or.inr rfl | omega) dX1_canFollow_41
      · refine lv_iconst (v := zi (1)) hx hb dX1_canFollow_36 rfl ?_
        refine lv_goto (tgt := 41) hx hb dX1_canFollow_37 (by decide) ?_
        rw [hQQ]
        exact rd_z hx hb hr hlocks (zb_t (by unfold p_canf; first | (simp; omega) | (rw [if_neg (by omega)]; simp; omega) | (rw [if_pos (by omega)]) | (split <;> simp_all <;> omega) | (simp_all; omega))).symm (by first | exact Or.inl rfl | exact Or.inr rfl | omega) dX1_canFollow_41
  · refine lv_iconst (v := zi (1)) hx hb dX1_canFollow_7 rfl ?_
    rw [hQQ]
    exact rd_z hx hb hr hlocks (zb_t (by unfold p_canf; first | (simp; omega) | (rw [if_neg (by omega)]; simp; omega) | (rw [if_pos (by omega)]) | (split <;> simp_all <;> omega) | (simp_all; omega))).symm (by first | exact Or.inl rfl | exact Or.inr rfl | omega) dX1_canFollow_8

abbrev rm_X1_scaledRadius : Room := { frames := 1, cells := 0, slots := 0, locals := 24 }
set_option maxHeartbeats 4000000 in
set_option maxRecDepth 100000 in
theorem c_X1_scaledRadius (l : Launch) (dC : Nat → ClassId) (dI : Nat → Nat → Nat) (h0 h1 h2 : Nat) (cA : ClassId) (n : Nat) (th wc : Int) (hs rs : Nat → Int) (k : Nat) (wall h : Int) (hn : n ≤ 12) (hH : ∀ j, 0 ≤ hs j ∧ hs j ≤ 400) (hR : ∀ j, 0 ≤ rs j ∧ rs j ≤ 200) (hk : 1 ≤ k ∧ k < 12) (hw : 0 ≤ wall ∧ wall ≤ 50) : Met l yX1_scaledRadius (Cond.code yX1_scaledRadius cX1_scaledRadius 6 ((Option.some Jvm.ClassFile.FieldType.int)) :: gw) rm_X1_scaledRadius (PcR [.ref h0, .int (zi ((k : Int))), .int (zi (wall)), .int (zi (h))] (dC, dI) vwCl [(h0, .inr (1, [.ref h1, .ref h2, .int (zi ((n : Int))), .int (zi (th)), .int (zi (wc))])), (h1, .inl (cA, 12, .inl (zA (hs)))), (h2, .inl (cA, 12, .inl (zA (rs))))] [(cA, .int)]) (RdQ (some (.int (zi (p_sc hs rs k wall h))))) 0 0 (fun _ => False) := by
  refine Met.ofW (cc := cX1_scaledRadius) (maxL := 6) (ret := ((Option.some Jvm.ClassFile.FieldType.int))) (by decide) rfl ?_
  intro p e s m args below meth c s₁ B hml hv
  obtain ⟨hargs, hP, hK⟩ := hv
  have hx := B.exec
  have hb := B.bytes
  have hr := B.returns
  have hts := atoms_spec (ws := Cond.code yX1_scaledRadius cX1_scaledRadius 6 ((Option.some Jvm.ClassFile.FieldType.int)) :: gw) B.pre
  have hg : ∀ w ∈ gw, w.before args s = true := fun w h => hts w (List.mem_cons_of_mem _ h)
  have hown : s.vm.findClass RX1 = some m.cls := findClass_of_methodNamed B.named
  have hlocks := B.notSynchronized
  show W p l e rm_X1_scaledRadius s m args below meth c s.heap [] 0 0 _ _
  have hl := lv_entry ([.ref h0, .int (zi ((k : Int))), .int (zi (wall)), .int (zi (h))]) (n := 6) (Nat.le_of_ble_eq_true rfl)
  rw [show entryFrame m args 6 = entryFrame m ([.ref h0, .int (zi ((k : Int))), .int (zi (wall)), .int (zi (h))] : List Value).toArray 6 by rw [hargs], lg_entry_eq]
  generalize (lg_sl ([.ref h0, .int (zi ((k : Int))), .int (zi (wall)), .int (zi (h))]) ++ List.replicate (6 - (lg_sl ([.ref h0, .int (zi ((k : Int))), .int (zi (wall)), .int (zi (h))])).length) Slot.unset).toArray = ls at hl ⊢
  have hl : lv_has ls 6 [(0, .ref h0), (1, .int (zi ((k : Int)))), (2, .int (zi (wall))), (3, .int (zi (h)))] := hl
  obtain ⟨QQ, hQQ⟩ : ∃ Q, Q = MQ below (RdQ (some (.int (zi (p_sc hs rs k wall h))))) args s 0 0 (fun _ => False) := ⟨_, rfl⟩
  rw [← hQQ]
  refine lv_iconst (v := zi (0)) hx hb dX1_scaledRadius_0 rfl ?_
  refine lv_aload_n hx hb dX1_scaledRadius_1 rfl (lv_at hl 0 rfl) ?_
  refine va_get (D := (dC, dI)) (ci := 1) (v := .ref h2) (C := RX1) (T := TX1) (N := 5) hx hb hg inX1 hown hK hP 0 rfl rfl 1 (by decide) (hg _ wl_X1_15) (fun _ h9 => h9) rfl dX1_scaledRadius_2 ?_
  refine lv_iload_n hx hb dX1_scaledRadius_5 rfl (lv_at hl 1 rfl) ?_
  refine lv_iconst (v := zi (1)) hx hb dX1_scaledRadius_6 rfl ?_
  refine zz_isub hx hb dX1_scaledRadius_7 ?_
  refine zz_iald hx hb hK hP 2 0 rfl rfl (k - 1) (by omega) (by omega) (by decide) dX1_scaledRadius_8 ?_
  have hv_1 := hR (k - 1)
  refine lv_iload_n hx hb dX1_scaledRadius_9 rfl (lv_at hl 2 rfl) ?_
  refine zz_isub hx hb dX1_scaledRadius_10 ?_
  refine va_mmax hx hb (hml.trans hl.1.symm) hown (hg _ wl_X1_34) (hg _ wt_Math_max) (hg _ wi_Math) (hg _ wc_Math_max_II_I) (Nat.le_of_ble_eq_true rfl) (Nat.le_of_ble_eq_true rfl) (Nat.zero_le _) (Nat.zero_le _) dX1_scaledRadius_11 ?_
  refine zz_topi (z := max (0) ((rs (k - 1)) - (wall))) (zi_max (by omega)) ?_
  refine lv_istore (lv' := [(4, .int (zi (max (0) ((rs (k - 1)) - (wall))))), (0, .ref h0), (1, .int (zi ((k : Int)))), (2, .int (zi (wall))), (3, .int (zi (h)))]) hx hb dX1_scaledRadius_14 hl (by decide) rfl (fun ls hl => ?_)
  refine lv_iconst (v := zi (0)) hx hb dX1_scaledRadius_16 rfl ?_
  refine lv_aload_n hx hb dX1_scaledRadius_17 rfl (lv_at hl 1 rfl) ?_
  refine va_get (D := (dC, dI)) (ci := 1) (v := .ref h2) (C := RX1) (T := TX1) (N := 5) hx hb hg inX1 hown hK hP 0 rfl rfl 1 (by decide) (hg _ wl_X1_15) (fun _ h9 => h9) rfl dX1_scaledRadius_18 ?_
  refine lv_iload_n hx hb dX1_scaledRadius_21 rfl (lv_at hl 2 rfl) ?_
  refine zz_iald hx hb hK hP 2 0 rfl rfl (k) (by omega) (by omega) (by decide) dX1_scaledRadius_22 ?_
  have hv_2 := hR (k)
  refine lv_iload_n hx hb dX1_scaledRadius_23 rfl (lv_at hl 3 rfl) ?_
  refine zz_isub hx hb dX1_scaledRadius_24 ?_
  refine va_mmax hx hb (hml.trans hl.1.symm) hown (hg _ wl_X1_34) (hg _ wt_Math_max) (hg _ wi_Math) (hg _ wc_Math_max_II_I) (Nat.le_of_ble_eq_true rfl) (Nat.le_of_ble_eq_true rfl) (Nat.zero_le _) (Nat.zero_le _) dX1_scaledRadius_25 ?_
  refine zz_topi (z := max (0) ((rs (k)) - (wall))) (zi_max (by omega)) ?_
  refine lv_istore (lv' := [(5, .int (zi (max (0) ((rs (k)) - (wall))))), (4, .int (zi (max (0) ((rs (k - 1)) - (wall))))), (0, .ref h0), (1, .int (zi ((k : Int)))), (2, .int (zi (wall))), (3, .int (zi (h)))]) hx hb dX1_scaledRadius_28 hl (by decide) rfl (fun ls hl => ?_)
  refine lv_iload hx hb dX1_scaledRadius_30 (lv_at hl 1 rfl) ?_
  refine lv_aload_n hx hb dX1_scaledRadius_32 rfl (lv_at hl 2 rfl) ?_
  refine va_get (D := (dC, dI)) (ci := 1) (v := .ref h1) (C := RX1) (T := TX1) (N := 5) hx hb hg inX1 hown hK hP 0 rfl rfl 0 (by decide) (hg _ wl_X1_9) (fun _ h9 => h9) rfl dX1_scaledRadius_33 ?_
  refine lv_iload_n hx hb dX1_scaledRadius_36 rfl (lv_at hl 3 rfl) ?_
  refine zz_iald hx hb hK hP 1 0 rfl rfl (k) (by omega) (by omega) (by decide) dX1_scaledRadius_37 ?_
  have hv_3 := hH (k)
  refine lv_iload_n hx hb dX1_scaledRadius_38 rfl (lv_at hl 5 rfl) ?_
  refine zz_isub hx hb dX1_scaledRadius_39 ?_
  refine zz_imul hx hb dX1_scaledRadius_40 ?_
  refine lv_iload hx hb dX1_scaledRadius_41 (lv_at hl 0 rfl) ?_
  refine lv_iload_n hx hb dX1_scaledRadius_43 rfl (lv_at hl 5 rfl) ?_
  refine lv_aload_n hx hb dX1_scaledRadius_44 rfl (lv_at hl 2 rfl) ?_
  refine va_get (D := (dC, dI)) (ci := 1) (v := .ref h1) (C := RX1) (T := TX1) (N := 5) hx hb hg inX1 hown hK hP 0 rfl rfl 0 (by decide) (hg _ wl_X1_9) (fun _ h9 => h9) rfl dX1_scaledRadius_45 ?_
  refine lv_iload_n hx hb dX1_scaledRadius_48 rfl (lv_at hl 3 rfl) ?_
  refine lv_iconst (v := zi (1)) hx hb dX1_scaledRadius_49 rfl ?_
  refine zz_isub hx hb dX1_scaledRadius_50 ?_
  refine zz_iald hx hb hK hP 1 0 rfl rfl (k - 1) (by omega) (by omega) (by decide) dX1_scaledRadius_51 ?_
  have hv_4 := hH (k - 1)
  refine zz_isub hx hb dX1_scaledRadius_52 ?_
  refine zz_imul hx hb dX1_scaledRadius_53 ?_
  refine zz_iadd hx hb dX1_scaledRadius_54 ?_
  rw [hQQ]
  exact rd_i hx hb hr hlocks rfl dX1_scaledRadius_55

abbrev rm_X1_radiusAt : Room := { frames := 2, cells := 0, slots := 0, locals := 49 }
set_option maxHeartbeats 4000000 in
set_option maxRecDepth 100000 in
theorem c_X1_radiusAt (l : Launch) (dC : Nat → ClassId) (dI : Nat → Nat → Nat) (h0 h1 h2 : Nat) (cA : ClassId) (n : Nat) (th wc : Int) (hs rs : Nat → Int) (h : Int) (hn : n ≤ 12) (hH : ∀ j, 0 ≤ hs j ∧ hs j ≤ 400) (hR : ∀ j, 0 ≤ rs j ∧ rs j ≤ 200) (hh : -2147483648 ≤ h ∧ h < 2147483648) : Met l yX1_radiusAt (Cond.code yX1_radiusAt cX1_radiusAt 5 ((Option.some Jvm.ClassFile.FieldType.int)) :: gw) rm_X1_radiusAt (PcR [.ref h0, .int (zi (h))] (dC, dI) vwCl [(h0, .inr (1, [.ref h1, .ref h2, .int (zi ((n : Int))), .int (zi (th)), .int (zi (wc))])), (h1, .inl (cA, 12, .inl (zA (hs)))), (h2, .inl (cA, 12, .inl (zA (rs))))] [(cA, .int)]) (RdQ (some (.int (zi (p_radius n hs rs h))))) 0 0 (fun _ => False) := by
  refine Met.ofW (cc := cX1_radiusAt) (maxL := 5) (ret := ((Option.some Jvm.ClassFile.FieldType.int))) (by decide) rfl ?_
  intro p e s m args below meth c s₁ B hml hv
  obtain ⟨hargs, hP, hK⟩ := hv
  have hx := B.exec
  have hb := B.bytes
  have hr := B.returns
  have hts := atoms_spec (ws := Cond.code yX1_radiusAt cX1_radiusAt 5 ((Option.some Jvm.ClassFile.FieldType.int)) :: gw) B.pre
  have hg : ∀ w ∈ gw, w.before args s = true := fun w h => hts w (List.mem_cons_of_mem _ h)
  have hown : s.vm.findClass RX1 = some m.cls := findClass_of_methodNamed B.named
  have hlocks := B.notSynchronized
  show W p l e rm_X1_radiusAt s m args below meth c s.heap [] 0 0 _ _
  have hl := lv_entry ([.ref h0, .int (zi (h))]) (n := 5) (Nat.le_of_ble_eq_true rfl)
  rw [show entryFrame m args 5 = entryFrame m ([.ref h0, .int (zi (h))] : List Value).toArray 5 by rw [hargs], lg_entry_eq]
  generalize (lg_sl ([.ref h0, .int (zi (h))]) ++ List.replicate (5 - (lg_sl ([.ref h0, .int (zi (h))])).length) Slot.unset).toArray = ls at hl ⊢
  have hl : lv_has ls 5 [(0, .ref h0), (1, .int (zi (h)))] := hl
  obtain ⟨QQ, hQQ⟩ : ∃ Q, Q = MQ below (RdQ (some (.int (zi (p_radius n hs rs h))))) args s 0 0 (fun _ => False) := ⟨_, rfl⟩
  rw [← hQQ]
  refine lv_iconst (v := zi (-1)) hx hb dX1_radiusAt_0 rfl ?_
  refine lv_istore_n (lv' := [(2, .int (zi (-1))), (0, .ref h0), (1, .int (zi (h)))]) hx hb dX1_radiusAt_1 rfl hl (by decide) rfl (fun ls hl => ?_)
  refine lv_iconst (v := zi (0)) hx hb dX1_radiusAt_2 rfl ?_
  refine lv_istore_n (lv' := [(3, .int (zi (0))), (2, .int (zi (-1))), (0, .ref h0), (1, .int (zi (h)))]) hx hb dX1_radiusAt_3 rfl hl (by decide) rfl (fun ls hl => ?_)
  have key_4 : ∀ (n_ : Nat) (k : Nat) (g : Int), k ≤ n → -1 ≤ g ∧ g ≤ 200 → p_rad hs rs h (n - k) k g = p_radius n hs rs h → n - k < n_ → ∀ (ls : Array Slot), lv_has ls 5 [(3, .int (zi ((k : Int)))), (2, .int (zi (g))), (1, .int (zi (h))), (0, .ref h0)] → W p l e rm_X1_radiusAt s m args below meth c s.heap [] 0 0 QQ (F0 m 4 ls []) := by
    intro n_
    induction n_ with
    | zero => intro k g hk hg9 ht hm_; exact absurd hm_ (Nat.not_lt_zero _)
    | succ n_ ih =>
      intro k g hk hg9 ht hm_ ls hl
      refine lv_iload_n hx hb dX1_radiusAt_4 rfl (lv_at hl 0 rfl) ?_
      refine lv_aload_n hx hb dX1_radiusAt_5 rfl (lv_at hl 3 rfl) ?_
      refine va_get (D := (dC, dI)) (ci := 1) (v := .int (zi ((n : Int)))) (C := RX1) (T := TX1) (N := 5) hx hb hg inX1 hown hK hP 0 rfl rfl 2 (by decide) (hg _ wl_X1_22) (fun _ h9 => h9) rfl dX1_radiusAt_6 ?_
      refine zz_icmp_ge (tgt := 96) hx hb (by omega) (by omega) dX1_radiusAt_9 (by decide) (fun c_9 => ?_) (fun c_9 => ?_)
      · refine lv_iload_n hx hb dX1_radiusAt_96 rfl (lv_at hl 1 rfl) ?_
        rw [hQQ]
        exact rd_i hx hb hr hlocks (by rw [← ht, show n - k = 0 by omega, p_rad]) dX1_radiusAt_97
      · refine lv_aload_n hx hb dX1_radiusAt_12 rfl (lv_at hl 3 rfl) ?_
        refine va_get (D := (dC, dI)) (ci := 1) (v := .ref h1) (C := RX1) (T := TX1) (N := 5) hx hb hg inX1 hown hK hP 0 rfl rfl 0 (by decide) (hg _ wl_X1_9) (fun _ h9 => h9) rfl dX1_radiusAt_13 ?_
        refine lv_iload_n hx hb dX1_radiusAt_16 rfl (lv_at hl 0 rfl) ?_
        refine zz_iald hx hb hK hP 1 0 rfl rfl (k) (by omega) (by omega) (by decide) dX1_radiusAt_17 ?_
        have hv_1 := hH (k)
        refine lv_iload_n hx hb dX1_radiusAt_18 rfl (lv_at hl 2 rfl) ?_
        refine zz_icmp_ne (tgt := 36) hx hb (by omega) (by omega) dX1_radiusAt_19 (by decide) (fun c_19 => ?_) (fun c_19 => ?_)
        · refine lv_iload_n hx hb dX1_radiusAt_36 rfl (lv_at hl 0 rfl) ?_
          refine zz_if_le (tgt := 90) hx hb (by omega) dX1_radiusAt_37 (by decide) (fun c_37 => ?_) (fun c_37 => ?_)
          · refine lv_iinc (v := zi (((k : Int)) + (1))) (lv' := [(3, .int (zi (((k : Int)) + (1)))), (2, .int (zi (g))), (1, .int (zi (h))), (0, .ref h0)]) hx hb dX1_radiusAt_90 hl (k := 0) rfl (zi_add _ _) (by decide) rfl (fun ls hl => ?_)
            refine lv_goto (tgt := 4) hx hb dX1_radiusAt_93 (by decide) ?_
            exact ih (k + 1) g (by omega) (by omega) (by rw [← ht, show n - k = (n - (k + 1)) + 1 by omega, p_rad, if_neg c_19, if_neg (by omega)]) (by omega) ls (lv_sub hl [0, 1, 2, 3] rfl)
          · refine lv_aload_n hx hb dX1_radiusAt_40 rfl (lv_at hl 3 rfl) ?_
            refine va_get (D := (dC, dI)) (ci := 1) (v := .ref h1) (C := RX1) (T := TX1) (N := 5) hx hb hg inX1 hown hK hP 0 rfl rfl 0 (by decide) (hg _ wl_X1_9) (fun _ h9 => h9) rfl dX1_radiusAt_41 ?_
            refine lv_iload_n hx hb dX1_radiusAt_44 rfl (lv_at hl 0 rfl) ?_
            refine lv_iconst (v := zi (1)) hx hb dX1_radiusAt_45 rfl ?_
            refine zz_isub hx hb dX1_radiusAt_46 ?_
            refine zz_iald hx hb hK hP 1 0 rfl rfl (k - 1) (by omega) (by omega) (by decide) dX1_radiusAt_47 ?_
            have hv_2 := hH (k - 1)
            refine lv_iload_n hx hb dX1_radiusAt_48 rfl (lv_at hl 2 rfl) ?_
            refine zz_icmp_ge (tgt := 90) hx hb (by omega) (by omega) dX1_radiusAt_49 (by decide) (fun c_49 => ?_) (fun c_49 => ?_)
            · refine lv_iinc (v := zi (((k : Int)) + (1))) (lv' := [(3, .int (zi (((k : Int)) + (1)))), (2, .int (zi (g))), (1, .int (zi (h))), (0, .ref h0)]) hx hb dX1_radiusAt_90 hl (k := 0) rfl (zi_add _ _) (by decide) rfl (fun ls hl => ?_)
              refine lv_goto (tgt := 4) hx hb dX1_radiusAt_93 (by decide) ?_
              exact ih (k + 1) g (by omega) (by omega) (by rw [← ht, show n - k = (n - (k + 1)) + 1 by omega, p_rad, if_neg c_19, if_neg (by omega)]) (by omega) ls (lv_sub hl [0, 1, 2, 3] rfl)
            · refine lv_iload_n hx hb dX1_radiusAt_52 rfl (lv_at hl 2 rfl) ?_
              refine lv_aload_n hx hb dX1_radiusAt_53 rfl (lv_at hl 3 rfl) ?_
              refine va_get (D := (dC, dI)) (ci := 1) (v := .ref h1) (C := RX1) (T := TX1) (N := 5) hx hb hg inX1 hown hK hP 0 rfl rfl 0 (by decide) (hg _ wl_X1_9) (fun _ h9 => h9) rfl dX1_radiusAt_54 ?_
              refine lv_iload_n hx hb dX1_radiusAt_57 rfl (lv_at hl 0 rfl) ?_
              refine zz_iald hx hb hK hP 1 0 rfl rfl (k) (by omega) (by omega) (by decide) dX1_radiusAt_58 ?_
              have hv_3 := hH (k)
              refine zz_icmp_ge (tgt := 90) hx hb (by omega) (by omega) dX1_radiusAt_59 (by decide) (fun c_59 => ?_) (fun c_59 => ?_)
              · refine lv_iinc (v := zi (((k : Int)) + (1))) (lv' := [(3, .int (zi (((k : Int)) + (1)))), (2, .int (zi (g))), (1, .int (zi (h))), (0, .ref h0)]) hx hb dX1_radiusAt_90 hl (k := 0) rfl (zi_add _ _) (by decide) rfl (fun ls hl => ?_)
                refine lv_goto (tgt := 4) hx hb dX1_radiusAt_93 (by decide) ?_
                exact ih (k + 1) g (by omega) (by omega) (by rw [← ht, show n - k = (n - (k + 1)) + 1 by omega, p_rad, if_neg c_19, if_neg (by omega)]) (by omega) ls (lv_sub hl [0, 1, 2, 3] rfl)
              · refine lv_aload_n hx hb dX1_radiusAt_62 rfl (lv_at hl 3 rfl) ?_
                refine va_get (D := (dC, dI)) (ci := 1) (v := .ref h1) (C := RX1) (T := TX1) (N := 5) hx hb hg inX1 hown hK hP 0 rfl rfl 0 (by decide) (hg _ wl_X1_9) (fun _ h9 => h9) rfl dX1_radiusAt_63 ?_
                refine lv_iload_n hx hb dX1_radiusAt_66 rfl (lv_at hl 0 rfl) ?_
                refine zz_iald hx hb hK hP 1 0 rfl rfl (k) (by omega) (by omega) (by decide) dX1_radiusAt_67 ?_
                have hv_4 := hH (k)
                refine lv_aload_n hx hb dX1_radiusAt_68 rfl (lv_at hl 3 rfl) ?_
                refine va_get (D := (dC, dI)) (ci := 1) (v := .ref h1) (C := RX1) (T := TX1) (N := 5) hx hb hg inX1 hown hK hP 0 rfl rfl 0 (by decide) (hg _ wl_X1_9) (fun _ h9 => h9) rfl dX1_radiusAt_69 ?_
                refine lv_iload_n hx hb dX1_radiusAt_72 rfl (lv_at hl 0 rfl) ?_
                refine lv_iconst (v := zi (1)) hx hb dX1_radiusAt_73 rfl ?_
                refine zz_isub hx hb dX1_radiusAt_74 ?_
                refine zz_iald hx hb hK hP 1 0 rfl rfl (k - 1) (by omega) (by omega) (by decide) dX1_radiusAt_75 ?_
                have hv_5 := hH (k - 1)
                refine zz_isub hx hb dX1_radiusAt_76 ?_
                refine lv_istore (lv' := [(4, .int (zi ((hs (k)) - (hs (k - 1))))), (3, .int (zi ((k : Int)))), (2, .int (zi (g))), (1, .int (zi (h))), (0, .ref h0)]) hx hb dX1_radiusAt_77 hl (by decide) rfl (fun ls hl => ?_)
                refine lv_aload_n hx hb dX1_radiusAt_79 rfl (lv_at hl 4 rfl) ?_
                refine lv_iload_n hx hb dX1_radiusAt_80 rfl (lv_at hl 1 rfl) ?_
                refine lv_iconst (v := zi (0)) hx hb dX1_radiusAt_81 rfl ?_
                refine lv_iload_n hx hb dX1_radiusAt_82 rfl (lv_at hl 3 rfl) ?_
                refine rdV (As := [.int (zi ((k : Int))), .int (zi (0)), .int (zi (h))]) (rest := []) (n := 3) hx hb hml hown hg (c_X1_scaledRadius l dC dI h0 h1 h2 cA n th wc hs rs (k) (0) (h) hn hH hR (by omega) (by decide)) (gwV wl_X1_40 wm_X1_scaledRadius we_X1_scaledRadius wi_X1 wc_X1_scaledRadius) rfl rfl (by decide +kernel) ⟨Nat.le_of_ble_eq_true rfl, Nat.le_of_ble_eq_true rfl⟩ (hK.sub [0] rfl) (hP.sub [0, 1, 2] rfl) 0 rfl rfl rfl rfl hl.1 rfl (Nat.le_of_ble_eq_true rfl) dX1_radiusAt_83 ⟨Nat.zero_le _, Nat.zero_le _⟩ ?_
                refine lv_iload hx hb dX1_radiusAt_86 (lv_at hl 0 rfl) ?_
                refine zz_idiv hx hb (by have := p_sc_bd (hs := hs) (k := k) (wall := 0) (h := h) hR (by decide) (by omega) (by omega); omega) (by omega) dX1_radiusAt_88 ?_
                rw [hQQ]
                exact rd_i hx hb hr hlocks (by rw [← ht, show n - k = (n - (k + 1)) + 1 by omega, p_rad, if_neg c_19, if_pos (by omega)]) dX1_radiusAt_89
        · refine lv_iload_n hx hb dX1_radiusAt_22 rfl (lv_at hl 1 rfl) ?_
          refine lv_aload_n hx hb dX1_radiusAt_23 rfl (lv_at hl 3 rfl) ?_
          refine va_get (D := (dC, dI)) (ci := 1) (v := .ref h2) (C := RX1) (T := TX1) (N := 5) hx hb hg inX1 hown hK hP 0 rfl rfl 1 (by decide) (hg _ wl_X1_15) (fun _ h9 => h9) rfl dX1_radiusAt_24 ?_
          refine lv_iload_n hx hb dX1_radiusAt_27 rfl (lv_at hl 0 rfl) ?_
          refine zz_iald hx hb hK hP 2 0 rfl rfl (k) (by omega) (by omega) (by decide) dX1_radiusAt_28 ?_
          have hv_6 := hR (k)
          refine va_mmax hx hb (hml.trans hl.1.symm) hown (hg _ wl_X1_34) (hg _ wt_Math_max) (hg _ wi_Math) (hg _ wc_Math_max_II_I) (Nat.le_of_ble_eq_true rfl) (Nat.le_of_ble_eq_true rfl) (Nat.zero_le _) (Nat.zero_le _) dX1_radiusAt_29 ?_
          refine zz_topi (z := max (g) (rs (k))) (zi_max (by omega)) ?_
          refine lv_istore_n (lv' := [(2, .int (zi (max (g) (rs (k))))), (3, .int (zi ((k : Int)))), (1, .int (zi (h))), (0, .ref h0)]) hx hb dX1_radiusAt_32 rfl hl (by decide) rfl (fun ls hl => ?_)
          refine lv_goto (tgt := 90) hx hb dX1_radiusAt_33 (by decide) ?_
          refine lv_iinc (v := zi (((k : Int)) + (1))) (lv' := [(3, .int (zi (((k : Int)) + (1)))), (2, .int (zi (max (g) (rs (k))))), (1, .int (zi (h))), (0, .ref h0)]) hx hb dX1_radiusAt_90 hl (k := 1) rfl (zi_add _ _) (by decide) rfl (fun ls hl => ?_)
          refine lv_goto (tgt := 4) hx hb dX1_radiusAt_93 (by decide) ?_
          exact ih (k + 1) (max g (rs k)) (by omega) (by omega) (by rw [← ht, show n - k = (n - (k + 1)) + 1 by omega, p_rad, if_pos c_19]) (by omega) ls (lv_sub hl [0, 1, 2, 3] rfl)
  exact key_4 _ 0 (-1) (Nat.zero_le _) (by decide) rfl (Nat.lt_succ_self _) ls (lv_sub hl [0, 1, 3, 2] rfl)

theorem p_rad_bd {hs rs : Nat → Int} {h : Int} (hH : ∀ j, 0 ≤ hs j ∧ hs j ≤ 400) (hR : ∀ j, 0 ≤ rs j ∧ rs j ≤ 200) : ∀ (f k : Nat) (g : Int), -1 ≤ g → g ≤ 200 → -1 ≤ p_rad hs rs h f k g ∧ p_rad hs rs h f k g ≤ 200 := by
  intro f
  induction f with
  | zero => intro k g h1 h2; exact ⟨h1, h2⟩
  | succ f ih =>
    intro k g h1 h2
    have a := hR k
    unfold p_rad
    split
    · exact ih _ _ (by omega) (by omega)
    · split
      · rename_i q
        have b := p_sc_bd (hs := hs) (k := k) (wall := 0) (h := h) hR (by decide) (by omega) (by omega)
        have hp : 0 < hs k - hs (k - 1) := by omega
        rw [Int.tdiv_eq_ediv_of_nonneg b.1]
        have h3 : 0 ≤ p_sc hs rs k 0 h / (hs k - hs (k - 1)) := Int.ediv_nonneg b.1 (by omega)
        have h4 : p_sc hs rs k 0 h / (hs k - hs (k - 1)) ≤ 200 := Int.ediv_le_of_le_mul hp b.2
        omega
      · exact ih _ _ h1 h2
theorem p_radius_bd {n : Nat} {hs rs : Nat → Int} {h : Int} (hH : ∀ j, 0 ≤ hs j ∧ hs j ≤ 400) (hR : ∀ j, 0 ≤ rs j ∧ rs j ≤ 200) : -1 ≤ p_radius n hs rs h ∧ p_radius n hs rs h ≤ 200 := p_rad_bd hH hR n 0 (-1) (by decide) (by decide)
abbrev rm_X1_radiusOrZero : Room := { frames := 3, cells := 0, slots := 0, locals := 73 }
set_option maxHeartbeats 4000000 in
set_option maxRecDepth 100000 in
theorem c_X1_radiusOrZero (l : Launch) (dC : Nat → ClassId) (dI : Nat → Nat → Nat) (h0 h1 h2 : Nat) (cA : ClassId) (n : Nat) (th wc : Int) (hs rs : Nat → Int) (h : Int) (hn : n ≤ 12) (hH : ∀ j, 0 ≤ hs j ∧ hs j ≤ 400) (hR : ∀ j, 0 ≤ rs j ∧ rs j ≤ 200) (hh : -2147483648 ≤ h ∧ h < 2147483648) : Met l yX1_radiusOrZero (Cond.code yX1_radiusOrZero cX1_radiusOrZero 2 ((Option.some Jvm.ClassFile.FieldType.int)) :: gw) rm_X1_radiusOrZero (PcR [.ref h0, .int (zi (h))] (dC, dI) vwCl [(h0, .inr (1, [.ref h1, .ref h2, .int (zi ((n : Int))), .int (zi (th)), .int (zi (wc))])), (h1, .inl (cA, 12, .inl (zA (hs)))), (h2, .inl (cA, 12, .inl (zA (rs))))] [(cA, .int)]) (RdQ (some (.int (zi (max 0 (p_radius n hs rs h)))))) 0 0 (fun _ => False) := by
  refine Met.ofW (cc := cX1_radiusOrZero) (maxL := 2) (ret := ((Option.some Jvm.ClassFile.FieldType.int))) (by decide) rfl ?_
  intro p e s m args below meth c s₁ B hml hv
  obtain ⟨hargs, hP, hK⟩ := hv
  have hx := B.exec
  have hb := B.bytes
  have hr := B.returns
  have hts := atoms_spec (ws := Cond.code yX1_radiusOrZero cX1_radiusOrZero 2 ((Option.some Jvm.ClassFile.FieldType.int)) :: gw) B.pre
  have hg : ∀ w ∈ gw, w.before args s = true := fun w h => hts w (List.mem_cons_of_mem _ h)
  have hown : s.vm.findClass RX1 = some m.cls := findClass_of_methodNamed B.named
  have hlocks := B.notSynchronized
  show W p l e rm_X1_radiusOrZero s m args below meth c s.heap [] 0 0 _ _
  have hl := lv_entry ([.ref h0, .int (zi (h))]) (n := 2) (Nat.le_of_ble_eq_true rfl)
  rw [show entryFrame m args 2 = entryFrame m ([.ref h0, .int (zi (h))] : List Value).toArray 2 by rw [hargs], lg_entry_eq]
  generalize (lg_sl ([.ref h0, .int (zi (h))]) ++ List.replicate (2 - (lg_sl ([.ref h0, .int (zi (h))])).length) Slot.unset).toArray = ls at hl ⊢
  have hl : lv_has ls 2 [(0, .ref h0), (1, .int (zi (h)))] := hl
  obtain ⟨QQ, hQQ⟩ : ∃ Q, Q = MQ below (RdQ (some (.int (zi (max 0 (p_radius n hs rs h)))))) args s 0 0 (fun _ => False) := ⟨_, rfl⟩
  rw [← hQQ]
  refine lv_iconst (v := zi (0)) hx hb dX1_radiusOrZero_0 rfl ?_
  refine lv_aload_n hx hb dX1_radiusOrZero_1 rfl (lv_at hl 0 rfl) ?_
  refine lv_iload_n hx hb dX1_radiusOrZero_2 rfl (lv_at hl 1 rfl) ?_
  refine rdV (As := [.int (zi (h))]) (rest := [.int (zi (0))]) (n := 1) hx hb hml hown hg (c_X1_radiusAt l dC dI h0 h1 h2 cA n th wc hs rs (h) hn hH hR hh) (gwV wl_X1_44 wm_X1_radiusAt we_X1_radiusAt wi_X1 wc_X1_radiusAt) rfl rfl (by decide +kernel) ⟨Nat.le_of_ble_eq_true rfl, Nat.le_of_ble_eq_true rfl⟩ (hK.sub [0] rfl) (hP.sub [0, 1, 2] rfl) 0 rfl rfl rfl rfl hl.1 rfl (Nat.le_of_ble_eq_true rfl) dX1_radiusOrZero_3 ⟨Nat.zero_le _, Nat.zero_le _⟩ ?_
  refine va_mmax hx hb (hml.trans hl.1.symm) hown (hg _ wl_X1_34) (hg _ wt_Math_max) (hg _ wi_Math) (hg _ wc_Math_max_II_I) (Nat.le_of_ble_eq_true rfl) (Nat.le_of_ble_eq_true rfl) (Nat.zero_le _) (Nat.zero_le _) dX1_radiusOrZero_6 ?_
  refine zz_topi (z := max (0) (p_radius n hs rs (h))) (zi_max (by have := p_radius_bd (n := n) (h := h) hH hR; omega)) ?_
  rw [hQQ]
  exact rd_i hx hb hr hlocks rfl dX1_radiusOrZero_9

abbrev rm_X1_countUpTo : Room := { frames := 0, cells := 0, slots := 0, locals := 0 }
set_option maxHeartbeats 4000000 in
set_option maxRecDepth 100000 in
theorem c_X1_countUpTo (l : Launch) (dC : Nat → ClassId) (dI : Nat → Nat → Nat) (h0 h1 h2 : Nat) (cA : ClassId) (n : Nat) (th wc : Int) (hs rs : Nat → Int) (h : Int) (hn : n ≤ 12) (hH : ∀ j, 0 ≤ hs j ∧ hs j ≤ 400) (hR : ∀ j, 0 ≤ rs j ∧ rs j ≤ 200) (hh : -2147483648 ≤ h ∧ h < 2147483648) : Met l yX1_countUpTo (Cond.code yX1_countUpTo cX1_countUpTo 4 ((Option.some Jvm.ClassFile.FieldType.int)) :: gw) rm_X1_countUpTo (PcR [.ref h0, .int (zi (h))] (dC, dI) vwCl [(h0, .inr (1, [.ref h1, .ref h2, .int (zi ((n : Int))), .int (zi (th)), .int (zi (wc))])), (h1, .inl (cA, 12, .inl (zA (hs)))), (h2, .inl (cA, 12, .inl (zA (rs))))] [(cA, .int)]) (RdQ (some (.int (zi ((p_cu hs h n : Nat) : Int))))) 0 0 (fun _ => False) := by
  refine Met.ofW (cc := cX1_countUpTo) (maxL := 4) (ret := ((Option.some Jvm.ClassFile.FieldType.int))) (by decide) rfl ?_
  intro p e s m args below meth c s₁ B hml hv
  obtain ⟨hargs, hP, hK⟩ := hv
  have hx := B.exec
  have hb := B.bytes
  have hr := B.returns
  have hts := atoms_spec (ws := Cond.code yX1_countUpTo cX1_countUpTo 4 ((Option.some Jvm.ClassFile.FieldType.int)) :: gw) B.pre
  have hg : ∀ w ∈ gw, w.before args s = true := fun w h => hts w (List.mem_cons_of_mem _ h)
  have hown : s.vm.findClass RX1 = some m.cls := findClass_of_methodNamed B.named
  have hlocks := B.notSynchronized
  show W p l e rm_X1_countUpTo s m args below meth c s.heap [] 0 0 _ _
  have hl := lv_entry ([.ref h0, .int (zi (h))]) (n := 4) (Nat.le_of_ble_eq_true rfl)
  rw [show entryFrame m args 4 = entryFrame m ([.ref h0, .int (zi (h))] : List Value).toArray 4 by rw [hargs], lg_entry_eq]
  generalize (lg_sl ([.ref h0, .int (zi (h))]) ++ List.replicate (4 - (lg_sl ([.ref h0, .int (zi (h))])).length) Slot.unset).toArray = ls at hl ⊢
  have hl : lv_has ls 4 [(0, .ref h0), (1, .int (zi (h)))] := hl
  obtain ⟨QQ, hQQ⟩ : ∃ Q, Q = MQ below (RdQ (some (.int (zi ((p_cu hs h n : Nat) : Int))))) args s 0 0 (fun _ => False) := ⟨_, rfl⟩
  rw [← hQQ]
  refine lv_iconst (v := zi (0)) hx hb dX1_countUpTo_0 rfl ?_
  refine lv_istore_n (lv' := [(2, .int (zi (0))), (0, .ref h0), (1, .int (zi (h)))]) hx hb dX1_countUpTo_1 rfl hl (by decide) rfl (fun ls hl => ?_)
  refine lv_iconst (v := zi (0)) hx hb dX1_countUpTo_2 rfl ?_
  refine lv_istore_n (lv' := [(3, .int (zi (0))), (2, .int (zi (0))), (0, .ref h0), (1, .int (zi (h)))]) hx hb dX1_countUpTo_3 rfl hl (by decide) rfl (fun ls hl => ?_)
  have key_4 : ∀ (n_ : Nat) (k : Nat), k ≤ n → n - k < n_ → ∀ (ls : Array Slot), lv_has ls 4 [(3, .int (zi ((k : Int)))), (2, .int (zi (((p_cu hs h k : Nat) : Int)))), (1, .int (zi (h))), (0, .ref h0)] → W p l e rm_X1_countUpTo s m args below meth c s.heap [] 0 0 QQ (F0 m 4 ls []) := by
    intro n_
    induction n_ with
    | zero => intro k hk hm_; exact absurd hm_ (Nat.not_lt_zero _)
    | succ n_ ih =>
      intro k hk hm_ ls hl
      refine lv_iload_n hx hb dX1_countUpTo_4 rfl (lv_at hl 0 rfl) ?_
      refine lv_aload_n hx hb dX1_countUpTo_5 rfl (lv_at hl 3 rfl) ?_
      refine va_get (D := (dC, dI)) (ci := 1) (v := .int (zi ((n : Int)))) (C := RX1) (T := TX1) (N := 5) hx hb hg inX1 hown hK hP 0 rfl rfl 2 (by decide) (hg _ wl_X1_22) (fun _ h9 => h9) rfl dX1_countUpTo_6 ?_
      refine zz_icmp_ge (tgt := 31) hx hb (by omega) (by omega) dX1_countUpTo_9 (by decide) (fun c_9 => ?_) (fun c_9 => ?_)
      · refine lv_iload_n hx hb dX1_countUpTo_31 rfl (lv_at hl 1 rfl) ?_
        rw [hQQ]
        exact rd_i hx hb hr hlocks (by rw [show k = n by omega]) dX1_countUpTo_32
      · refine lv_aload_n hx hb dX1_countUpTo_12 rfl (lv_at hl 3 rfl) ?_
        refine va_get (D := (dC, dI)) (ci := 1) (v := .ref h1) (C := RX1) (T := TX1) (N := 5) hx hb hg inX1 hown hK hP 0 rfl rfl 0 (by decide) (hg _ wl_X1_9) (fun _ h9 => h9) rfl dX1_countUpTo_13 ?_
        refine lv_iload_n hx hb dX1_countUpTo_16 rfl (lv_at hl 0 rfl) ?_
        refine zz_iald hx hb hK hP 1 0 rfl rfl (k) (by omega) (by omega) (by decide) dX1_countUpTo_17 ?_
        have hv_1 := hH (k)
        refine lv_iload_n hx hb dX1_countUpTo_18 rfl (lv_at hl 2 rfl) ?_
        refine zz_icmp_gt (tgt := 25) hx hb (by omega) (by omega) dX1_countUpTo_19 (by decide) (fun c_19 => ?_) (fun c_19 => ?_)
        · have hc : ¬ hs k ≤ h := by omega
          refine lv_iinc (v := zi (((k : Int)) + (1))) (lv' := [(3, .int (zi (((k : Int)) + (1)))), (2, .int (zi (((p_cu hs h k : Nat) : Int)))), (1, .int (zi (h))), (0, .ref h0)]) hx hb dX1_countUpTo_25 hl (k := 0) rfl (zi_add _ _) (by decide) rfl (fun ls hl => ?_)
          refine lv_goto (tgt := 4) hx hb dX1_countUpTo_28 (by decide) ?_
          exact ih (k + 1) (by omega) (by omega) ls (lv_sub hl [0, 1, 2, 3] (by simp only [p_cu, if_neg hc]; rfl))
        · have hc : hs k ≤ h := by omega
          refine lv_iinc (v := zi ((((p_cu hs h k : Nat) : Int)) + (1))) (lv' := [(2, .int (zi ((((p_cu hs h k : Nat) : Int)) + (1)))), (3, .int (zi ((k : Int)))), (1, .int (zi (h))), (0, .ref h0)]) hx hb dX1_countUpTo_22 hl (k := 1) rfl (zi_add _ _) (by decide) rfl (fun ls hl => ?_)
          refine lv_iinc (v := zi (((k : Int)) + (1))) (lv' := [(3, .int (zi (((k : Int)) + (1)))), (2, .int (zi ((((p_cu hs h k : Nat) : Int)) + (1)))), (1, .int (zi (h))), (0, .ref h0)]) hx hb dX1_countUpTo_25 hl (k := 1) rfl (zi_add _ _) (by decide) rfl (fun ls hl => ?_)
          refine lv_goto (tgt := 4) hx hb dX1_countUpTo_28 (by decide) ?_
          exact ih (k + 1) (by omega) (by omega) ls (lv_sub hl [0, 1, 2, 3] (by simp only [p_cu, if_pos hc]; rfl))
  exact key_4 _ 0 (Nat.zero_le _) (Nat.lt_succ_self _) ls (lv_sub hl [0, 1, 3, 2] rfl)

abbrev rm_X1_countOffAxis : Room := { frames := 0, cells := 0, slots := 0, locals := 0 }
set_option maxHeartbeats 4000000 in
set_option maxRecDepth 100000 in
theorem c_X1_countOffAxis (l : Launch) (dC : Nat → ClassId) (dI : Nat → Nat → Nat) (h0 h1 h2 : Nat) (cA : ClassId) (n : Nat) (th wc : Int) (hs rs : Nat → Int) (hn : n ≤ 12) (hH : ∀ j, 0 ≤ hs j ∧ hs j ≤ 400) (hR : ∀ j, 0 ≤ rs j ∧ rs j ≤ 200) : Met l yX1_countOffAxis (Cond.code yX1_countOffAxis cX1_countOffAxis 3 ((Option.some Jvm.ClassFile.FieldType.int)) :: gw) rm_X1_countOffAxis (PcR [.ref h0] (dC, dI) vwCl [(h0, .inr (1, [.ref h1, .ref h2, .int (zi ((n : Int))), .int (zi (th)), .int (zi (wc))])), (h1, .inl (cA, 12, .inl (zA (hs)))), (h2, .inl (cA, 12, .inl (zA (rs))))] [(cA, .int)]) (RdQ (some (.int (zi ((p_co rs n : Nat) : Int))))) 0 0 (fun _ => False) := by
  refine Met.ofW (cc := cX1_countOffAxis) (maxL := 3) (ret := ((Option.some Jvm.ClassFile.FieldType.int))) (by decide) rfl ?_
  intro p e s m args below meth c s₁ B hml hv
  obtain ⟨hargs, hP, hK⟩ := hv
  have hx := B.exec
  have hb := B.bytes
  have hr := B.returns
  have hts := atoms_spec (ws := Cond.code yX1_countOffAxis cX1_countOffAxis 3 ((Option.some Jvm.ClassFile.FieldType.int)) :: gw) B.pre
  have hg : ∀ w ∈ gw, w.before args s = true := fun w h => hts w (List.mem_cons_of_mem _ h)
  have hown : s.vm.findClass RX1 = some m.cls := findClass_of_methodNamed B.named
  have hlocks := B.notSynchronized
  show W p l e rm_X1_countOffAxis s m args below meth c s.heap [] 0 0 _ _
  have hl := lv_entry ([.ref h0]) (n := 3) (Nat.le_of_ble_eq_true rfl)
  rw [show entryFrame m args 3 = entryFrame m ([.ref h0] : List Value).toArray 3 by rw [hargs], lg_entry_eq]
  generalize (lg_sl ([.ref h0]) ++ List.replicate (3 - (lg_sl ([.ref h0])).length) Slot.unset).toArray = ls at hl ⊢
  have hl : lv_has ls 3 [(0, .ref h0)] := hl
  obtain ⟨QQ, hQQ⟩ : ∃ Q, Q = MQ below (RdQ (some (.int (zi ((p_co rs n : Nat) : Int))))) args s 0 0 (fun _ => False) := ⟨_, rfl⟩
  rw [← hQQ]
  refine lv_iconst (v := zi (0)) hx hb dX1_countOffAxis_0 rfl ?_
  refine lv_istore_n (lv' := [(1, .int (zi (0))), (0, .ref h0)]) hx hb dX1_countOffAxis_1 rfl hl (by decide) rfl (fun ls hl => ?_)
  refine lv_iconst (v := zi (0)) hx hb dX1_countOffAxis_2 rfl ?_
  refine lv_istore_n (lv' := [(2, .int (zi (0))), (1, .int (zi (0))), (0, .ref h0)]) hx hb dX1_countOffAxis_3 rfl hl (by decide) rfl (fun ls hl => ?_)
  have key_4 : ∀ (n_ : Nat) (k : Nat), k ≤ n → n - k < n_ → ∀ (ls : Array Slot), lv_has ls 3 [(2, .int (zi ((k : Int)))), (1, .int (zi (((p_co rs k : Nat) : Int)))), (0, .ref h0)] → W p l e rm_X1_countOffAxis s m args below meth c s.heap [] 0 0 QQ (F0 m 4 ls []) := by
    intro n_
    induction n_ with
    | zero => intro k hk hm_; exact absurd hm_ (Nat.not_lt_zero _)
    | succ n_ ih =>
      intro k hk hm_ ls hl
      refine lv_iload_n hx hb dX1_countOffAxis_4 rfl (lv_at hl 0 rfl) ?_
      refine lv_aload_n hx hb dX1_countOffAxis_5 rfl (lv_at hl 2 rfl) ?_
      refine va_get (D := (dC, dI)) (ci := 1) (v := .int (zi ((n : Int)))) (C := RX1) (T := TX1) (N := 5) hx hb hg inX1 hown hK hP 0 rfl rfl 2 (by decide) (hg _ wl_X1_22) (fun _ h9 => h9) rfl dX1_countOffAxis_6 ?_
      refine zz_icmp_ge (tgt := 30) hx hb (by omega) (by omega) dX1_countOffAxis_9 (by decide) (fun c_9 => ?_) (fun c_9 => ?_)
      · refine lv_iload_n hx hb dX1_countOffAxis_30 rfl (lv_at hl 1 rfl) ?_
        rw [hQQ]
        exact rd_i hx hb hr hlocks (by rw [show k = n by omega]) dX1_countOffAxis_31
      · refine lv_aload_n hx hb dX1_countOffAxis_12 rfl (lv_at hl 2 rfl) ?_
        refine va_get (D := (dC, dI)) (ci := 1) (v := .ref h2) (C := RX1) (T := TX1) (N := 5) hx hb hg inX1 hown hK hP 0 rfl rfl 1 (by decide) (hg _ wl_X1_15) (fun _ h9 => h9) rfl dX1_countOffAxis_13 ?_
        refine lv_iload_n hx hb dX1_countOffAxis_16 rfl (lv_at hl 0 rfl) ?_
        refine zz_iald hx hb hK hP 2 0 rfl rfl (k) (by omega) (by omega) (by decide) dX1_countOffAxis_17 ?_
        have hv_1 := hR (k)
        refine zz_if_eq (tgt := 24) hx hb (by omega) dX1_countOffAxis_18 (by decide) (fun c_18 => ?_) (fun c_18 => ?_)
        · refine lv_iinc (v := zi (((k : Int)) + (1))) (lv' := [(2, .int (zi (((k : Int)) + (1)))), (1, .int (zi (((p_co rs k : Nat) : Int)))), (0, .ref h0)]) hx hb dX1_countOffAxis_24 hl (k := 0) rfl (zi_add _ _) (by decide) rfl (fun ls hl => ?_)
          refine lv_goto (tgt := 4) hx hb dX1_countOffAxis_27 (by decide) ?_
          exact ih (k + 1) (by omega) (by omega) ls (lv_sub hl [0, 1, 2] (by simp only [p_co, if_pos c_18]; rfl))
        · refine lv_iinc (v := zi ((((p_co rs k : Nat) : Int)) + (1))) (lv' := [(1, .int (zi ((((p_co rs k : Nat) : Int)) + (1)))), (2, .int (zi ((k : Int)))), (0, .ref h0)]) hx hb dX1_countOffAxis_21 hl (k := 1) rfl (zi_add _ _) (by decide) rfl (fun ls hl => ?_)
          refine lv_iinc (v := zi (((k : Int)) + (1))) (lv' := [(2, .int (zi (((k : Int)) + (1)))), (1, .int (zi ((((p_co rs k : Nat) : Int)) + (1)))), (0, .ref h0)]) hx hb dX1_countOffAxis_24 hl (k := 1) rfl (zi_add _ _) (by decide) rfl (fun ls hl => ?_)
          refine lv_goto (tgt := 4) hx hb dX1_countOffAxis_27 (by decide) ?_
          exact ih (k + 1) (by omega) (by omega) ls (lv_sub hl [0, 1, 2] (by simp only [p_co, if_neg c_18]; rfl))
  exact key_4 _ 0 (Nat.zero_le _) (Nat.lt_succ_self _) ls (lv_sub hl [0, 1, 2] rfl)

abbrev rm_X1_findOffAxis : Room := { frames := 0, cells := 0, slots := 0, locals := 0 }
set_option maxHeartbeats 4000000 in
set_option maxRecDepth 100000 in
theorem c_X1_findOffAxis (l : Launch) (dC : Nat → ClassId) (dI : Nat → Nat → Nat) (h0 h1 h2 : Nat) (cA : ClassId) (n : Nat) (th wc : Int) (hs rs : Nat → Int) (ahead : Int) (hn : n ≤ 12) (hH : ∀ j, 0 ≤ hs j ∧ hs j ≤ 400) (hR : ∀ j, 0 ≤ rs j ∧ rs j ≤ 200) (hh : -2147483648 ≤ ahead ∧ ahead < 2147483648) : Met l yX1_findOffAxis (Cond.code yX1_findOffAxis cX1_findOffAxis 4 ((Option.some Jvm.ClassFile.FieldType.int)) :: gw) rm_X1_findOffAxis (PcR [.ref h0, .int (zi (ahead))] (dC, dI) vwCl [(h0, .inr (1, [.ref h1, .ref h2, .int (zi ((n : Int))), .int (zi (th)), .int (zi (wc))])), (h1, .inl (cA, 12, .inl (zA (hs)))), (h2, .inl (cA, 12, .inl (zA (rs))))] [(cA, .int)]) (RdQ (some (.int (zi (p_fo rs ahead n 0 0))))) 0 0 (fun _ => False) := by
  refine Met.ofW (cc := cX1_findOffAxis) (maxL := 4) (ret := ((Option.some Jvm.ClassFile.FieldType.int))) (by decide) rfl ?_
  intro p e s m args below meth c s₁ B hml hv
  obtain ⟨hargs, hP, hK⟩ := hv
  have hx := B.exec
  have hb := B.bytes
  have hr := B.returns
  have hts := atoms_spec (ws := Cond.code yX1_findOffAxis cX1_findOffAxis 4 ((Option.some Jvm.ClassFile.FieldType.int)) :: gw) B.pre
  have hg : ∀ w ∈ gw, w.before args s = true := fun w h => hts w (List.mem_cons_of_mem _ h)
  have hown : s.vm.findClass RX1 = some m.cls := findClass_of_methodNamed B.named
  have hlocks := B.notSynchronized
  show W p l e rm_X1_findOffAxis s m args below meth c s.heap [] 0 0 _ _
  have hl := lv_entry ([.ref h0, .int (zi (ahead))]) (n := 4) (Nat.le_of_ble_eq_true rfl)
  rw [show entryFrame m args 4 = entryFrame m ([.ref h0, .int (zi (ahead))] : List Value).toArray 4 by rw [hargs], lg_entry_eq]
  generalize (lg_sl ([.ref h0, .int (zi (ahead))]) ++ List.replicate (4 - (lg_sl ([.ref h0, .int (zi (ahead))])).length) Slot.unset).toArray = ls at hl ⊢
  have hl : lv_has ls 4 [(0, .ref h0), (1, .int (zi (ahead)))] := hl
  obtain ⟨QQ, hQQ⟩ : ∃ Q, Q = MQ below (RdQ (some (.int (zi (p_fo rs ahead n 0 0))))) args s 0 0 (fun _ => False) := ⟨_, rfl⟩
  rw [← hQQ]
  refine lv_iconst (v := zi (0)) hx hb dX1_findOffAxis_0 rfl ?_
  refine lv_istore_n (lv' := [(2, .int (zi (0))), (0, .ref h0), (1, .int (zi (ahead)))]) hx hb dX1_findOffAxis_1 rfl hl (by decide) rfl (fun ls hl => ?_)
  refine lv_iconst (v := zi (0)) hx hb dX1_findOffAxis_2 rfl ?_
  refine lv_istore_n (lv' := [(3, .int (zi (0))), (2, .int (zi (0))), (0, .ref h0), (1, .int (zi (ahead)))]) hx hb dX1_findOffAxis_3 rfl hl (by decide) rfl (fun ls hl => ?_)
  have key_4 : ∀ (n_ : Nat) (k d : Nat), k ≤ n → d ≤ k → p_fo rs ahead (n - k) k d = p_fo rs ahead n 0 0 → n - k < n_ → ∀ (ls : Array Slot), lv_has ls 4 [(3, .int (zi ((k : Int)))), (2, .int (zi ((d : Int)))), (1, .int (zi (ahead))), (0, .ref h0)] → W p l e rm_X1_findOffAxis s m args below meth c s.heap [] 0 0 QQ (F0 m 4 ls []) := by
    intro n_
    induction n_ with
    | zero => intro k d hk hd9 ht hm_; exact absurd hm_ (Nat.not_lt_zero _)
    | succ n_ ih =>
      intro k d hk hd9 ht hm_ ls hl
      refine lv_iload_n hx hb dX1_findOffAxis_4 rfl (lv_at hl 0 rfl) ?_
      refine lv_aload_n hx hb dX1_findOffAxis_5 rfl (lv_at hl 3 rfl) ?_
      refine va_get (D := (dC, dI)) (ci := 1) (v := .int (zi ((n : Int)))) (C := RX1) (T := TX1) (N := 5) hx hb hg inX1 hown hK hP 0 rfl rfl 2 (by decide) (hg _ wl_X1_22) (fun _ h9 => h9) rfl dX1_findOffAxis_6 ?_
      refine zz_icmp_ge (tgt := 40) hx hb (by omega) (by omega) dX1_findOffAxis_9 (by decide) (fun c_9 => ?_) (fun c_9 => ?_)
      · refine lv_iconst (v := zi (-1)) hx hb dX1_findOffAxis_40 rfl ?_
        rw [hQQ]
        exact rd_i hx hb hr hlocks (by rw [← ht, show n - k = 0 by omega, p_fo]) dX1_findOffAxis_41
      · refine lv_aload_n hx hb dX1_findOffAxis_12 rfl (lv_at hl 3 rfl) ?_
        refine va_get (D := (dC, dI)) (ci := 1) (v := .ref h2) (C := RX1) (T := TX1) (N := 5) hx hb hg inX1 hown hK hP 0 rfl rfl 1 (by decide) (hg _ wl_X1_15) (fun _ h9 => h9) rfl dX1_findOffAxis_13 ?_
        refine lv_iload_n hx hb dX1_findOffAxis_16 rfl (lv_at hl 0 rfl) ?_
        refine zz_iald hx hb hK hP 2 0 rfl rfl (k) (by omega) (by omega) (by decide) dX1_findOffAxis_17 ?_
        have hv_1 := hR (k)
        refine zz_if_ne (tgt := 24) hx hb (by omega) dX1_findOffAxis_18 (by decide) (fun c_18 => ?_) (fun c_18 => ?_)
        · refine lv_iload_n hx hb dX1_findOffAxis_24 rfl (lv_at hl 1 rfl) ?_
          refine lv_iload_n hx hb dX1_findOffAxis_25 rfl (lv_at hl 2 rfl) ?_
          refine zz_icmp_ne (tgt := 31) hx hb (by omega) (by omega) dX1_findOffAxis_26 (by decide) (fun c_26 => ?_) (fun c_26 => ?_)
          · refine lv_iinc (v := zi (((d : Int)) + (1))) (lv' := [(2, .int (zi (((d : Int)) + (1)))), (3, .int (zi ((k : Int)))), (1, .int (zi (ahead))), (0, .ref h0)]) hx hb dX1_findOffAxis_31 hl (k := 1) rfl (zi_add _ _) (by decide) rfl (fun ls hl => ?_)
            refine lv_iinc (v := zi (((k : Int)) + (1))) (lv' := [(3, .int (zi (((k : Int)) + (1)))), (2, .int (zi (((d : Int)) + (1)))), (1, .int (zi (ahead))), (0, .ref h0)]) hx hb dX1_findOffAxis_34 hl (k := 1) rfl (zi_add _ _) (by decide) rfl (fun ls hl => ?_)
            refine lv_goto (tgt := 4) hx hb dX1_findOffAxis_37 (by decide) ?_
            exact ih (k + 1) (d + 1) (by omega) (by omega) (by rw [← ht, show n - k = (n - (k + 1)) + 1 by omega, p_fo, if_neg c_18, if_neg c_26]) (by omega) ls (lv_sub hl [0, 1, 2, 3] rfl)
          · refine lv_iload_n hx hb dX1_findOffAxis_29 rfl (lv_at hl 0 rfl) ?_
            rw [hQQ]
            exact rd_i hx hb hr hlocks (by rw [← ht, show n - k = (n - (k + 1)) + 1 by omega, p_fo, if_neg c_18, if_pos (by omega)]) dX1_findOffAxis_30
        · refine lv_goto (tgt := 34) hx hb dX1_findOffAxis_21 (by decide) ?_
          refine lv_iinc (v := zi (((k : Int)) + (1))) (lv' := [(3, .int (zi (((k : Int)) + (1)))), (2, .int (zi ((d : Int)))), (1, .int (zi (ahead))), (0, .ref h0)]) hx hb dX1_findOffAxis_34 hl (k := 0) rfl (zi_add _ _) (by decide) rfl (fun ls hl => ?_)
          refine lv_goto (tgt := 4) hx hb dX1_findOffAxis_37 (by decide) ?_
          exact ih (k + 1) d (by omega) (by omega) (by rw [← ht, show n - k = (n - (k + 1)) + 1 by omega, p_fo, if_pos c_18]) (by omega) ls (lv_sub hl [0, 1, 2, 3] rfl)
  exact key_4 _ 0 0 (Nat.zero_le _) (Nat.le_refl _) rfl (Nat.lt_succ_self _) ls (lv_sub hl [0, 1, 3, 2] rfl)
