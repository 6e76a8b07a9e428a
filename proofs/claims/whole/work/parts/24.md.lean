def m_tms (al rm : Nat) (up : Int) : Nat := al / 100000000 + if up = 1 ∧ (0 < rm ∨ 0 < al % 100000000) then 1 else 0
theorem m_all (a b f : Nat) (hb : 0 < b) : a / b * f + a % b * (f / 32768) / b * 32768 + (a % b * (f / 32768) % b * 32768 + a % b * (f % 32768)) / b = a * f / b ∧ (a % b * (f / 32768) % b * 32768 + a % b * (f % 32768)) % b = a * f % b := by
  obtain ⟨r, hr⟩ : ∃ r, r = a % b := ⟨_, rfl⟩
  obtain ⟨g, hg⟩ : ∃ g, g = r * (f / 32768) := ⟨_, rfl⟩
  obtain ⟨w, hw⟩ : ∃ w, w = g % b * 32768 + r * (f % 32768) := ⟨_, rfl⟩
  rw [← hr, ← hg, ← hw]
  have e1 : a = b * (a / b) + r := by rw [hr]; exact (Nat.div_add_mod a b).symm
  have e2 : f = 32768 * (f / 32768) + f % 32768 := (Nat.div_add_mod f 32768).symm
  have e3 : g = b * (g / b) + g % b := (Nat.div_add_mod g b).symm
  have e4 : w = b * (w / b) + w % b := (Nat.div_add_mod w b).symm
  have e5 : r * f = g * 32768 + r * (f % 32768) := by
    have : r * f = r * (32768 * (f / 32768) + f % 32768) := by rw [← e2]
    rw [this, Nat.mul_add, hg, Nat.mul_left_comm, Nat.mul_comm 32768]
  have e6 : g * 32768 = b * (g / b * 32768) + g % b * 32768 := by
    have : g * 32768 = (b * (g / b) + g % b) * 32768 := by rw [← e3]
    rw [this, Nat.add_mul, Nat.mul_assoc]
  have e7 : a * f = b * (a / b * f) + r * f := by
    have : a * f = (b * (a / b) + r) * f := by rw [← e1]
    rw [this, Nat.add_mul, Nat.mul_assoc]
  have e8 : w % b + b * (a / b * f + g / b * 32768 + w / b) = a * f := by
    rw [Nat.mul_add, Nat.mul_add]
    omega
  have := (Nat.div_mod_unique hb (a := a * f) (c := w % b) (d := a / b * f + g / b * 32768 + w / b)).mpr ⟨e8, Nat.mod_lt _ hb⟩
  exact ⟨this.1.symm, this.2.symm⟩
theorem m_enc_d {x : Nat × Nat} {en : Int} (h : en = 0) : ((m_tms (x.1 * 314159265 / x.2) (x.1 * 314159265 % x.2) 0 : Nat) : Int) = m_enc x en := by
  unfold m_enc m_tms
  rw [if_pos h, if_neg (fun h : (0 : Int) = 1 ∧ _ => absurd h.1 (by decide)), Nat.add_zero]
theorem m_enc_u {x : Nat × Nat} {en : Int} (h : en ≠ 0) : ((m_tms (x.1 * 314159266 / x.2) (x.1 * 314159266 % x.2) 1 : Nat) : Int) = m_enc x en := by
  unfold m_enc m_tms
  rw [if_neg h]
  simp only [true_and]
theorem m_enc_bd {x : Nat × Nat} (h : p_small x) : 0 ≤ m_enc x 0 ∧ m_enc x 0 < 9223372036854775808 := by
  obtain ⟨h0, h1, h2⟩ := h
  unfold m_enc
  rw [if_pos rfl]
  have : x.1 * 314159265 / x.2 ≤ 20000000 * 314159265 := Nat.div_le_of_le_mul (by rw [← Nat.mul_assoc, Nat.mul_comm x.2]; exact Nat.mul_le_mul_right _ h2)
  generalize x.1 * 314159265 / x.2 = t at this ⊢
  omega
abbrev rm_X3_times : Room := { frames := 0, cells := 0, slots := 0, locals := 0 }
set_option maxHeartbeats 4000000 in
set_option maxRecDepth 100000 in
theorem c_X3_times (l : Launch) (dC : Nat → ClassId) (dI : Nat → Nat → Nat) (sz : Nat) (m0 a1 a2 a3 a4 a5 a6 a7 a8 a9 a10 a11 : Nat) (tw : Int) (x : Nat × Nat) (mp mb ml mz : Nat) (f al rm : Nat) (up : Int) (hsm : p_small x) (hf : f ≤ 314159266) (hup : up = 0 ∨ up = 1) (hal : x.1 * f / x.2 = al) (hrm : x.1 * f % x.2 = rm) : Met l yX3_times (Cond.code yX3_times cX3_times 15 ((Option.some Jvm.ClassFile.FieldType.long)) :: gw) rm_X3_times (PcW [.ref m0, .long (zl ((f : Int))), .int (zi (up))] (dC, dI) vwCl [(m0, .inr (3, [.int (zi (tw)), .int (zi ((mp : Int))), .ref a1, .ref a2, .ref a3, .ref a4, .ref a5, .ref a6, .int (zi ((mb : Int))), .ref a7, .ref a8, .int (zi ((ml : Int))), .ref a9, .ref a10, .int (zi ((mz : Int))), .ref a11, .long (zl ((((x).1 : Nat) : Int))), .long (zl ((((x).2 : Nat) : Int)))]))] [] sz) (WrQ (some (.long (zl ((m_tms al rm up : Nat) : Int)))) (dC, dI) vwCl [(m0, .inr (3, [.int (zi (tw)), .int (zi ((mp : Int))), .ref a1, .ref a2, .ref a3, .ref a4, .ref a5, .ref a6, .int (zi ((mb : Int))), .ref a7, .ref a8, .int (zi ((ml : Int))), .ref a9, .ref a10, .int (zi ((mz : Int))), .ref a11, .long (zl ((((x).1 : Nat) : Int))), .long (zl ((((x).2 : Nat) : Int)))]))] (va_A [(m0, .inr (3, [.int (zi (tw)), .int (zi ((mp : Int))), .ref a1, .ref a2, .ref a3, .ref a4, .ref a5, .ref a6, .int (zi ((mb : Int))), .ref a7, .ref a8, .int (zi ((ml : Int))), .ref a9, .ref a10, .int (zi ((mz : Int))), .ref a11, .long (zl ((((x).1 : Nat) : Int))), .long (zl ((((x).2 : Nat) : Int)))]))] sz)) 0 0 (va_A [(m0, .inr (3, [.int (zi (tw)), .int (zi ((mp : Int))), .ref a1, .ref a2, .ref a3, .ref a4, .ref a5, .ref a6, .int (zi ((mb : Int))), .ref a7, .ref a8, .int (zi ((ml : Int))), .ref a9, .ref a10, .int (zi ((mz : Int))), .ref a11, .long (zl ((((x).1 : Nat) : Int))), .long (zl ((((x).2 : Nat) : Int)))]))] sz) := by
  refine Met.ofW (cc := cX3_times) (maxL := 15) (ret := ((Option.some Jvm.ClassFile.FieldType.long))) (by decide) rfl ?_
  intro p e s m args below meth c s₁ B hml hv
  obtain ⟨hargs, hsz, hP, hK, hD0⟩ := hv
  have hx := B.exec
  have hb := B.bytes
  have hr := B.returns
  have hts := atoms_spec (ws := Cond.code yX3_times cX3_times 15 ((Option.some Jvm.ClassFile.FieldType.long)) :: gw) B.pre
  have hg : ∀ w ∈ gw, w.before args s = true := fun w h => hts w (List.mem_cons_of_mem _ h)
  have hown : s.vm.findClass RX3 = some m.cls := findClass_of_methodNamed B.named
  have hlocks := B.notSynchronized
  subst hsz
  have hD := hD0.self (sz := s.heap.size)
  generalize hAe : va_A [(m0, .inr (3, [.int (zi (tw)), .int (zi ((mp : Int))), .ref a1, .ref a2, .ref a3, .ref a4, .ref a5, .ref a6, .int (zi ((mb : Int))), .ref a7, .ref a8, .int (zi ((ml : Int))), .ref a9, .ref a10, .int (zi ((mz : Int))), .ref a11, .long (zl ((((x).1 : Nat) : Int))), .long (zl ((((x).2 : Nat) : Int)))]))] s.heap.size = A at hD ⊢
  have hA : ∀ q : Nat, s.heap.size ≤ q → A q := fun q h => by rw [← hAe]; exact Or.inr h
  show W p l e rm_X3_times s m args below meth c s.heap [] 0 0 _ _
  have hl := lv_entry ([.ref m0, .long (zl ((f : Int))), .int (zi (up))]) (n := 15) (Nat.le_of_ble_eq_true rfl)
  rw [show entryFrame m args 15 = entryFrame m ([.ref m0, .long (zl ((f : Int))), .int (zi (up))] : List Value).toArray 15 by rw [hargs], lg_entry_eq]
  generalize (lg_sl ([.ref m0, .long (zl ((f : Int))), .int (zi (up))]) ++ List.replicate (15 - (lg_sl ([.ref m0, .long (zl ((f : Int))), .int (zi (up))])).length) Slot.unset).toArray = ls at hl ⊢
  have hl : lv_has ls 15 [(0, .ref m0), (1, .long (zl ((f : Int)))), (3, .int (zi (up)))] := hl
  obtain ⟨QQ, hQQ⟩ : ∃ Q, Q = MQ below (WrQ (some (.long (zl ((m_tms al rm up : Nat) : Int)))) (dC, dI) vwCl [(m0, .inr (3, [.int (zi (tw)), .int (zi ((mp : Int))), .ref a1, .ref a2, .ref a3, .ref a4, .ref a5, .ref a6, .int (zi ((mb : Int))), .ref a7, .ref a8, .int (zi ((ml : Int))), .ref a9, .ref a10, .int (zi ((mz : Int))), .ref a11, .long (zl ((((x).1 : Nat) : Int))), .long (zl ((((x).2 : Nat) : Int)))]))] A) args s 0 0 A := ⟨_, rfl⟩
  rw [← hQQ]
  obtain ⟨H, hHe⟩ : ∃ H : Heap, H = s.heap := ⟨_, rfl⟩
  obtain ⟨locs, hlc⟩ : ∃ x : List Loc, x = [] := ⟨_, rfl⟩
  have hS : va_S A s.heap H locs := by rw [hHe, hlc]; exact va_S.rf
  have hP : va_P (dC, dI) vwCl [(m0, .inr (3, [.int (zi (tw)), .int (zi ((mp : Int))), .ref a1, .ref a2, .ref a3, .ref a4, .ref a5, .ref a6, .int (zi ((mb : Int))), .ref a7, .ref a8, .int (zi ((ml : Int))), .ref a9, .ref a10, .int (zi ((mz : Int))), .ref a11, .long (zl ((((x).1 : Nat) : Int))), .long (zl ((((x).2 : Nat) : Int)))]))] H := by rw [hHe]; exact hP
  have hD : va_D A [(m0, .inr (3, [.int (zi (tw)), .int (zi ((mp : Int))), .ref a1, .ref a2, .ref a3, .ref a4, .ref a5, .ref a6, .int (zi ((mb : Int))), .ref a7, .ref a8, .int (zi ((ml : Int))), .ref a9, .ref a10, .int (zi ((mz : Int))), .ref a11, .long (zl ((((x).1 : Nat) : Int))), .long (zl ((((x).2 : Nat) : Int)))]))] := hD
  rw [← hHe, ← hlc]
  obtain ⟨hD0, hD9, hN9⟩ := hsm
  obtain ⟨re, hre⟩ : ∃ t, t = x.1 % x.2 := ⟨_, rfl⟩
  have hr1 : re < x.2 := by rw [hre]; exact Nat.mod_lt _ hD0
  obtain ⟨gg, hhg⟩ : ∃ t, t = re * (f / 32768) := ⟨_, rfl⟩
  have hg9 : gg ≤ 29000000000 * 9588 := by rw [hhg]; exact Nat.mul_le_mul (by omega) (by omega)
  have hr2 : gg % x.2 < x.2 := Nat.mod_lt _ hD0
  obtain ⟨lo, hlo⟩ : ∃ t, t = gg % x.2 * 32768 + re * (f % 32768) := ⟨_, rfl⟩
  have hl5 : re * (f % 32768) ≤ 29000000000 * 32768 := Nat.mul_le_mul (by omega) (by omega)
  have hl9 : lo ≤ 29000000000 * 32768 + 29000000000 * 32768 := by omega
  have hma := (m_all x.1 x.2 f hD0).1
  have hmb := (m_all x.1 x.2 f hD0).2
  rw [← hre, ← hhg, ← hlo] at hma hmb
  have hal9 : al ≤ 20000000 * f := by rw [← hal]; exact Nat.div_le_of_le_mul (by rw [← Nat.mul_assoc, Nat.mul_comm x.2]; exact Nat.mul_le_mul_right f hN9)
  have hrm9 : rm < x.2 := by rw [← hrm]; exact Nat.mod_lt _ hD0
  refine lv_aload_n hx hb dX3_times_0 rfl (lv_at hl 0 rfl) ?_
  refine va_get (D := (dC, dI)) (ci := 3) (v := .long (zl ((((x).1 : Nat) : Int)))) (C := RX3) (T := TX3) (N := 18) hx hb hg inX3 hown hK hP 0 rfl rfl 16 (by decide) (hg _ wl_X3_84) (fun _ h9 => h9) rfl dX3_times_1 ?_
  refine lv_aload_n hx hb dX3_times_4 rfl (lv_at hl 0 rfl) ?_
  refine va_get (D := (dC, dI)) (ci := 3) (v := .long (zl ((((x).2 : Nat) : Int)))) (C := RX3) (T := TX3) (N := 18) hx hb hg inX3 hown hK hP 0 rfl rfl 17 (by decide) (hg _ wl_X3_44) (fun _ h9 => h9) rfl dX3_times_5 ?_
  refine zz_ldiv hx hb (by omega) (by omega) dX3_times_8 ?_
  refine zz_topl (z := ((x.1 / x.2 : Nat) : Int)) (congrArg zl rfl) ?_
  refine lv_lload_n hx hb dX3_times_9 rfl (lv_at hl 1 rfl) ?_
  refine zz_lmul hx hb dX3_times_10 ?_
  refine zz_topl (z := ((x.1 / x.2 * f : Nat) : Int)) (congrArg zl (Int.natCast_mul _ _).symm) ?_
  refine lv_lstore (lv' := [(4, .long (zl (((x.1 / x.2 * f : Nat) : Int)))), (0, .ref m0), (1, .long (zl ((f : Int)))), (3, .int (zi (up)))]) hx hb dX3_times_11 hl (by decide) rfl (fun ls hl => ?_)
  refine lv_aload_n hx hb dX3_times_13 rfl (lv_at hl 1 rfl) ?_
  refine va_get (D := (dC, dI)) (ci := 3) (v := .long (zl ((((x).1 : Nat) : Int)))) (C := RX3) (T := TX3) (N := 18) hx hb hg inX3 hown hK hP 0 rfl rfl 16 (by decide) (hg _ wl_X3_84) (fun _ h9 => h9) rfl dX3_times_14 ?_
  refine lv_aload_n hx hb dX3_times_17 rfl (lv_at hl 1 rfl) ?_
  refine va_get (D := (dC, dI)) (ci := 3) (v := .long (zl ((((x).2 : Nat) : Int)))) (C := RX3) (T := TX3) (N := 18) hx hb hg inX3 hown hK hP 0 rfl rfl 17 (by decide) (hg _ wl_X3_44) (fun _ h9 => h9) rfl dX3_times_18 ?_
  refine zz_lrem hx hb (by omega) (by omega) dX3_times_21 ?_
  refine zz_topl (z := (re : Int)) (congrArg zl ((ma_tmod _ _).trans (congrArg (fun t : Nat => (t : Int)) hre.symm))) ?_
  refine lv_lstore (lv' := [(6, .long (zl ((re : Int)))), (4, .long (zl (((x.1 / x.2 * f : Nat) : Int)))), (0, .ref m0), (1, .long (zl ((f : Int)))), (3, .int (zi (up)))]) hx hb dX3_times_22 hl (by decide) rfl (fun ls hl => ?_)
  refine lv_lload hx hb dX3_times_24 (lv_at hl 0 rfl) ?_
  refine lv_lload_n hx hb dX3_times_26 rfl (lv_at hl 3 rfl) ?_
  refine lv_ldc2 (v := 32768) hx hb hown (hg _ wl_X3_115) dX3_times_27 ?_
  refine zz_topl (z := 32768) (by decide) ?_
  refine zz_ldiv hx hb (by omega) (by omega) dX3_times_30 ?_
  refine zz_topl (z := ((f / 32768 : Nat) : Int)) (congrArg zl rfl) ?_
  refine zz_lmul hx hb dX3_times_31 ?_
  refine zz_topl (z := (gg : Int)) (congrArg zl (by rw [hhg]; exact (Int.natCast_mul _ _).symm)) ?_
  refine lv_lstore (lv' := [(8, .long (zl ((gg : Int)))), (6, .long (zl ((re : Int)))), (4, .long (zl (((x.1 / x.2 * f : Nat) : Int)))), (0, .ref m0), (1, .long (zl ((f : Int)))), (3, .int (zi (up)))]) hx hb dX3_times_32 hl (by decide) rfl (fun ls hl => ?_)
  refine lv_lload hx hb dX3_times_34 (lv_at hl 0 rfl) ?_
  refine lv_aload_n hx hb dX3_times_36 rfl (lv_at hl 3 rfl) ?_
  refine va_get (D := (dC, dI)) (ci := 3) (v := .long (zl ((((x).2 : Nat) : Int)))) (C := RX3) (T := TX3) (N := 18) hx hb hg inX3 hown hK hP 0 rfl rfl 17 (by decide) (hg _ wl_X3_44) (fun _ h9 => h9) rfl dX3_times_37 ?_
  refine zz_lrem hx hb (by omega) (by omega) dX3_times_40 ?_
  refine zz_topl (z := ((gg % x.2 : Nat) : Int)) (congrArg zl (ma_tmod _ _)) ?_
  refine lv_ldc2 (v := 32768) hx hb hown (hg _ wl_X3_115) dX3_times_41 ?_
  refine zz_topl (z := 32768) (by decide) ?_
  refine zz_lmul hx hb dX3_times_44 ?_
  refine zz_topl (z := ((gg % x.2 * 32768 : Nat) : Int)) (congrArg zl (Int.natCast_mul _ _).symm) ?_
  refine lv_lload hx hb dX3_times_45 (lv_at hl 1 rfl) ?_
  refine lv_lload_n hx hb dX3_times_47 rfl (lv_at hl 4 rfl) ?_
  refine lv_ldc2 (v := 32768) hx hb hown (hg _ wl_X3_115) dX3_times_48 ?_
  refine zz_topl (z := 32768) (by decide) ?_
  refine zz_lrem hx hb (by omega) (by omega) dX3_times_51 ?_
  refine zz_topl (z := ((f % 32768 : Nat) : Int)) (congrArg zl (ma_tmod f 32768)) ?_
  refine zz_lmul hx hb dX3_times_52 ?_
  refine zz_topl (z := ((re * (f % 32768) : Nat) : Int)) (congrArg zl (Int.natCast_mul _ _).symm) ?_
  refine zz_ladd hx hb dX3_times_53 ?_
  refine zz_topl (z := (lo : Int)) (congrArg zl (by rw [hlo]; exact (Int.natCast_add _ _).symm)) ?_
  refine lv_lstore (lv' := [(10, .long (zl ((lo : Int)))), (8, .long (zl ((gg : Int)))), (6, .long (zl ((re : Int)))), (4, .long (zl (((x.1 / x.2 * f : Nat) : Int)))), (0, .ref m0), (1, .long (zl ((f : Int)))), (3, .int (zi (up)))]) hx hb dX3_times_54 hl (by decide) rfl (fun ls hl => ?_)
  refine lv_lload hx hb dX3_times_56 (lv_at hl 3 rfl) ?_
  refine lv_lload hx hb dX3_times_58 (lv_at hl 1 rfl) ?_
  refine lv_aload_n hx hb dX3_times_60 rfl (lv_at hl 4 rfl) ?_
  refine va_get (D := (dC, dI)) (ci := 3) (v := .long (zl ((((x).2 : Nat) : Int)))) (C := RX3) (T := TX3) (N := 18) hx hb hg inX3 hown hK hP 0 rfl rfl 17 (by decide) (hg _ wl_X3_44) (fun _ h9 => h9) rfl dX3_times_61 ?_
  refine zz_ldiv hx hb (by omega) (by omega) dX3_times_64 ?_
  refine zz_topl (z := ((gg / x.2 : Nat) : Int)) (congrArg zl rfl) ?_
  refine lv_ldc2 (v := 32768) hx hb hown (hg _ wl_X3_115) dX3_times_65 ?_
  refine zz_topl (z := 32768) (by decide) ?_
  refine zz_lmul hx hb dX3_times_68 ?_
  refine zz_topl (z := ((gg / x.2 * 32768 : Nat) : Int)) (congrArg zl (Int.natCast_mul _ _).symm) ?_
  refine zz_ladd hx hb dX3_times_69 ?_
  refine zz_topl (z := ((x.1 / x.2 * f + gg / x.2 * 32768 : Nat) : Int)) (congrArg zl (Int.natCast_add _ _).symm) ?_
  refine lv_lload hx hb dX3_times_70 (lv_at hl 0 rfl) ?_
  refine lv_aload_n hx hb dX3_times_72 rfl (lv_at hl 4 rfl) ?_
  refine va_get (D := (dC, dI)) (ci := 3) (v := .long (zl ((((x).2 : Nat) : Int)))) (C := RX3) (T := TX3) (N := 18) hx hb hg inX3 hown hK hP 0 rfl rfl 17 (by decide) (hg _ wl_X3_44) (fun _ h9 => h9) rfl dX3_times_73 ?_
  refine zz_ldiv hx hb (by omega) (by omega) dX3_times_76 ?_
  refine zz_topl (z := ((lo / x.2 : Nat) : Int)) (congrArg zl rfl) ?_
  refine zz_ladd hx hb dX3_times_77 ?_
  refine zz_topl (z := (al : Int)) (congrArg zl (by rw [← hal, ← hma]; exact (Int.natCast_add _ _).symm)) ?_
  refine lv_lstore (lv' := [(12, .long (zl ((al : Int)))), (10, .long (zl ((lo : Int)))), (8, .long (zl ((gg : Int)))), (6, .long (zl ((re : Int)))), (4, .long (zl (((x.1 / x.2 * f : Nat) : Int)))), (0, .ref m0), (1, .long (zl ((f : Int)))), (3, .int (zi (up)))]) hx hb dX3_times_78 hl (by decide) rfl (fun ls hl => ?_)
  refine lv_lload hx hb dX3_times_80 (lv_at hl 1 rfl) ?_
  refine lv_aload_n hx hb dX3_times_82 rfl (lv_at hl 5 rfl) ?_
  refine va_get (D := (dC, dI)) (ci := 3) (v := .long (zl ((((x).2 : Nat) : Int)))) (C := RX3) (T := TX3) (N := 18) hx hb hg inX3 hown hK hP 0 rfl rfl 17 (by decide) (hg _ wl_X3_44) (fun _ h9 => h9) rfl dX3_times_83 ?_
  refine zz_lrem hx hb (by omega) (by omega) dX3_times_86 ?_
  refine zz_topl (z := (rm : Int)) (congrArg zl (by rw [← hrm, ← hmb]; exact ma_tmod _ _)) ?_
  refine lv_lconst (v := zl (0)) hx hb dX3_times_87 (by decide) ?_
  refine zz_lcmp_gt (tgt := 103) hx hb (by omega) (by omega) dX3_times_88 dX3_times_89 (by decide) (fun c_88 => ?_) (fun c_88 => ?_)
  · refine lv_iconst (v := zi (1)) hx hb dX3_times_103 rfl ?_
    refine lv_goto (tgt := 108) hx hb dX3_times_104 (by decide) ?_
    refine lv_istore (lv' := [(14, .int (zi (1))), (12, .long (zl ((al : Int)))), (10, .long (zl ((lo : Int)))), (8, .long (zl ((gg : Int)))), (6, .long (zl ((re : Int)))), (4, .long (zl (((x.1 / x.2 * f : Nat) : Int)))), (0, .ref m0), (1, .long (zl ((f : Int)))), (3, .int (zi (up)))]) hx hb dX3_times_108 hl (by decide) rfl (fun ls hl => ?_)
    refine lv_lload hx hb dX3_times_110 (lv_at hl 1 rfl) ?_
    refine lv_ldc2 (v := 100000000) hx hb hown (hg _ wl_X3_117) dX3_times_112 ?_
    refine zz_topl (z := 100000000) (by decide) ?_
    refine zz_ldiv hx hb (by omega) (by omega) dX3_times_115 ?_
    refine zz_topl (z := ((al / 100000000 : Nat) : Int)) (congrArg zl rfl) ?_
    refine lv_iload_n hx hb dX3_times_116 rfl (lv_at hl 8 rfl) ?_
    refine zz_if_eq (tgt := 129) hx hb (by omega) dX3_times_117 (by decide) (fun c_117 => ?_) (fun c_117 => ?_)
    · refine lv_lconst (v := zl (0)) hx hb dX3_times_129 (by decide) ?_
      refine zz_ladd hx hb dX3_times_130 ?_
      have hP9 : va_P (dC, dI) vwCl [(m0, .inr (3, [.int (zi (tw)), .int (zi ((mp : Int))), .ref a1, .ref a2, .ref a3, .ref a4, .ref a5, .ref a6, .int (zi ((mb : Int))), .ref a7, .ref a8, .int (zi ((ml : Int))), .ref a9, .ref a10, .int (zi ((mz : Int))), .ref a11, .long (zl ((((x).1 : Nat) : Int))), .long (zl ((((x).2 : Nat) : Int)))]))] H := hP
      rw [hQQ]
      exact wr_l hx hb hr hlocks (by unfold m_tms; first | (rw [if_pos (by omega)]; omega) | (rw [if_neg (by omega)]; omega)) hP9 hS dX3_times_131
    · refine lv_iload hx hb dX3_times_120 (lv_at hl 0 rfl) ?_
      refine zz_if_eq (tgt := 129) hx hb (by omega) dX3_times_122 (by decide) (fun c_122 => ?_) (fun c_122 => ?_)
      · exact absurd c_122 (by decide)
      · refine lv_lconst (v := zl (1)) hx hb dX3_times_125 (by decide) ?_
        refine lv_goto (tgt := 130) hx hb dX3_times_126 (by decide) ?_
        refine zz_ladd hx hb dX3_times_130 ?_
        have hP9 : va_P (dC, dI) vwCl [(m0, .inr (3, [.int (zi (tw)), .int (zi ((mp : Int))), .ref a1, .ref a2, .ref a3, .ref a4, .ref a5, .ref a6, .int (zi ((mb : Int))), .ref a7, .ref a8, .int (zi ((ml : Int))), .ref a9, .ref a10, .int (zi ((mz : Int))), .ref a11, .long (zl ((((x).1 : Nat) : Int))), .long (zl ((((x).2 : Nat) : Int)))]))] H := hP
        rw [hQQ]
        exact wr_l hx hb hr hlocks (by unfold m_tms; first | (rw [if_pos (by omega)]; omega) | (rw [if_neg (by omega)]; omega)) hP9 hS dX3_times_131
  · refine lv_lload hx hb dX3_times_92 (lv_at hl 0 rfl) ?_
    refine lv_ldc2 (v := 100000000) hx hb hown (hg _ wl_X3_117) dX3_times_94 ?_
    refine zz_topl (z := 100000000) (by decide) ?_
    refine zz_lrem hx hb (by omega) (by omega) dX3_times_97 ?_
    refine zz_topl (z := ((al % 100000000 : Nat) : Int)) (congrArg zl (ma_tmod al 100000000)) ?_
    refine lv_lconst (v := zl (0)) hx hb dX3_times_98 (by decide) ?_
    refine zz_lcmp_le (tgt := 107) hx hb (by omega) (by omega) dX3_times_99 dX3_times_100 (by decide) (fun c_99 => ?_) (fun c_99 => ?_)
    · refine lv_iconst (v := zi (0)) hx hb dX3_times_107 rfl ?_
      refine lv_istore (lv' := [(14, .int (zi (0))), (12, .long (zl ((al : Int)))), (10, .long (zl ((lo : Int)))), (8, .long (zl ((gg : Int)))), (6, .long (zl ((re : Int)))), (4, .long (zl (((x.1 / x.2 * f : Nat) : Int)))), (0, .ref m0), (1, .long (zl ((f : Int)))), (3, .int (zi (up)))]) hx hb dX3_times_108 hl (by decide) rfl (fun ls hl => ?_)
      refine lv_lload hx hb dX3_times_110 (lv_at hl 1 rfl) ?_
      refine lv_ldc2 (v := 100000000) hx hb hown (hg _ wl_X3_117) dX3_times_112 ?_
      refine zz_topl (z := 100000000) (by decide) ?_
      refine zz_ldiv hx hb (by omega) (by omega) dX3_times_115 ?_
      refine zz_topl (z := ((al / 100000000 : Nat) : Int)) (congrArg zl rfl) ?_
      refine lv_iload_n hx hb dX3_times_116 rfl (lv_at hl 8 rfl) ?_
      refine zz_if_eq (tgt := 129) hx hb (by omega) dX3_times_117 (by decide) (fun c_117 => ?_) (fun c_117 => ?_)
      · refine lv_lconst (v := zl (0)) hx hb dX3_times_129 (by decide) ?_
        refine zz_ladd hx hb dX3_times_130 ?_
        have hP9 : va_P (dC, dI) vwCl [(m0, .inr (3, [.int (zi (tw)), .int (zi ((mp : Int))), .ref a1, .ref a2, .ref a3, .ref a4, .ref a5, .ref a6, .int (zi ((mb : Int))), .ref a7, .ref a8, .int (zi ((ml : Int))), .ref a9, .ref a10, .int (zi ((mz : Int))), .ref a11, .long (zl ((((x).1 : Nat) : Int))), .long (zl ((((x).2 : Nat) : Int)))]))] H := hP
        rw [hQQ]
        exact wr_l hx hb hr hlocks (by unfold m_tms; first | (rw [if_pos (by omega)]; omega) | (rw [if_neg (by omega)]; omega)) hP9 hS dX3_times_131
      · refine lv_iload hx hb dX3_times_120 (lv_at hl 0 rfl) ?_
        refine zz_if_eq (tgt := 129) hx hb (by omega) dX3_times_122 (by decide) (fun c_122 => ?_) (fun c_122 => ?_)
        · refine lv_lconst (v := zl (0)) hx hb dX3_times_129 (by decide) ?_
          refine zz_ladd hx hb dX3_times_130 ?_
          have hP9 : va_P (dC, dI) vwCl [(m0, .inr (3, [.int (zi (tw)), .int (zi ((mp : Int))), .ref a1, .ref a2, .ref a3, .ref a4, .ref a5, .ref a6, .int (zi ((mb : Int))), .ref a7, .ref a8, .int (zi ((ml : Int))), .ref a9, .ref a10, .int (zi ((mz : Int))), .ref a11, .long (zl ((((x).1 : Nat) : Int))), .long (zl ((((x).2 : Nat) : Int)))]))] H := hP
          rw [hQQ]
          exact wr_l hx hb hr hlocks (by unfold m_tms; first | (rw [if_pos (by omega)]; omega) | (rw [if_neg (by omega)]; omega)) hP9 hS dX3_times_131
        · exact absurd c_122 (by decide)
    · refine lv_iconst (v := zi (1)) hx hb dX3_times_103 rfl ?_
      refine lv_goto (tgt := 108) hx hb dX3_times_104 (by decide) ?_
      refine lv_istore (lv' := [(14, .int (zi (1))), (12, .long (zl ((al : Int)))), (10, .long (zl ((lo : Int)))), (8, .long (zl ((gg : Int)))), (6, .long (zl ((re : Int)))), (4, .long (zl (((x.1 / x.2 * f : Nat) : Int)))), (0, .ref m0), (1, .long (zl ((f : Int)))), (3, .int (zi (up)))]) hx hb dX3_times_108 hl (by decide) rfl (fun ls hl => ?_)
      refine lv_lload hx hb dX3_times_110 (lv_at hl 1 rfl) ?_
      refine lv_ldc2 (v := 100000000) hx hb hown (hg _ wl_X3_117) dX3_times_112 ?_
      refine zz_topl (z := 100000000) (by decide) ?_
      refine zz_ldiv hx hb (by omega) (by omega) dX3_times_115 ?_
      refine zz_topl (z := ((al / 100000000 : Nat) : Int)) (congrArg zl rfl) ?_
      refine lv_iload_n hx hb dX3_times_116 rfl (lv_at hl 8 rfl) ?_
      refine zz_if_eq (tgt := 129) hx hb (by omega) dX3_times_117 (by decide) (fun c_117 => ?_) (fun c_117 => ?_)
      · refine lv_lconst (v := zl (0)) hx hb dX3_times_129 (by decide) ?_
        refine zz_ladd hx hb dX3_times_130 ?_
        have hP9 : va_P (dC, dI) vwCl [(m0, .inr (3, [.int (zi (tw)), .int (zi ((mp : Int))), .ref a1, .ref a2, .ref a3, .ref a4, .ref a5, .ref a6, .int (zi ((mb : Int))), .ref a7, .ref a8, .int (zi ((ml : Int))), .ref a9, .ref a10, .int (zi ((mz : Int))), .ref a11, .long (zl ((((x).1 : Nat) : Int))), .long (zl ((((x).2 : Nat) : Int)))]))] H := hP
        rw [hQQ]
        exact wr_l hx hb hr hlocks (by unfold m_tms; first | (rw [if_pos (by omega)]; omega) | (rw [if_neg (by omega)]; omega)) hP9 hS dX3_times_131
      · refine lv_iload hx hb dX3_times_120 (lv_at hl 0 rfl) ?_
        refine zz_if_eq (tgt := 129) hx hb (by omega) dX3_times_122 (by decide) (fun c_122 => ?_) (fun c_122 => ?_)
        · exact absurd c_122 (by decide)
        · refine lv_lconst (v := zl (1)) hx hb dX3_times_125 (by decide) ?_
          refine lv_goto (tgt := 130) hx hb dX3_times_126 (by decide) ?_
          refine zz_ladd hx hb dX3_times_130 ?_
          have hP9 : va_P (dC, dI) vwCl [(m0, .inr (3, [.int (zi (tw)), .int (zi ((mp : Int))), .ref a1, .ref a2, .ref a3, .ref a4, .ref a5, .ref a6, .int (zi ((mb : Int))), .ref a7, .ref a8, .int (zi ((ml : Int))), .ref a9, .ref a10, .int (zi ((mz : Int))), .ref a11, .long (zl ((((x).1 : Nat) : Int))), .long (zl ((((x).2 : Nat) : Int)))]))] H := hP
          rw [hQQ]
          exact wr_l hx hb hr hlocks (by unfold m_tms; first | (rw [if_pos (by omega)]; omega) | (rw [if_neg (by omega)]; omega)) hP9 hS dX3_times_131

abbrev rm_X3_enclose : Room := { frames := 6, cells := 0, slots := 0, locals := 161 }
set_option maxHeartbeats 4000000 in
set_option maxRecDepth 100000 in
theorem c_X3_enclose (l : Launch) (dC : Nat → ClassId) (dI : Nat → Nat → Nat) (sz : Nat) (m0 a1 a2 a3 a4 a5 a6 a7 a8 a9 a10 a11 : Nat) (tw ab be : Int) (mp mb ml mz : Nat) (cA : ClassId) (j n : Nat) (sf hh rr hs rs : Nat → Int) (wf : Nat → Int) (en : Int) (hj : j < 6) (hsf : sf j = (n : Int)) (hhs : ∀ k, k < 12 → hh (12 * j + k) = hs k) (hrs : ∀ k, k < 12 → rr (12 * j + k) = rs k) (hn : n ≤ 12) (hH : ∀ j, 0 ≤ hs j ∧ hs j ≤ 400) (hR : ∀ j, 0 ≤ rs j ∧ rs j ≤ 200) (th : Int) (hwf : wf j = th) (hth : 0 ≤ th ∧ th ≤ 50) (hp9 : en = 0 ∨ en = 1) (hok : m_oks n hs rs th (hs 0 + th) 400) (hsm : p_small (m_sum hs rs th (hs 0 + th) 400 (n - 1))) : Met l yX3_enclose (Cond.code yX3_enclose cX3_enclose 3 ((Option.some Jvm.ClassFile.FieldType.long)) :: gw) rm_X3_enclose (PcW [.ref m0, .int (zi ((j : Int))), .int (zi (en))] (dC, dI) vwCl [(m0, .inr (3, [.int (zi (tw)), .int (zi ((mp : Int))), .ref a1, .ref a2, .ref a3, .ref a4, .ref a5, .ref a6, .int (zi ((mb : Int))), .ref a7, .ref a8, .int (zi ((ml : Int))), .ref a9, .ref a10, .int (zi ((mz : Int))), .ref a11, .long (zl (ab)), .long (zl (be))])), (a1, .inl (cA, 6, .inl (zA (sf)))), (a2, .inl (cA, 72, .inl (zA (hh)))), (a3, .inl (cA, 72, .inl (zA (rr)))), (a5, .inl (cA, 6, .inl (zA (wf))))] [(cA, .int)] sz) (WrQ (some (.long (zl (m_enc (m_sum hs rs th (hs 0 + th) 400 (n - 1)) en)))) (dC, dI) vwCl [(m0, .inr (3, [.int (zi (tw)), .int (zi ((mp : Int))), .ref a1, .ref a2, .ref a3, .ref a4, .ref a5, .ref a6, .int (zi ((mb : Int))), .ref a7, .ref a8, .int (zi ((ml : Int))), .ref a9, .ref a10, .int (zi ((mz : Int))), .ref a11, .long (zl ((((m_sum hs rs th (hs 0 + th) 400 (n - 1)).1 : Nat) : Int))), .long (zl ((((m_sum hs rs th (hs 0 + th) 400 (n - 1)).2 : Nat) : Int)))])), (a1, .inl (cA, 6, .inl (zA (sf)))), (a2, .inl (cA, 72, .inl (zA (hh)))), (a3, .inl (cA, 72, .inl (zA (rr)))), (a5, .inl (cA, 6, .inl (zA (wf))))] (va_A [(m0, .inr (3, [.int (zi (tw)), .int (zi ((mp : Int))), .ref a1, .ref a2, .ref a3, .ref a4, .ref a5, .ref a6, .int (zi ((mb : Int))), .ref a7, .ref a8, .int (zi ((ml : Int))), .ref a9, .ref a10, .int (zi ((mz : Int))), .ref a11, .long (zl (ab)), .long (zl (be))])), (a1, .inl (cA, 6, .inl (zA (sf)))), (a2, .inl (cA, 72, .inl (zA (hh)))), (a3, .inl (cA, 72, .inl (zA (rr)))), (a5, .inl (cA, 6, .inl (zA (wf))))] sz)) 0 0 (va_A [(m0, .inr (3, [.int (zi (tw)), .int (zi ((mp : Int))), .ref a1, .ref a2, .ref a3, .ref a4, .ref a5, .ref a6, .int (zi ((mb : Int))), .ref a7, .ref a8, .int (zi ((ml : Int))), .ref a9, .ref a10, .int (zi ((mz : Int))), .ref a11, .long (zl (ab)), .long (zl (be))])), (a1, .inl (cA, 6, .inl (zA (sf)))), (a2, .inl (cA, 72, .inl (zA (hh)))), (a3, .inl (cA, 72, .inl (zA (rr)))), (a5, .inl (cA, 6, .inl (zA (wf))))] sz) := by
  refine Met.ofW (cc := cX3_enclose) (maxL := 3) (ret := ((Option.some Jvm.ClassFile.FieldType.long))) (by decide) rfl ?_
  intro p e s m args below meth c s₁ B hml hv
  obtain ⟨hargs, hsz, hP, hK, hD0⟩ := hv
  have hx := B.exec
  have hb := B.bytes
  have hr := B.returns
  have hts := atoms_spec (ws := Cond.code yX3_enclose cX3_enclose 3 ((Option.some Jvm.ClassFile.FieldType.long)) :: gw) B.pre
  have hg : ∀ w ∈ gw, w.before args s = true := fun w h => hts w (List.mem_cons_of_mem _ h)
  have hown : s.vm.findClass RX3 = some m.cls := findClass_of_methodNamed B.named
  have hlocks := B.notSynchronized
  subst hsz
  have hD := hD0.self (sz := s.heap.size)
  generalize hAe : va_A [(m0, .inr (3, [.int (zi (tw)), .int (zi ((mp : Int))), .ref a1, .ref a2, .ref a3, .ref a4, .ref a5, .ref a6, .int (zi ((mb : Int))), .ref a7, .ref a8, .int (zi ((ml : Int))), .ref a9, .ref a10, .int (zi ((mz : Int))), .ref a11, .long (zl (ab)), .long (zl (be))])), (a1, .inl (cA, 6, .inl (zA (sf)))), (a2, .inl (cA, 72, .inl (zA (hh)))), (a3, .inl (cA, 72, .inl (zA (rr)))), (a5, .inl (cA, 6, .inl (zA (wf))))] s.heap.size = A at hD ⊢
  have hA : ∀ q : Nat, s.heap.size ≤ q → A q := fun q h => by rw [← hAe]; exact Or.inr h
  show W p l e rm_X3_enclose s m args below meth c s.heap [] 0 0 _ _
  have hl := lv_entry ([.ref m0, .int (zi ((j : Int))), .int (zi (en))]) (n := 3) (Nat.le_of_ble_eq_true rfl)
  rw [show entryFrame m args 3 = entryFrame m ([.ref m0, .int (zi ((j : Int))), .int (zi (en))] : List Value).toArray 3 by rw [hargs], lg_entry_eq]
  generalize (lg_sl ([.ref m0, .int (zi ((j : Int))), .int (zi (en))]) ++ List.replicate (3 - (lg_sl ([.ref m0, .int (zi ((j : Int))), .int (zi (en))])).length) Slot.unset).toArray = ls at hl ⊢
  have hl : lv_has ls 3 [(0, .ref m0), (1, .int (zi ((j : Int)))), (2, .int (zi (en)))] := hl
  obtain ⟨QQ, hQQ⟩ : ∃ Q, Q = MQ below (WrQ (some (.long (zl (m_enc (m_sum hs rs th (hs 0 + th) 400 (n - 1)) en)))) (dC, dI) vwCl [(m0, .inr (3, [.int (zi (tw)), .int (zi ((mp : Int))), .ref a1, .ref a2, .ref a3, .ref a4, .ref a5, .ref a6, .int (zi ((mb : Int))), .ref a7, .ref a8, .int (zi ((ml : Int))), .ref a9, .ref a10, .int (zi ((mz : Int))), .ref a11, .long (zl ((((m_sum hs rs th (hs 0 + th) 400 (n - 1)).1 : Nat) : Int))), .long (zl ((((m_sum hs rs th (hs 0 + th) 400 (n - 1)).2 : Nat) : Int)))])), (a1, .inl (cA, 6, .inl (zA (sf)))), (a2, .inl (cA, 72, .inl (zA (hh)))), (a3, .inl (cA, 72, .inl (zA (rr)))), (a5, .inl (cA, 6, .inl (zA (wf))))] A) args s 0 0 A := ⟨_, rfl⟩
  rw [← hQQ]
  obtain ⟨H, hHe⟩ : ∃ H : Heap, H = s.heap := ⟨_, rfl⟩
  obtain ⟨locs, hlc⟩ : ∃ x : List Loc, x = [] := ⟨_, rfl⟩
  have hS : va_S A s.heap H locs := by rw [hHe, hlc]; exact va_S.rf
  have hP : va_P (dC, dI) vwCl [(m0, .inr (3, [.int (zi (tw)), .int (zi ((mp : Int))), .ref a1, .ref a2, .ref a3, .ref a4, .ref a5, .ref a6, .int (zi ((mb : Int))), .ref a7, .ref a8, .int (zi ((ml : Int))), .ref a9, .ref a10, .int (zi ((mz : Int))), .ref a11, .long (zl (ab)), .long (zl (be))])), (a1, .inl (cA, 6, .inl (zA (sf)))), (a2, .inl (cA, 72, .inl (zA (hh)))), (a3, .inl (cA, 72, .inl (zA (rr)))), (a5, .inl (cA, 6, .inl (zA (wf))))] H := by rw [hHe]; exact hP
  have hD : va_D A [(m0, .inr (3, [.int (zi (tw)), .int (zi ((mp : Int))), .ref a1, .ref a2, .ref a3, .ref a4, .ref a5, .ref a6, .int (zi ((mb : Int))), .ref a7, .ref a8, .int (zi ((ml : Int))), .ref a9, .ref a10, .int (zi ((mz : Int))), .ref a11, .long (zl (ab)), .long (zl (be))])), (a1, .inl (cA, 6, .inl (zA (sf)))), (a2, .inl (cA, 72, .inl (zA (hh)))), (a3, .inl (cA, 72, .inl (zA (rr)))), (a5, .inl (cA, 6, .inl (zA (wf))))] := hD
  rw [← hHe, ← hlc]
  refine lv_aload_n hx hb dX3_enclose_0 rfl (lv_at hl 0 rfl) ?_
  refine lv_iload_n hx hb dX3_enclose_1 rfl (lv_at hl 1 rfl) ?_
  refine lv_sipush (v := zi (400)) hx hb dX3_enclose_2 (by decide) ?_
  refine wrV (As := [.int (zi ((j : Int))), .int (zi (400))]) (rest := []) (n := 2) (ws' := [(m0, .inr (3, [.int (zi (tw)), .int (zi ((mp : Int))), .ref a1, .ref a2, .ref a3, .ref a4, .ref a5, .ref a6, .int (zi ((mb : Int))), .ref a7, .ref a8, .int (zi ((ml : Int))), .ref a9, .ref a10, .int (zi ((mz : Int))), .ref a11, .long (zl ((((m_sum hs rs th (hs 0 + th) (400) (n - 1)).1 : Nat) : Int))), .long (zl ((((m_sum hs rs th (hs 0 + th) (400) (n - 1)).2 : Nat) : Int)))])), (a1, .inl (cA, 6, .inl (zA (sf)))), (a2, .inl (cA, 72, .inl (zA (hh)))), (a3, .inl (cA, 72, .inl (zA (rr)))), (a5, .inl (cA, 6, .inl (zA (wf))))]) hx hb hml hown hg (c_X3_sumHeld l dC dI H.size m0 a1 a2 a3 a4 a5 a6 a7 a8 a9 a10 a11 (tw) (ab) (be) mp mb ml mz cA j n sf hh rr hs rs wf (400) hj hsf hhs hrs hn hH hR th hwf hth (by omega) hok) (gwV wl_X3_111 wm_X3_sumHeld we_X3_sumHeld wi_X3 wc_X3_sumHeld) rfl rfl (by decide +kernel) ⟨Nat.le_of_ble_eq_true rfl, Nat.le_of_ble_eq_true rfl⟩ (hK.sub [0] rfl) hP hD hS hA [0, 1, 2, 3, 4] rfl (by decide) [(true, 0), (true, 1), (true, 2), (true, 3), (true, 4)] rfl (by decide) rfl 0 rfl rfl rfl rfl hl.1 rfl (Nat.le_of_ble_eq_true rfl) dX3_enclose_5 ⟨Nat.zero_le _, Nat.zero_le _⟩ (fun H locs hP hD hS => ?_)
  refine lv_iload_n hx hb dX3_enclose_8 rfl (lv_at hl 2 rfl) ?_
  refine zz_if_ne (tgt := 23) hx hb (by omega) dX3_enclose_9 (by decide) (fun c_9 => ?_) (fun c_9 => ?_)
  · refine lv_aload_n hx hb dX3_enclose_23 rfl (lv_at hl 0 rfl) ?_
    refine lv_ldc2 (v := 314159266) hx hb hown (hg _ wl_X3_125) dX3_enclose_24 ?_
    refine zz_topl (z := 314159266) (by decide) ?_
    refine lv_iconst (v := zi (1)) hx hb dX3_enclose_27 rfl ?_
    refine wrV (As := [.long (zl (314159266)), .int (zi (1))]) (rest := []) (n := 2) (ws' := [(m0, .inr (3, [.int (zi (tw)), .int (zi ((mp : Int))), .ref a1, .ref a2, .ref a3, .ref a4, .ref a5, .ref a6, .int (zi ((mb : Int))), .ref a7, .ref a8, .int (zi ((ml : Int))), .ref a9, .ref a10, .int (zi ((mz : Int))), .ref a11, .long (zl ((((m_sum hs rs th (hs 0 + th) (400) (n - 1)).1 : Nat) : Int))), .long (zl ((((m_sum hs rs th (hs 0 + th) (400) (n - 1)).2 : Nat) : Int)))])), (a1, .inl (cA, 6, .inl (zA (sf)))), (a2, .inl (cA, 72, .inl (zA (hh)))), (a3, .inl (cA, 72, .inl (zA (rr)))), (a5, .inl (cA, 6, .inl (zA (wf))))]) hx hb hml hown hg (c_X3_times l dC dI H.size m0 a1 a2 a3 a4 a5 a6 a7 a8 a9 a10 a11 (tw) (m_sum hs rs th (hs 0 + th) 400 (n - 1)) mp mb ml mz 314159266 _ _ 1 hsm (by omega) (by decide) rfl rfl) (gwV wl_X3_121 wm_X3_times we_X3_times wi_X3 wc_X3_times) rfl rfl (by decide +kernel) ⟨Nat.le_of_ble_eq_true rfl, Nat.le_of_ble_eq_true rfl⟩ (hK.sub [] rfl) hP hD hS hA [0] rfl (by decide) [(true, 0), (false, 1), (false, 2), (false, 3), (false, 4)] rfl (by decide) rfl 0 rfl rfl rfl rfl hl.1 rfl (Nat.le_of_ble_eq_true rfl) dX3_enclose_28 ⟨Nat.zero_le _, Nat.zero_le _⟩ (fun H locs hP hD hS => ?_)
    have hP9 : va_P (dC, dI) vwCl [(m0, .inr (3, [.int (zi (tw)), .int (zi ((mp : Int))), .ref a1, .ref a2, .ref a3, .ref a4, .ref a5, .ref a6, .int (zi ((mb : Int))), .ref a7, .ref a8, .int (zi ((ml : Int))), .ref a9, .ref a10, .int (zi ((mz : Int))), .ref a11, .long (zl ((((m_sum hs rs th (hs 0 + th) 400 (n - 1)).1 : Nat) : Int))), .long (zl ((((m_sum hs rs th (hs 0 + th) 400 (n - 1)).2 : Nat) : Int)))])), (a1, .inl (cA, 6, .inl (zA (sf)))), (a2, .inl (cA, 72, .inl (zA (hh)))), (a3, .inl (cA, 72, .inl (zA (rr)))), (a5, .inl (cA, 6, .inl (zA (wf))))] H := hP
    rw [hQQ]
    exact wr_l hx hb hr hlocks (m_enc_u (by omega)) hP9 hS dX3_enclose_31
  · refine lv_aload_n hx hb dX3_enclose_12 rfl (lv_at hl 0 rfl) ?_
    refine lv_ldc2 (v := 314159265) hx hb hown (hg _ wl_X3_119) dX3_enclose_13 ?_
    refine zz_topl (z := 314159265) (by decide) ?_
    refine lv_iconst (v := zi (0)) hx hb dX3_enclose_16 rfl ?_
    refine wrV (As := [.long (zl (314159265)), .int (zi (0))]) (rest := []) (n := 2) (ws' := [(m0, .inr (3, [.int (zi (tw)), .int (zi ((mp : Int))), .ref a1, .ref a2, .ref a3, .ref a4, .ref a5, .ref a6, .int (zi ((mb : Int))), .ref a7, .ref a8, .int (zi ((ml : Int))), .ref a9, .ref a10, .int (zi ((mz : Int))), .ref a11, .long (zl ((((m_sum hs rs th (hs 0 + th) (400) (n - 1)).1 : Nat) : Int))), .long (zl ((((m_sum hs rs th (hs 0 + th) (400) (n - 1)).2 : Nat) : Int)))])), (a1, .inl (cA, 6, .inl (zA (sf)))), (a2, .inl (cA, 72, .inl (zA (hh)))), (a3, .inl (cA, 72, .inl (zA (rr)))), (a5, .inl (cA, 6, .inl (zA (wf))))]) hx hb hml hown hg (c_X3_times l dC dI H.size m0 a1 a2 a3 a4 a5 a6 a7 a8 a9 a10 a11 (tw) (m_sum hs rs th (hs 0 + th) 400 (n - 1)) mp mb ml mz 314159265 _ _ 0 hsm (by omega) (by decide) rfl rfl) (gwV wl_X3_121 wm_X3_times we_X3_times wi_X3 wc_X3_times) rfl rfl (by decide +kernel) ⟨Nat.le_of_ble_eq_true rfl, Nat.le_of_ble_eq_true rfl⟩ (hK.sub [] rfl) hP hD hS hA [0] rfl (by decide) [(true, 0), (false, 1), (false, 2), (false, 3), (false, 4)] rfl (by decide) rfl 0 rfl rfl rfl rfl hl.1 rfl (Nat.le_of_ble_eq_true rfl) dX3_enclose_17 ⟨Nat.zero_le _, Nat.zero_le _⟩ (fun H locs hP hD hS => ?_)
    refine lv_goto (tgt := 31) hx hb dX3_enclose_20 (by decide) ?_
    have hP9 : va_P (dC, dI) vwCl [(m0, .inr (3, [.int (zi (tw)), .int (zi ((mp : Int))), .ref a1, .ref a2, .ref a3, .ref a4, .ref a5, .ref a6, .int (zi ((mb : Int))), .ref a7, .ref a8, .int (zi ((ml : Int))), .ref a9, .ref a10, .int (zi ((mz : Int))), .ref a11, .long (zl ((((m_sum hs rs th (hs 0 + th) 400 (n - 1)).1 : Nat) : Int))), .long (zl ((((m_sum hs rs th (hs 0 + th) 400 (n - 1)).2 : Nat) : Int)))])), (a1, .inl (cA, 6, .inl (zA (sf)))), (a2, .inl (cA, 72, .inl (zA (hh)))), (a3, .inl (cA, 72, .inl (zA (rr)))), (a5, .inl (cA, 6, .inl (zA (wf))))] H := hP
    rw [hQQ]
    exact wr_l hx hb hr hlocks (m_enc_d (by omega)) hP9 hS dX3_enclose_31

abbrev rm_X3_enclosed : Room := { frames := 7, cells := 0, slots := 0, locals := 183 }
set_option maxHeartbeats 4000000 in
set_option maxRecDepth 100000 in
theorem e_enclosed (l : Launch) (dC : Nat → ClassId) (dI : Nat → Nat → Nat) (sz : Nat) (m0 a1 a2 a3 a4 a5 a6 a7 a8 a9 a10 a11 : Nat) (tw ab be : Int) (mp mb ml mz : Nat) (q en : Int) (hmp : mp ≤ 6) (h_q : -2147483648 ≤ q ∧ q < 2147483648) (h_en : -2147483648 ≤ en ∧ en < 2147483648) (hbad : ¬ (0 ≤ q ∧ q < (mp : Int) ∧ (en = 0 ∨ en = 1))) : Met l yX3_enclosed (Cond.code yX3_enclosed cX3_enclosed 3 ((Option.some Jvm.ClassFile.FieldType.long)) :: gw) rm_X3_enclosed (PcW [.ref m0, .int (zi (q)), .int (zi (en))] (dC, dI) vwCl [(m0, .inr (3, [.int (zi (tw)), .int (zi ((mp : Int))), .ref a1, .ref a2, .ref a3, .ref a4, .ref a5, .ref a6, .int (zi ((mb : Int))), .ref a7, .ref a8, .int (zi ((ml : Int))), .ref a9, .ref a10, .int (zi ((mz : Int))), .ref a11, .long (zl (ab)), .long (zl (be))]))] [] sz) (WrQ (some (.long (zl 0))) (dC, dI) vwCl [(m0, .inr (3, [.int (zi (1)), .int (zi ((mp : Int))), .ref a1, .ref a2, .ref a3, .ref a4, .ref a5, .ref a6, .int (zi ((mb : Int))), .ref a7, .ref a8, .int (zi ((ml : Int))), .ref a9, .ref a10, .int (zi ((mz : Int))), .ref a11, .long (zl (ab)), .long (zl (be))]))] (va_A [(m0, .inr (3, [.int (zi (tw)), .int (zi ((mp : Int))), .ref a1, .ref a2, .ref a3, .ref a4, .ref a5, .ref a6, .int (zi ((mb : Int))), .ref a7, .ref a8, .int (zi ((ml : Int))), .ref a9, .ref a10, .int (zi ((mz : Int))), .ref a11, .long (zl (ab)), .long (zl (be))]))] sz)) 0 0 (va_A [(m0, .inr (3, [.int (zi (tw)), .int (zi ((mp : Int))), .ref a1, .ref a2, .ref a3, .ref a4, .ref a5, .ref a6, .int (zi ((mb : Int))), .ref a7, .ref a8, .int (zi ((ml : Int))), .ref a9, .ref a10, .int (zi ((mz : Int))), .ref a11, .long (zl (ab)), .long (zl (be))]))] sz) := by
  refine Met.ofW (cc := cX3_enclosed) (maxL := 3) (ret := ((Option.some Jvm.ClassFile.FieldType.long))) (by decide) rfl ?_
  intro p e s m args below meth c s₁ B hml hv
  obtain ⟨hargs, hsz, hP, hK, hD0⟩ := hv
  have hx := B.exec
  have hb := B.bytes
  have hr := B.returns
  have hts := atoms_spec (ws := Cond.code yX3_enclosed cX3_enclosed 3 ((Option.some Jvm.ClassFile.FieldType.long)) :: gw) B.pre
  have hg : ∀ w ∈ gw, w.before args s = true := fun w h => hts w (List.mem_cons_of_mem _ h)
  have hown : s.vm.findClass RX3 = some m.cls := findClass_of_methodNamed B.named
  have hlocks := B.notSynchronized
  subst hsz
  have hD := hD0.self (sz := s.heap.size)
  generalize hAe : va_A [(m0, .inr (3, [.int (zi (tw)), .int (zi ((mp : Int))), .ref a1, .ref a2, .ref a3, .ref a4, .ref a5, .ref a6, .int (zi ((mb : Int))), .ref a7, .ref a8, .int (zi ((ml : Int))), .ref a9, .ref a10, .int (zi ((mz : Int))), .ref a11, .long (zl (ab)), .long (zl (be))]))] s.heap.size = A at hD ⊢
  have hA : ∀ q : Nat, s.heap.size ≤ q → A q := fun q h => by rw [← hAe]; exact Or.inr h
  show W p l e rm_X3_enclosed s m args below meth c s.heap [] 0 0 _ _
  have hl := lv_entry ([.ref m0, .int (zi (q)), .int (zi (en))]) (n := 3) (Nat.le_of_ble_eq_true rfl)
  rw [show entryFrame m args 3 = entryFrame m ([.ref m0, .int (zi (q)), .int (zi (en))] : List Value).toArray 3 by rw [hargs], lg_entry_eq]
  generalize (lg_sl ([.ref m0, .int (zi (q)), .int (zi (en))]) ++ List.replicate (3 - (lg_sl ([.ref m0, .int (zi (q)), .int (zi (en))])).length) Slot.unset).toArray = ls at hl ⊢
  have hl : lv_has ls 3 [(0, .ref m0), (1, .int (zi (q))), (2, .int (zi (en)))] := hl
  obtain ⟨QQ, hQQ⟩ : ∃ Q, Q = MQ below (WrQ (some (.long (zl 0))) (dC, dI) vwCl [(m0, .inr (3, [.int (zi (1)), .int (zi ((mp : Int))), .ref a1, .ref a2, .ref a3, .ref a4, .ref a5, .ref a6, .int (zi ((mb : Int))), .ref a7, .ref a8, .int (zi ((ml : Int))), .ref a9, .ref a10, .int (zi ((mz : Int))), .ref a11, .long (zl (ab)), .long (zl (be))]))] A) args s 0 0 A := ⟨_, rfl⟩
  rw [← hQQ]
  obtain ⟨H, hHe⟩ : ∃ H : Heap, H = s.heap := ⟨_, rfl⟩
  obtain ⟨locs, hlc⟩ : ∃ x : List Loc, x = [] := ⟨_, rfl⟩
  have hS : va_S A s.heap H locs := by rw [hHe, hlc]; exact va_S.rf
  have hP : va_P (dC, dI) vwCl [(m0, .inr (3, [.int (zi (tw)), .int (zi ((mp : Int))), .ref a1, .ref a2, .ref a3, .ref a4, .ref a5, .ref a6, .int (zi ((mb : Int))), .ref a7, .ref a8, .int (zi ((ml : Int))), .ref a9, .ref a10, .int (zi ((mz : Int))), .ref a11, .long (zl (ab)), .long (zl (be))]))] H := by rw [hHe]; exact hP
  have hD : va_D A [(m0, .inr (3, [.int (zi (tw)), .int (zi ((mp : Int))), .ref a1, .ref a2, .ref a3, .ref a4, .ref a5, .ref a6, .int (zi ((mb : Int))), .ref a7, .ref a8, .int (zi ((ml : Int))), .ref a9, .ref a10, .int (zi ((mz : Int))), .ref a11, .long (zl (ab)), .long (zl (be))]))] := hD
  rw [← hHe, ← hlc]
  refine lv_aload_n hx hb dX3_enclosed_0 rfl (lv_at hl 0 rfl) ?_
  refine lv_aload_n hx hb dX3_enclosed_1 rfl (lv_at hl 0 rfl) ?_
  refine lv_iload_n hx hb dX3_enclosed_2 rfl (lv_at hl 1 rfl) ?_
  refine rdV (As := [.int (zi (q))]) (rest := [.ref m0]) (n := 1) hx hb hml hown hg (c_X3_isProfile l dC dI m0 a1 a2 a3 a4 a5 a6 a7 a8 a9 a10 a11 (tw) (ab) (be) mp mb ml mz (q) hmp (by omega)) (gwV wl_X3_70 wm_X3_isProfile we_X3_isProfile wi_X3 wc_X3_isProfile) rfl rfl (by decide +kernel) ⟨Nat.le_of_ble_eq_true rfl, Nat.le_of_ble_eq_true rfl⟩ (hK.sub [] rfl) (hP.sub [0] rfl) 0 rfl rfl rfl rfl hl.1 rfl (Nat.le_of_ble_eq_true rfl) dX3_enclosed_3 ⟨Nat.zero_le _, Nat.zero_le _⟩ ?_
  refine zz_zb_eq (tgt := 18) hx hb dX3_enclosed_6 (by decide) (fun c_6 => ?_) (fun c_6 => ?_)
  · refine lv_iconst (v := zi (1)) hx hb dX3_enclosed_18 rfl ?_
    refine lv_goto (tgt := 23) hx hb dX3_enclosed_19 (by decide) ?_
    refine lv_iconst (v := zi (0)) hx hb dX3_enclosed_23 rfl ?_
    refine lv_iconst (v := zi (0)) hx hb dX3_enclosed_24 rfl ?_
    refine wrV (As := [.int (zi (1)), .int (zi (0)), .int (zi (0))]) (rest := []) (n := 3) (ws' := [(m0, .inr (3, [.int (zi (1)), .int (zi ((mp : Int))), .ref a1, .ref a2, .ref a3, .ref a4, .ref a5, .ref a6, .int (zi ((mb : Int))), .ref a7, .ref a8, .int (zi ((ml : Int))), .ref a9, .ref a10, .int (zi ((mz : Int))), .ref a11, .long (zl (ab)), .long (zl (be))]))]) hx hb hml hown hg (c_throwing l dC dI H.size m0 a1 a2 a3 a4 a5 a6 a7 a8 a9 a10 a11 (tw) (ab) (be) mp mb ml mz 1 0 0 (by decide) (by decide) (by decide)) (gwV wl_X3_59 wm_X3_throwing we_X3_throwing wi_X3 wc_X3_throwing) rfl rfl (by decide +kernel) ⟨Nat.le_of_ble_eq_true rfl, Nat.le_of_ble_eq_true rfl⟩ (hK.sub [] rfl) hP hD hS hA [0] rfl (by decide) [(true, 0)] rfl (by decide) rfl 0 rfl rfl rfl rfl hl.1 rfl (Nat.le_of_ble_eq_true rfl) dX3_enclosed_25 ⟨Nat.zero_le _, Nat.zero_le _⟩ (fun H locs hP hD hS => ?_)
    refine zz_topi (z := 1) (congrArg zi (by decide)) ?_
    refine zz_if_eq (tgt := 33) hx hb (by omega) dX3_enclosed_28 (by decide) (fun c_28 => ?_) (fun c_28 => ?_)
    · exact absurd c_28 (by decide)
    · refine lv_lconst (v := zl (0)) hx hb dX3_enclosed_31 (by decide) ?_
      have hP9 : va_P (dC, dI) vwCl [(m0, .inr (3, [.int (zi (1)), .int (zi ((mp : Int))), .ref a1, .ref a2, .ref a3, .ref a4, .ref a5, .ref a6, .int (zi ((mb : Int))), .ref a7, .ref a8, .int (zi ((ml : Int))), .ref a9, .ref a10, .int (zi ((mz : Int))), .ref a11, .long (zl (ab)), .long (zl (be))]))] H := hP
      rw [hQQ]
      exact wr_l hx hb hr hlocks rfl hP9 hS dX3_enclosed_32
  · refine lv_iload_n hx hb dX3_enclosed_9 rfl (lv_at hl 2 rfl) ?_
    refine lv_iconst (v := zi (0)) hx hb dX3_enclosed_10 rfl ?_
    refine lv_iconst (v := zi (1)) hx hb dX3_enclosed_11 rfl ?_
    refine rdS (As := [.int (zi (en)), .int (zi (0)), .int (zi (1))]) (rest := [.ref m0]) (n := 3) hx hb hml hown hg (c_X3_in l (en) (0) (1) (by omega) (by omega) (by omega)) (gwS wl_X3_55 wt_X3_in wi_X3 wc_X3_in) rfl rfl (by decide +kernel) ⟨Nat.le_of_ble_eq_true rfl, Nat.le_of_ble_eq_true rfl⟩ rfl hl.1 rfl (Nat.le_of_ble_eq_true rfl) dX3_enclosed_12 ⟨Nat.zero_le _, Nat.zero_le _⟩ ?_
    refine zz_zb_ne (tgt := 22) hx hb dX3_enclosed_15 (by decide) (fun c_15 => ?_) (fun c_15 => ?_)
    · exact False.elim (by omega)
    · refine lv_iconst (v := zi (1)) hx hb dX3_enclosed_18 rfl ?_
      refine lv_goto (tgt := 23) hx hb dX3_enclosed_19 (by decide) ?_
      refine lv_iconst (v := zi (0)) hx hb dX3_enclosed_23 rfl ?_
      refine lv_iconst (v := zi (0)) hx hb dX3_enclosed_24 rfl ?_
      refine wrV (As := [.int (zi (1)), .int (zi (0)), .int (zi (0))]) (rest := []) (n := 3) (ws' := [(m0, .inr (3, [.int (zi (1)), .int (zi ((mp : Int))), .ref a1, .ref a2, .ref a3, .ref a4, .ref a5, .ref a6, .int (zi ((mb : Int))), .ref a7, .ref a8, .int (zi ((ml : Int))), .ref a9, .ref a10, .int (zi ((mz : Int))), .ref a11, .long (zl (ab)), .long (zl (be))]))]) hx hb hml hown hg (c_throwing l dC dI H.size m0 a1 a2 a3 a4 a5 a6 a7 a8 a9 a10 a11 (tw) (ab) (be) mp mb ml mz 1 0 0 (by decide) (by decide) (by decide)) (gwV wl_X3_59 wm_X3_throwing we_X3_throwing wi_X3 wc_X3_throwing) rfl rfl (by decide +kernel) ⟨Nat.le_of_ble_eq_true rfl, Nat.le_of_ble_eq_true rfl⟩ (hK.sub [] rfl) hP hD hS hA [0] rfl (by decide) [(true, 0)] rfl (by decide) rfl 0 rfl rfl rfl rfl hl.1 rfl (Nat.le_of_ble_eq_true rfl) dX3_enclosed_25 ⟨Nat.zero_le _, Nat.zero_le _⟩ (fun H locs hP hD hS => ?_)
      refine zz_topi (z := 1) (congrArg zi (by decide)) ?_
      refine zz_if_eq (tgt := 33) hx hb (by omega) dX3_enclosed_28 (by decide) (fun c_28 => ?_) (fun c_28 => ?_)
      · exact absurd c_28 (by decide)
      · refine lv_lconst (v := zl (0)) hx hb dX3_enclosed_31 (by decide) ?_
        have hP9 : va_P (dC, dI) vwCl [(m0, .inr (3, [.int (zi (1)), .int (zi ((mp : Int))), .ref a1, .ref a2, .ref a3, .ref a4, .ref a5, .ref a6, .int (zi ((mb : Int))), .ref a7, .ref a8, .int (zi ((ml : Int))), .ref a9, .ref a10, .int (zi ((mz : Int))), .ref a11, .long (zl (ab)), .long (zl (be))]))] H := hP
        rw [hQQ]
        exact wr_l hx hb hr hlocks rfl hP9 hS dX3_enclosed_32

set_option maxHeartbeats 4000000 in
set_option maxRecDepth 100000 in
theorem k_enclosed (l : Launch) (dC : Nat → ClassId) (dI : Nat → Nat → Nat) (sz : Nat) (m0 a1 a2 a3 a4 a5 a6 a7 a8 a9 a10 a11 : Nat) (tw ab be : Int) (mp mb ml mz : Nat) (cA : ClassId) (j n : Nat) (sf hh rr hs rs : Nat → Int) (wf : Nat → Int) (en : Int) (hj : j < 6) (hsf : sf j = (n : Int)) (hhs : ∀ k, k < 12 → hh (12 * j + k) = hs k) (hrs : ∀ k, k < 12 → rr (12 * j + k) = rs k) (hn : n ≤ 12) (hH : ∀ j, 0 ≤ hs j ∧ hs j ≤ 400) (hR : ∀ j, 0 ≤ rs j ∧ rs j ≤ 200) (hmp : mp ≤ 6) (hjp : j < mp) (th : Int) (hwf : wf j = th) (hth : 0 ≤ th ∧ th ≤ 50) (hp9 : en = 0 ∨ en = 1) (hok : m_oks n hs rs th (hs 0 + th) 400) (hsm : p_small (m_sum hs rs th (hs 0 + th) 400 (n - 1))) : Met l yX3_enclosed (Cond.code yX3_enclosed cX3_enclosed 3 ((Option.some Jvm.ClassFile.FieldType.long)) :: gw) rm_X3_enclosed (PcW [.ref m0, .int (zi ((j : Int))), .int (zi (en))] (dC, dI) vwCl [(m0, .inr (3, [.int (zi (tw)), .int (zi ((mp : Int))), .ref a1, .ref a2, .ref a3, .ref a4, .ref a5, .ref a6, .int (zi ((mb : Int))), .ref a7, .ref a8, .int (zi ((ml : Int))), .ref a9, .ref a10, .int (zi ((mz : Int))), .ref a11, .long (zl (ab)), .long (zl (be))])), (a1, .inl (cA, 6, .inl (zA (sf)))), (a2, .inl (cA, 72, .inl (zA (hh)))), (a3, .inl (cA, 72, .inl (zA (rr)))), (a5, .inl (cA, 6, .inl (zA (wf))))] [(cA, .int)] sz) (WrQ (some (.long (zl (m_enc (m_sum hs rs th (hs 0 + th) 400 (n - 1)) (en))))) (dC, dI) vwCl [(m0, .inr (3, [.int (zi (0)), .int (zi ((mp : Int))), .ref a1, .ref a2, .ref a3, .ref a4, .ref a5, .ref a6, .int (zi ((mb : Int))), .ref a7, .ref a8, .int (zi ((ml : Int))), .ref a9, .ref a10, .int (zi ((mz : Int))), .ref a11, .long (zl ((((m_sum hs rs th (hs 0 + th) 400 (n - 1)).1 : Nat) : Int))), .long (zl ((((m_sum hs rs th (hs 0 + th) 400 (n - 1)).2 : Nat) : Int)))])), (a1, .inl (cA, 6, .inl (zA (sf)))), (a2, .inl (cA, 72, .inl (zA (hh)))), (a3, .inl (cA, 72, .inl (zA (rr)))), (a5, .inl (cA, 6, .inl (zA (wf))))] (va_A [(m0, .inr (3, [.int (zi (tw)), .int (zi ((mp : Int))), .ref a1, .ref a2, .ref a3, .ref a4, .ref a5, .ref a6, .int (zi ((mb : Int))), .ref a7, .ref a8, .int (zi ((ml : Int))), .ref a9, .ref a10, .int (zi ((mz : Int))), .ref a11, .long (zl (ab)), .long (zl (be))])), (a1, .inl (cA, 6, .inl (zA (sf)))), (a2, .inl (cA, 72, .inl (zA (hh)))), (a3, .inl (cA, 72, .inl (zA (rr)))), (a5, .inl (cA, 6, .inl (zA (wf))))] sz)) 0 0 (va_A [(m0, .inr (3, [.int (zi (tw)), .int (zi ((mp : Int))), .ref a1, .ref a2, .ref a3, .ref a4, .ref a5, .ref a6, .int (zi ((mb : Int))), .ref a7, .ref a8, .int (zi ((ml : Int))), .ref a9, .ref a10, .int (zi ((mz : Int))), .ref a11, .long (zl (ab)), .long (zl (be))])), (a1, .inl (cA, 6, .inl (zA (sf)))), (a2, .inl (cA, 72, .inl (zA (hh)))), (a3, .inl (cA, 72, .inl (zA (rr)))), (a5, .inl (cA, 6, .inl (zA (wf))))] sz) := by
  refine Met.ofW (cc := cX3_enclosed) (maxL := 3) (ret := ((Option.some Jvm.ClassFile.FieldType.long))) (by decide) rfl ?_
  intro p e s m args below meth c s₁ B hml hv
  obtain ⟨hargs, hsz, hP, hK, hD0⟩ := hv
  have hx := B.exec
  have hb := B.bytes
  have hr := B.returns
  have hts := atoms_spec (ws := Cond.code yX3_enclosed cX3_enclosed 3 ((Option.some Jvm.ClassFile.FieldType.long)) :: gw) B.pre
  have hg : ∀ w ∈ gw, w.before args s = true := fun w h => hts w (List.mem_cons_of_mem _ h)
  have hown : s.vm.findClass RX3 = some m.cls := findClass_of_methodNamed B.named
  have hlocks := B.notSynchronized
  subst hsz
  have hD := hD0.self (sz := s.heap.size)
  generalize hAe : va_A [(m0, .inr (3, [.int (zi (tw)), .int (zi ((mp : Int))), .ref a1, .ref a2, .ref a3, .ref a4, .ref a5, .ref a6, .int (zi ((mb : Int))), .ref a7, .ref a8, .int (zi ((ml : Int))), .ref a9, .ref a10, .int (zi ((mz : Int))), .ref a11, .long (zl (ab)), .long (zl (be))])), (a1, .inl (cA, 6, .inl (zA (sf)))), (a2, .inl (cA, 72, .inl (zA (hh)))), (a3, .inl (cA, 72, .inl (zA (rr)))), (a5, .inl (cA, 6, .inl (zA (wf))))] s.heap.size = A at hD ⊢
  have hA : ∀ q : Nat, s.heap.size ≤ q → A q := fun q h => by rw [← hAe]; exact Or.inr h
  show W p l e rm_X3_enclosed s m args below meth c s.heap [] 0 0 _ _
  have hl := lv_entry ([.ref m0, .int (zi ((j : Int))), .int (zi (en))]) (n := 3) (Nat.le_of_ble_eq_true rfl)
  rw [show entryFrame m args 3 = entryFrame m ([.ref m0, .int (zi ((j : Int))), .int (zi (en))] : List Value).toArray 3 by rw [hargs], lg_entry_eq]
  generalize (lg_sl ([.ref m0, .int (zi ((j : Int))), .int (zi (en))]) ++ List.replicate (3 - (lg_sl ([.ref m0, .int (zi ((j : Int))), .int (zi (en))])).length) Slot.unset).toArray = ls at hl ⊢
  have hl : lv_has ls 3 [(0, .ref m0), (1, .int (zi ((j : Int)))), (2, .int (zi (en)))] := hl
  obtain ⟨QQ, hQQ⟩ : ∃ Q, Q = MQ below (WrQ (some (.long (zl (m_enc (m_sum hs rs th (hs 0 + th) 400 (n - 1)) (en))))) (dC, dI) vwCl [(m0, .inr (3, [.int (zi (0)), .int (zi ((mp : Int))), .ref a1, .ref a2, .ref a3, .ref a4, .ref a5, .ref a6, .int (zi ((mb : Int))), .ref a7, .ref a8, .int (zi ((ml : Int))), .ref a9, .ref a10, .int (zi ((mz : Int))), .ref a11, .long (zl ((((m_sum hs rs th (hs 0 + th) 400 (n - 1)).1 : Nat) : Int))), .long (zl ((((m_sum hs rs th (hs 0 + th) 400 (n - 1)).2 : Nat) : Int)))])), (a1, .inl (cA, 6, .inl (zA (sf)))), (a2, .inl (cA, 72, .inl (zA (hh)))), (a3, .inl (cA, 72, .inl (zA (rr)))), (a5, .inl (cA, 6, .inl (zA (wf))))] A) args s 0 0 A := ⟨_, rfl⟩
  rw [← hQQ]
  obtain ⟨H, hHe⟩ : ∃ H : Heap, H = s.heap := ⟨_, rfl⟩
  obtain ⟨locs, hlc⟩ : ∃ x : List Loc, x = [] := ⟨_, rfl⟩
  have hS : va_S A s.heap H locs := by rw [hHe, hlc]; exact va_S.rf
  have hP : va_P (dC, dI) vwCl [(m0, .inr (3, [.int (zi (tw)), .int (zi ((mp : Int))), .ref a1, .ref a2, .ref a3, .ref a4, .ref a5, .ref a6, .int (zi ((mb : Int))), .ref a7, .ref a8, .int (zi ((ml : Int))), .ref a9, .ref a10, .int (zi ((mz : Int))), .ref a11, .long (zl (ab)), .long (zl (be))])), (a1, .inl (cA, 6, .inl (zA (sf)))), (a2, .inl (cA, 72, .inl (zA (hh)))), (a3, .inl (cA, 72, .inl (zA (rr)))), (a5, .inl (cA, 6, .inl (zA (wf))))] H := by rw [hHe]; exact hP
  have hD : va_D A [(m0, .inr (3, [.int (zi (tw)), .int (zi ((mp : Int))), .ref a1, .ref a2, .ref a3, .ref a4, .ref a5, .ref a6, .int (zi ((mb : Int))), .ref a7, .ref a8, .int (zi ((ml : Int))), .ref a9, .ref a10, .int (zi ((mz : Int))), .ref a11, .long (zl (ab)), .long (zl (be))])), (a1, .inl (cA, 6, .inl (zA (sf)))), (a2, .inl (cA, 72, .inl (zA (hh)))), (a3, .inl (cA, 72, .inl (zA (rr)))), (a5, .inl (cA, 6, .inl (zA (wf))))] := hD
  rw [← hHe, ← hlc]
  refine lv_aload_n hx hb dX3_enclosed_0 rfl (lv_at hl 0 rfl) ?_
  refine lv_aload_n hx hb dX3_enclosed_1 rfl (lv_at hl 0 rfl) ?_
  refine lv_iload_n hx hb dX3_enclosed_2 rfl (lv_at hl 1 rfl) ?_
  refine rdV (As := [.int (zi ((j : Int)))]) (rest := [.ref m0]) (n := 1) hx hb hml hown hg (c_X3_isProfile l dC dI m0 a1 a2 a3 a4 a5 a6 a7 a8 a9 a10 a11 (tw) (ab) (be) mp mb ml mz ((j : Int)) hmp (by omega)) (gwV wl_X3_70 wm_X3_isProfile we_X3_isProfile wi_X3 wc_X3_isProfile) rfl rfl (by decide +kernel) ⟨Nat.le_of_ble_eq_true rfl, Nat.le_of_ble_eq_true rfl⟩ (hK.sub [] rfl) (hP.sub [0] rfl) 0 rfl rfl rfl rfl hl.1 rfl (Nat.le_of_ble_eq_true rfl) dX3_enclosed_3 ⟨Nat.zero_le _, Nat.zero_le _⟩ ?_
  refine zz_topi (z := 1) (congrArg zi (zb_t (decide_eq_true (by omega)))) ?_
  refine zz_if_eq (tgt := 18) hx hb (by omega) dX3_enclosed_6 (by decide) (fun c_6 => ?_) (fun c_6 => ?_)
  · exact absurd c_6 (by decide)
  · refine lv_iload_n hx hb dX3_enclosed_9 rfl (lv_at hl 2 rfl) ?_
    refine lv_iconst (v := zi (0)) hx hb dX3_enclosed_10 rfl ?_
    refine lv_iconst (v := zi (1)) hx hb dX3_enclosed_11 rfl ?_
    refine rdS (As := [.int (zi (en)), .int (zi (0)), .int (zi (1))]) (rest := [.ref m0]) (n := 3) hx hb hml hown hg (c_X3_in l (en) (0) (1) (by omega) (by omega) (by omega)) (gwS wl_X3_55 wt_X3_in wi_X3 wc_X3_in) rfl rfl (by decide +kernel) ⟨Nat.le_of_ble_eq_true rfl, Nat.le_of_ble_eq_true rfl⟩ rfl hl.1 rfl (Nat.le_of_ble_eq_true rfl) dX3_enclosed_12 ⟨Nat.zero_le _, Nat.zero_le _⟩ ?_
    refine zz_topi (z := 1) (congrArg zi (zb_t (decide_eq_true (by omega)))) ?_
    refine zz_if_ne (tgt := 22) hx hb (by omega) dX3_enclosed_15 (by decide) (fun c_15 => ?_) (fun c_15 => ?_)
    · refine lv_iconst (v := zi (0)) hx hb dX3_enclosed_22 rfl ?_
      refine lv_iconst (v := zi (0)) hx hb dX3_enclosed_23 rfl ?_
      refine lv_iconst (v := zi (0)) hx hb dX3_enclosed_24 rfl ?_
      refine wrV (As := [.int (zi (0)), .int (zi (0)), .int (zi (0))]) (rest := []) (n := 3) (ws' := [(m0, .inr (3, [.int (zi (0)), .int (zi ((mp : Int))), .ref a1, .ref a2, .ref a3, .ref a4, .ref a5, .ref a6, .int (zi ((mb : Int))), .ref a7, .ref a8, .int (zi ((ml : Int))), .ref a9, .ref a10, .int (zi ((mz : Int))), .ref a11, .long (zl (ab)), .long (zl (be))])), (a1, .inl (cA, 6, .inl (zA (sf)))), (a2, .inl (cA, 72, .inl (zA (hh)))), (a3, .inl (cA, 72, .inl (zA (rr)))), (a5, .inl (cA, 6, .inl (zA (wf))))]) hx hb hml hown hg (c_throwing l dC dI H.size m0 a1 a2 a3 a4 a5 a6 a7 a8 a9 a10 a11 (tw) (ab) (be) mp mb ml mz 0 0 0 (by decide) (by decide) (by decide)) (gwV wl_X3_59 wm_X3_throwing we_X3_throwing wi_X3 wc_X3_throwing) rfl rfl (by decide +kernel) ⟨Nat.le_of_ble_eq_true rfl, Nat.le_of_ble_eq_true rfl⟩ (hK.sub [] rfl) hP hD hS hA [0] rfl (by decide) [(true, 0), (false, 1), (false, 2), (false, 3), (false, 4)] rfl (by decide) rfl 0 rfl rfl rfl rfl hl.1 rfl (Nat.le_of_ble_eq_true rfl) dX3_enclosed_25 ⟨Nat.zero_le _, Nat.zero_le _⟩ (fun H locs hP hD hS => ?_)
      refine zz_topi (z := 0) (congrArg zi (by decide)) ?_
      refine zz_if_eq (tgt := 33) hx hb (by omega) dX3_enclosed_28 (by decide) (fun c_28 => ?_) (fun c_28 => ?_)
      · refine lv_aload_n hx hb dX3_enclosed_33 rfl (lv_at hl 0 rfl) ?_
        refine lv_iload_n hx hb dX3_enclosed_34 rfl (lv_at hl 1 rfl) ?_
        refine lv_iload_n hx hb dX3_enclosed_35 rfl (lv_at hl 2 rfl) ?_
        refine wrV (As := [.int (zi ((j : Int))), .int (zi (en))]) (rest := []) (n := 2) (ws' := [(m0, .inr (3, [.int (zi (0)), .int (zi ((mp : Int))), .ref a1, .ref a2, .ref a3, .ref a4, .ref a5, .ref a6, .int (zi ((mb : Int))), .ref a7, .ref a8, .int (zi ((ml : Int))), .ref a9, .ref a10, .int (zi ((mz : Int))), .ref a11, .long (zl ((((m_sum hs rs th (hs 0 + th) 400 (n - 1)).1 : Nat) : Int))), .long (zl ((((m_sum hs rs th (hs 0 + th) 400 (n - 1)).2 : Nat) : Int)))])), (a1, .inl (cA, 6, .inl (zA (sf)))), (a2, .inl (cA, 72, .inl (zA (hh)))), (a3, .inl (cA, 72, .inl (zA (rr)))), (a5, .inl (cA, 6, .inl (zA (wf))))]) hx hb hml hown hg (c_X3_enclose l dC dI H.size m0 a1 a2 a3 a4 a5 a6 a7 a8 a9 a10 a11 (0) (ab) (be) mp mb ml mz cA j n sf hh rr hs rs wf (en) hj hsf hhs hrs hn hH hR th hwf hth (by omega) hok hsm) (gwV wl_X3_127 wm_X3_enclose we_X3_enclose wi_X3 wc_X3_enclose) rfl rfl (by decide +kernel) ⟨Nat.le_of_ble_eq_true rfl, Nat.le_of_ble_eq_true rfl⟩ (hK.sub [0] rfl) hP hD hS hA [0, 1, 2, 3, 4] rfl (by decide) [(true, 0), (true, 1), (true, 2), (true, 3), (true, 4)] rfl (by decide) rfl 0 rfl rfl rfl rfl hl.1 rfl (Nat.le_of_ble_eq_true rfl) dX3_enclosed_36 ⟨Nat.zero_le _, Nat.zero_le _⟩ (fun H locs hP hD hS => ?_)
        have hP9 : va_P (dC, dI) vwCl [(m0, .inr (3, [.int (zi (0)), .int (zi ((mp : Int))), .ref a1, .ref a2, .ref a3, .ref a4, .ref a5, .ref a6, .int (zi ((mb : Int))), .ref a7, .ref a8, .int (zi ((ml : Int))), .ref a9, .ref a10, .int (zi ((mz : Int))), .ref a11, .long (zl ((((m_sum hs rs th (hs 0 + th) 400 (n - 1)).1 : Nat) : Int))), .long (zl ((((m_sum hs rs th (hs 0 + th) 400 (n - 1)).2 : Nat) : Int)))])), (a1, .inl (cA, 6, .inl (zA (sf)))), (a2, .inl (cA, 72, .inl (zA (hh)))), (a3, .inl (cA, 72, .inl (zA (rr)))), (a5, .inl (cA, 6, .inl (zA (wf))))] H := hP
        rw [hQQ]
        exact wr_l hx hb hr hlocks rfl hP9 hS dX3_enclosed_39
      · exact absurd c_28 (by decide)
    · exact absurd c_15 (by decide)

abbrev rm_X3_size : Room := { frames := 7, cells := 0, slots := 0, locals := 183 }
set_option maxHeartbeats 4000000 in
set_option maxRecDepth 100000 in
theorem e_size (l : Launch) (dC : Nat → ClassId) (dI : Nat → Nat → Nat) (sz : Nat) (m0 a1 a2 a3 a4 a5 a6 a7 a8 a9 a10 a11 : Nat) (tw ab be : Int) (mp mb ml mz : Nat) (q : Int) (hmp : mp ≤ 6) (h_q : -2147483648 ≤ q ∧ q < 2147483648) (hbad : ¬ (0 ≤ q ∧ q < (mp : Int))) : Met l yX3_size (Cond.code yX3_size cX3_size 6 ((Option.some Jvm.ClassFile.FieldType.int)) :: gw) rm_X3_size (PcW [.ref m0, .int (zi (q))] (dC, dI) vwCl [(m0, .inr (3, [.int (zi (tw)), .int (zi ((mp : Int))), .ref a1, .ref a2, .ref a3, .ref a4, .ref a5, .ref a6, .int (zi ((mb : Int))), .ref a7, .ref a8, .int (zi ((ml : Int))), .ref a9, .ref a10, .int (zi ((mz : Int))), .ref a11, .long (zl (ab)), .long (zl (be))]))] [] sz) (WrQ (some (.int (zi 0))) (dC, dI) vwCl [(m0, .inr (3, [.int (zi (1)), .int (zi ((mp : Int))), .ref a1, .ref a2, .ref a3, .ref a4, .ref a5, .ref a6, .int (zi ((mb : Int))), .ref a7, .ref a8, .int (zi ((ml : Int))), .ref a9, .ref a10, .int (zi ((mz : Int))), .ref a11, .long (zl (ab)), .long (zl (be))]))] (va_A [(m0, .inr (3, [.int (zi (tw)), .int (zi ((mp : Int))), .ref a1, .ref a2, .ref a3, .ref a4, .ref a5, .ref a6, .int (zi ((mb : Int))), .ref a7, .ref a8, .int (zi ((ml : Int))), .ref a9, .ref a10, .int (zi ((mz : Int))), .ref a11, .long (zl (ab)), .long (zl (be))]))] sz)) 0 0 (va_A [(m0, .inr (3, [.int (zi (tw)), .int (zi ((mp : Int))), .ref a1, .ref a2, .ref a3, .ref a4, .ref a5, .ref a6, .int (zi ((mb : Int))), .ref a7, .ref a8, .int (zi ((ml : Int))), .ref a9, .ref a10, .int (zi ((mz : Int))), .ref a11, .long (zl (ab)), .long (zl (be))]))] sz) := by
  refine Met.ofW (cc := cX3_size) (maxL := 6) (ret := ((Option.some Jvm.ClassFile.FieldType.int))) (by decide) rfl ?_
  intro p e s m args below meth c s₁ B hml hv
  obtain ⟨hargs, hsz, hP, hK, hD0⟩ := hv
  have hx := B.exec
  have hb := B.bytes
  have hr := B.returns
  have hts := atoms_spec (ws := Cond.code yX3_size cX3_size 6 ((Option.some Jvm.ClassFile.FieldType.int)) :: gw) B.pre
  have hg : ∀ w ∈ gw, w.before args s = true := fun w h => hts w (List.mem_cons_of_mem _ h)
  have hown : s.vm.findClass RX3 = some m.cls := findClass_of_methodNamed B.named
  have hlocks := B.notSynchronized
  subst hsz
  have hD := hD0.self (sz := s.heap.size)
  generalize hAe : va_A [(m0, .inr (3, [.int (zi (tw)), .int (zi ((mp : Int))), .ref a1, .ref a2, .ref a3, .ref a4, .ref a5, .ref a6, .int (zi ((mb : Int))), .ref a7, .ref a8, .int (zi ((ml : Int))), .ref a9, .ref a10, .int (zi ((mz : Int))), .ref a11, .long (zl (ab)), .long (zl (be))]))] s.heap.size = A at hD ⊢
  have hA : ∀ q : Nat, s.heap.size ≤ q → A q := fun q h => by rw [← hAe]; exact Or.inr h
  show W p l e rm_X3_size s m args below meth c s.heap [] 0 0 _ _
  have hl := lv_entry ([.ref m0, .int (zi (q))]) (n := 6) (Nat.le_of_ble_eq_true rfl)
  rw [show entryFrame m args 6 = entryFrame m ([.ref m0, .int (zi (q))] : List Value).toArray 6 by rw [hargs], lg_entry_eq]
  generalize (lg_sl ([.ref m0, .int (zi (q))]) ++ List.replicate (6 - (lg_sl ([.ref m0, .int (zi (q))])).length) Slot.unset).toArray = ls at hl ⊢
  have hl : lv_has ls 6 [(0, .ref m0), (1, .int (zi (q)))] := hl
  obtain ⟨QQ, hQQ⟩ : ∃ Q, Q = MQ below (WrQ (some (.int (zi 0))) (dC, dI) vwCl [(m0, .inr (3, [.int (zi (1)), .int (zi ((mp : Int))), .ref a1, .ref a2, .ref a3, .ref a4, .ref a5, .ref a6, .int (zi ((mb : Int))), .ref a7, .ref a8, .int (zi ((ml : Int))), .ref a9, .ref a10, .int (zi ((mz : Int))), .ref a11, .long (zl (ab)), .long (zl (be))]))] A) args s 0 0 A := ⟨_, rfl⟩
  rw [← hQQ]
  obtain ⟨H, hHe⟩ : ∃ H : Heap, H = s.heap := ⟨_, rfl⟩
  obtain ⟨locs, hlc⟩ : ∃ x : List Loc, x = [] := ⟨_, rfl⟩
  have hS : va_S A s.heap H locs := by rw [hHe, hlc]; exact va_S.rf
  have hP : va_P (dC, dI) vwCl [(m0, .inr (3, [.int (zi (tw)), .int (zi ((mp : Int))), .ref a1, .ref a2, .ref a3, .ref a4, .ref a5, .ref a6, .int (zi ((mb : Int))), .ref a7, .ref a8, .int (zi ((ml : Int))), .ref a9, .ref a10, .int (zi ((mz : Int))), .ref a11, .long (zl (ab)), .long (zl (be))]))] H := by rw [hHe]; exact hP
  have hD : va_D A [(m0, .inr (3, [.int (zi (tw)), .int (zi ((mp : Int))), .ref a1, .ref a2, .ref a3, .ref a4, .ref a5, .ref a6, .int (zi ((mb : Int))), .ref a7, .ref a8, .int (zi ((ml : Int))), .ref a9, .ref a10, .int (zi ((mz : Int))), .ref a11, .long (zl (ab)), .long (zl (be))]))] := hD
  rw [← hHe, ← hlc]
  refine lv_aload_n hx hb dX3_size_0 rfl (lv_at hl 0 rfl) ?_
  refine lv_aload_n hx hb dX3_size_1 rfl (lv_at hl 0 rfl) ?_
  refine lv_iload_n hx hb dX3_size_2 rfl (lv_at hl 1 rfl) ?_
  refine rdV (As := [.int (zi (q))]) (rest := [.ref m0]) (n := 1) hx hb hml hown hg (c_X3_isProfile l dC dI m0 a1 a2 a3 a4 a5 a6 a7 a8 a9 a10 a11 (tw) (ab) (be) mp mb ml mz (q) hmp (by omega)) (gwV wl_X3_70 wm_X3_isProfile we_X3_isProfile wi_X3 wc_X3_isProfile) rfl rfl (by decide +kernel) ⟨Nat.le_of_ble_eq_true rfl, Nat.le_of_ble_eq_true rfl⟩ (hK.sub [] rfl) (hP.sub [0] rfl) 0 rfl rfl rfl rfl hl.1 rfl (Nat.le_of_ble_eq_true rfl) dX3_size_3 ⟨Nat.zero_le _, Nat.zero_le _⟩ ?_
  refine zz_zb_ne (tgt := 13) hx hb dX3_size_6 (by decide) (fun c_6 => ?_) (fun c_6 => ?_)
  · exact False.elim (by omega)
  · refine lv_iconst (v := zi (1)) hx hb dX3_size_9 rfl ?_
    refine lv_goto (tgt := 14) hx hb dX3_size_10 (by decide) ?_
    refine lv_iconst (v := zi (0)) hx hb dX3_size_14 rfl ?_
    refine lv_iconst (v := zi (0)) hx hb dX3_size_15 rfl ?_
    refine wrV (As := [.int (zi (1)), .int (zi (0)), .int (zi (0))]) (rest := []) (n := 3) (ws' := [(m0, .inr (3, [.int (zi (1)), .int (zi ((mp : Int))), .ref a1, .ref a2, .ref a3, .ref a4, .ref a5, .ref a6, .int (zi ((mb : Int))), .ref a7, .ref a8, .int (zi ((ml : Int))), .ref a9, .ref a10, .int (zi ((mz : Int))), .ref a11, .long (zl (ab)), .long (zl (be))]))]) hx hb hml hown hg (c_throwing l dC dI H.size m0 a1 a2 a3 a4 a5 a6 a7 a8 a9 a10 a11 (tw) (ab) (be) mp mb ml mz 1 0 0 (by decide) (by decide) (by decide)) (gwV wl_X3_59 wm_X3_throwing we_X3_throwing wi_X3 wc_X3_throwing) rfl rfl (by decide +kernel) ⟨Nat.le_of_ble_eq_true rfl, Nat.le_of_ble_eq_true rfl⟩ (hK.sub [] rfl) hP hD hS hA [0] rfl (by decide) [(true, 0)] rfl (by decide) rfl 0 rfl rfl rfl rfl hl.1 rfl (Nat.le_of_ble_eq_true rfl) dX3_size_16 ⟨Nat.zero_le _, Nat.zero_le _⟩ (fun H locs hP hD hS => ?_)
    refine zz_topi (z := 1) (congrArg zi (by decide)) ?_
    refine zz_if_eq (tgt := 24) hx hb (by omega) dX3_size_19 (by decide) (fun c_19 => ?_) (fun c_19 => ?_)
    · exact absurd c_19 (by decide)
    · refine lv_iconst (v := zi (0)) hx hb dX3_size_22 rfl ?_
      have hP9 : va_P (dC, dI) vwCl [(m0, .inr (3, [.int (zi (1)), .int (zi ((mp : Int))), .ref a1, .ref a2, .ref a3, .ref a4, .ref a5, .ref a6, .int (zi ((mb : Int))), .ref a7, .ref a8, .int (zi ((ml : Int))), .ref a9, .ref a10, .int (zi ((mz : Int))), .ref a11, .long (zl (ab)), .long (zl (be))]))] H := hP
      rw [hQQ]
      exact wr_i hx hb hr hlocks rfl hP9 hS dX3_size_23

set_option maxHeartbeats 4000000 in
set_option maxRecDepth 100000 in
theorem k_size (l : Launch) (dC : Nat → ClassId) (dI : Nat → Nat → Nat) (sz : Nat) (m0 a1 a2 a3 a4 a5 a6 a7 a8 a9 a10 a11 : Nat) (tw ab be : Int) (mp mb ml mz : Nat) (cA : ClassId) (j n : Nat) (sf hh rr hs rs : Nat → Int) (wf : Nat → Int) (bs : Nat → Int) (hj : j < 6) (hsf : sf j = (n : Int)) (hhs : ∀ k, k < 12 → hh (12 * j + k) = hs k) (hrs : ∀ k, k < 12 → rr (12 * j + k) = rs k) (hn : n ≤ 12) (hH : ∀ j, 0 ≤ hs j ∧ hs j ≤ 400) (hR : ∀ j, 0 ≤ rs j ∧ rs j ≤ 200) (hmp : mp ≤ 6) (hjp : j < mp) (th : Int) (hwf : wf j = th) (hth : 0 ≤ th ∧ th ≤ 50) (hok : m_oks n hs rs th (hs 0 + th) 400) (hsm : p_small (m_sum hs rs th (hs 0 + th) 400 (n - 1))) (hbn : mb ≤ 10) (hbs : ∀ j, 0 ≤ bs j ∧ bs j ≤ 1000000000) : Met l yX3_size (Cond.code yX3_size cX3_size 6 ((Option.some Jvm.ClassFile.FieldType.int)) :: gw) rm_X3_size (PcW [.ref m0, .int (zi ((j : Int)))] (dC, dI) vwCl [(m0, .inr (3, [.int (zi (tw)), .int (zi ((mp : Int))), .ref a1, .ref a2, .ref a3, .ref a4, .ref a5, .ref a6, .int (zi ((mb : Int))), .ref a7, .ref a8, .int (zi ((ml : Int))), .ref a9, .ref a10, .int (zi ((mz : Int))), .ref a11, .long (zl (ab)), .long (zl (be))])), (a1, .inl (cA, 6, .inl (zA (sf)))), (a2, .inl (cA, 72, .inl (zA (hh)))), (a3, .inl (cA, 72, .inl (zA (rr)))), (a5, .inl (cA, 6, .inl (zA (wf)))), (a6, .inl (cA, 10, .inl (zA (bs))))] [(cA, .int)] sz) (WrQ (some (.int (zi ((s_cnt bs (m_enc (m_sum hs rs th (hs 0 + th) 400 (n - 1)) 0) mb : Nat) : Int)))) (dC, dI) vwCl [(m0, .inr (3, [.int (zi (0)), .int (zi ((mp : Int))), .ref a1, .ref a2, .ref a3, .ref a4, .ref a5, .ref a6, .int (zi ((mb : Int))), .ref a7, .ref a8, .int (zi ((ml : Int))), .ref a9, .ref a10, .int (zi ((mz : Int))), .ref a11, .long (zl ((((m_sum hs rs th (hs 0 + th) 400 (n - 1)).1 : Nat) : Int))), .long (zl ((((m_sum hs rs th (hs 0 + th) 400 (n - 1)).2 : Nat) : Int)))])), (a1, .inl (cA, 6, .inl (zA (sf)))), (a2, .inl (cA, 72, .inl (zA (hh)))), (a3, .inl (cA, 72, .inl (zA (rr)))), (a5, .inl (cA, 6, .inl (zA (wf)))), (a6, .inl (cA, 10, .inl (zA (bs))))] (va_A [(m0, .inr (3, [.int (zi (tw)), .int (zi ((mp : Int))), .ref a1, .ref a2, .ref a3, .ref a4, .ref a5, .ref a6, .int (zi ((mb : Int))), .ref a7, .ref a8, .int (zi ((ml : Int))), .ref a9, .ref a10, .int (zi ((mz : Int))), .ref a11, .long (zl (ab)), .long (zl (be))])), (a1, .inl (cA, 6, .inl (zA (sf)))), (a2, .inl (cA, 72, .inl (zA (hh)))), (a3, .inl (cA, 72, .inl (zA (rr)))), (a5, .inl (cA, 6, .inl (zA (wf)))), (a6, .inl (cA, 10, .inl (zA (bs))))] sz)) 0 0 (va_A [(m0, .inr (3, [.int (zi (tw)), .int (zi ((mp : Int))), .ref a1, .ref a2, .ref a3, .ref a4, .ref a5, .ref a6, .int (zi ((mb : Int))), .ref a7, .ref a8, .int (zi ((ml : Int))), .ref a9, .ref a10, .int (zi ((mz : Int))), .ref a11, .long (zl (ab)), .long (zl (be))])), (a1, .inl (cA, 6, .inl (zA (sf)))), (a2, .inl (cA, 72, .inl (zA (hh)))), (a3, .inl (cA, 72, .inl (zA (rr)))), (a5, .inl (cA, 6, .inl (zA (wf)))), (a6, .inl (cA, 10, .inl (zA (bs))))] sz) := by
  refine Met.ofW (cc := cX3_size) (maxL := 6) (ret := ((Option.some Jvm.ClassFile.FieldType.int))) (by decide) rfl ?_
  intro p e s m args below meth c s₁ B hml hv
  obtain ⟨hargs, hsz, hP, hK, hD0⟩ := hv
  have hx := B.exec
  have hb := B.bytes
  have hr := B.returns
  have hts := atoms_spec (ws := Cond.code yX3_size cX3_size 6 ((Option.some Jvm.ClassFile.FieldType.int)) :: gw) B.pre
  have hg : ∀ w ∈ gw, w.before args s = true := fun w h => hts w (List.mem_cons_of_mem _ h)
  have hown : s.vm.findClass RX3 = some m.cls := findClass_of_methodNamed B.named
  have hlocks := B.notSynchronized
  subst hsz
  have hD := hD0.self (sz := s.heap.size)
  generalize hAe : va_A [(m0, .inr (3, [.int (zi (tw)), .int (zi ((mp : Int))), .ref a1, .ref a2, .ref a3, .ref a4, .ref a5, .ref a6, .int (zi ((mb : Int))), .ref a7, .ref a8, .int (zi ((ml : Int))), .ref a9, .ref a10, .int (zi ((mz : Int))), .ref a11, .long (zl (ab)), .long (zl (be))])), (a1, .inl (cA, 6, .inl (zA (sf)))), (a2, .inl (cA, 72, .inl (zA (hh)))), (a3, .inl (cA, 72, .inl (zA (rr)))), (a5, .inl (cA, 6, .inl (zA (wf)))), (a6, .inl (cA, 10, .inl (zA (bs))))] s.heap.size = A at hD ⊢
  have hA : ∀ q : Nat, s.heap.size ≤ q → A q := fun q h => by rw [← hAe]; exact Or.inr h
  show W p l e rm_X3_size s m args below meth c s.heap [] 0 0 _ _
  have hl := lv_entry ([.ref m0, .int (zi ((j : Int)))]) (n := 6) (Nat.le_of_ble_eq_true rfl)
  rw [show entryFrame m args 6 = entryFrame m ([.ref m0, .int (zi ((j : Int)))] : List Value).toArray 6 by rw [hargs], lg_entry_eq]
  generalize (lg_sl ([.ref m0, .int (zi ((j : Int)))]) ++ List.replicate (6 - (lg_sl ([.ref m0, .int (zi ((j : Int)))])).length) Slot.unset).toArray = ls at hl ⊢
  have hl : lv_has ls 6 [(0, .ref m0), (1, .int (zi ((j : Int))))] := hl
  obtain ⟨QQ, hQQ⟩ : ∃ Q, Q = MQ below (WrQ (some (.int (zi ((s_cnt bs (m_enc (m_sum hs rs th (hs 0 + th) 400 (n - 1)) 0) mb : Nat) : Int)))) (dC, dI) vwCl [(m0, .inr (3, [.int (zi (0)), .int (zi ((mp : Int))), .ref a1, .ref a2, .ref a3, .ref a4, .ref a5, .ref a6, .int (zi ((mb : Int))), .ref a7, .ref a8, .int (zi ((ml : Int))), .ref a9, .ref a10, .int (zi ((mz : Int))), .ref a11, .long (zl ((((m_sum hs rs th (hs 0 + th) 400 (n - 1)).1 : Nat) : Int))), .long (zl ((((m_sum hs rs th (hs 0 + th) 400 (n - 1)).2 : Nat) : Int)))])), (a1, .inl (cA, 6, .inl (zA (sf)))), (a2, .inl (cA, 72, .inl (zA (hh)))), (a3, .inl (cA, 72, .inl (zA (rr)))), (a5, .inl (cA, 6, .inl (zA (wf)))), (a6, .inl (cA, 10, .inl (zA (bs))))] A) args s 0 0 A := ⟨_, rfl⟩
  rw [← hQQ]
  obtain ⟨H, hHe⟩ : ∃ H : Heap, H = s.heap := ⟨_, rfl⟩
  obtain ⟨locs, hlc⟩ : ∃ x : List Loc, x = [] := ⟨_, rfl⟩
  have hS : va_S A s.heap H locs := by rw [hHe, hlc]; exact va_S.rf
  have hP : va_P (dC, dI) vwCl [(m0, .inr (3, [.int (zi (tw)), .int (zi ((mp : Int))), .ref a1, .ref a2, .ref a3, .ref a4, .ref a5, .ref a6, .int (zi ((mb : Int))), .ref a7, .ref a8, .int (zi ((ml : Int))), .ref a9, .ref a10, .int (zi ((mz : Int))), .ref a11, .long (zl (ab)), .long (zl (be))])), (a1, .inl (cA, 6, .inl (zA (sf)))), (a2, .inl (cA, 72, .inl (zA (hh)))), (a3, .inl (cA, 72, .inl (zA (rr)))), (a5, .inl (cA, 6, .inl (zA (wf)))), (a6, .inl (cA, 10, .inl (zA (bs))))] H := by rw [hHe]; exact hP
  have hD : va_D A [(m0, .inr (3, [.int (zi (tw)), .int (zi ((mp : Int))), .ref a1, .ref a2, .ref a3, .ref a4, .ref a5, .ref a6, .int (zi ((mb : Int))), .ref a7, .ref a8, .int (zi ((ml : Int))), .ref a9, .ref a10, .int (zi ((mz : Int))), .ref a11, .long (zl (ab)), .long (zl (be))])), (a1, .inl (cA, 6, .inl (zA (sf)))), (a2, .inl (cA, 72, .inl (zA (hh)))), (a3, .inl (cA, 72, .inl (zA (rr)))), (a5, .inl (cA, 6, .inl (zA (wf)))), (a6, .inl (cA, 10, .inl (zA (bs))))] := hD
  rw [← hHe, ← hlc]
  have hen := m_enc_bd hsm
  refine lv_aload_n hx hb dX3_size_0 rfl (lv_at hl 0 rfl) ?_
  refine lv_aload_n hx hb dX3_size_1 rfl (lv_at hl 0 rfl) ?_
  refine lv_iload_n hx hb dX3_size_2 rfl (lv_at hl 1 rfl) ?_
  refine rdV (As := [.int (zi ((j : Int)))]) (rest := [.ref m0]) (n := 1) hx hb hml hown hg (c_X3_isProfile l dC dI m0 a1 a2 a3 a4 a5 a6 a7 a8 a9 a10 a11 (tw) (ab) (be) mp mb ml mz ((j : Int)) hmp (by omega)) (gwV wl_X3_70 wm_X3_isProfile we_X3_isProfile wi_X3 wc_X3_isProfile) rfl rfl (by decide +kernel) ⟨Nat.le_of_ble_eq_true rfl, Nat.le_of_ble_eq_true rfl⟩ (hK.sub [] rfl) (hP.sub [0] rfl) 0 rfl rfl rfl rfl hl.1 rfl (Nat.le_of_ble_eq_true rfl) dX3_size_3 ⟨Nat.zero_le _, Nat.zero_le _⟩ ?_
  refine zz_topi (z := 1) (congrArg zi (zb_t (decide_eq_true (by omega)))) ?_
  refine zz_if_ne (tgt := 13) hx hb (by omega) dX3_size_6 (by decide) (fun c_6 => ?_) (fun c_6 => ?_)
  · refine lv_iconst (v := zi (0)) hx hb dX3_size_13 rfl ?_
    refine lv_iconst (v := zi (0)) hx hb dX3_size_14 rfl ?_
    refine lv_iconst (v := zi (0)) hx hb dX3_size_15 rfl ?_
    refine wrV (As := [.int (zi (0)), .int (zi (0)), .int (zi (0))]) (rest := []) (n := 3) (ws' := [(m0, .inr (3, [.int (zi (0)), .int (zi ((mp : Int))), .ref a1, .ref a2, .ref a3, .ref a4, .ref a5, .ref a6, .int (zi ((mb : Int))), .ref a7, .ref a8, .int (zi ((ml : Int))), .ref a9, .ref a10, .int (zi ((mz : Int))), .ref a11, .long (zl (ab)), .long (zl (be))])), (a1, .inl (cA, 6, .inl (zA (sf)))), (a2, .inl (cA, 72, .inl (zA (hh)))), (a3, .inl (cA, 72, .inl (zA (rr)))), (a5, .inl (cA, 6, .inl (zA (wf)))), (a6, .inl (cA, 10, .inl (zA (bs))))]) hx hb hml hown hg (c_throwing l dC dI H.size m0 a1 a2 a3 a4 a5 a6 a7 a8 a9 a10 a11 (tw) (ab) (be) mp mb ml mz 0 0 0 (by decide) (by decide) (by decide)) (gwV wl_X3_59 wm_X3_throwing we_X3_throwing wi_X3 wc_X3_throwing) rfl rfl (by decide +kernel) ⟨Nat.le_of_ble_eq_true rfl, Nat.le_of_ble_eq_true rfl⟩ (hK.sub [] rfl) hP hD hS hA [0] rfl (by decide) [(true, 0), (false, 1), (false, 2), (false, 3), (false, 4), (false, 5)] rfl (by decide) rfl 0 rfl rfl rfl rfl hl.1 rfl (Nat.le_of_ble_eq_true rfl) dX3_size_16 ⟨Nat.zero_le _, Nat.zero_le _⟩ (fun H locs hP hD hS => ?_)
    refine zz_topi (z := 0) (congrArg zi (by decide)) ?_
    refine zz_if_eq (tgt := 24) hx hb (by omega) dX3_size_19 (by decide) (fun c_19 => ?_) (fun c_19 => ?_)
    · refine lv_aload_n hx hb dX3_size_24 rfl (lv_at hl 0 rfl) ?_
      refine lv_iload_n hx hb dX3_size_25 rfl (lv_at hl 1 rfl) ?_
      refine lv_iconst (v := zi (0)) hx hb dX3_size_26 rfl ?_
      refine wrV (As := [.int (zi ((j : Int))), .int (zi (0))]) (rest := []) (n := 2) (ws' := [(m0, .inr (3, [.int (zi (0)), .int (zi ((mp : Int))), .ref a1, .ref a2, .ref a3, .ref a4, .ref a5, .ref a6, .int (zi ((mb : Int))), .ref a7, .ref a8, .int (zi ((ml : Int))), .ref a9, .ref a10, .int (zi ((mz : Int))), .ref a11, .long (zl ((((m_sum hs rs th (hs 0 + th) 400 (n - 1)).1 : Nat) : Int))), .long (zl ((((m_sum hs rs th (hs 0 + th) 400 (n - 1)).2 : Nat) : Int)))])), (a1, .inl (cA, 6, .inl (zA (sf)))), (a2, .inl (cA, 72, .inl (zA (hh)))), (a3, .inl (cA, 72, .inl (zA (rr)))), (a5, .inl (cA, 6, .inl (zA (wf)))), (a6, .inl (cA, 10, .inl (zA (bs))))]) hx hb hml hown hg (c_X3_enclose l dC dI H.size m0 a1 a2 a3 a4 a5 a6 a7 a8 a9 a10 a11 (0) (ab) (be) mp mb ml mz cA j n sf hh rr hs rs wf (0) hj hsf hhs hrs hn hH hR th hwf hth (by omega) hok hsm) (gwV wl_X3_127 wm_X3_enclose we_X3_enclose wi_X3 wc_X3_enclose) rfl rfl (by decide +kernel) ⟨Nat.le_of_ble_eq_true rfl, Nat.le_of_ble_eq_true rfl⟩ (hK.sub [0] rfl) hP hD hS hA [0, 1, 2, 3, 4] rfl (by decide) [(true, 0), (true, 1), (true, 2), (true, 3), (true, 4), (false, 5)] rfl (by decide) rfl 0 rfl rfl rfl rfl hl.1 rfl (Nat.le_of_ble_eq_true rfl) dX3_size_27 ⟨Nat.zero_le _, Nat.zero_le _⟩ (fun H locs hP hD hS => ?_)
      refine lv_lstore_n (lv' := [(2, .long (zl (m_enc (m_sum hs rs th (hs 0 + th) 400 (n - 1)) (0)))), (0, .ref m0), (1, .int (zi ((j : Int))))]) hx hb dX3_size_30 rfl hl (by decide) rfl (fun ls hl => ?_)
      refine lv_iconst (v := zi (0)) hx hb dX3_size_31 rfl ?_
      refine lv_istore (lv' := [(4, .int (zi (0))), (2, .long (zl (m_enc (m_sum hs rs th (hs 0 + th) 400 (n - 1)) (0)))), (0, .ref m0), (1, .int (zi ((j : Int))))]) hx hb dX3_size_32 hl (by decide) rfl (fun ls hl => ?_)
      refine lv_iconst (v := zi (0)) hx hb dX3_size_34 rfl ?_
      refine lv_istore (lv' := [(5, .int (zi (0))), (4, .int (zi (0))), (2, .long (zl (m_enc (m_sum hs rs th (hs 0 + th) 400 (n - 1)) (0)))), (0, .ref m0), (1, .int (zi ((j : Int))))]) hx hb dX3_size_35 hl (by decide) rfl (fun ls hl => ?_)
      have key_37 : ∀ (n_ : Nat) (k : Nat), k ≤ mb → 11 - k < n_ → ∀ (H : Heap) (locs : List Loc), va_P (dC, dI) vwCl [(m0, .inr (3, [.int (zi (0)), .int (zi ((mp : Int))), .ref a1, .ref a2, .ref a3, .ref a4, .ref a5, .ref a6, .int (zi ((mb : Int))), .ref a7, .ref a8, .int (zi ((ml : Int))), .ref a9, .ref a10, .int (zi ((mz : Int))), .ref a11, .long (zl ((((m_sum hs rs th (hs 0 + th) 400 (n - 1)).1 : Nat) : Int))), .long (zl ((((m_sum hs rs th (hs 0 + th) 400 (n - 1)).2 : Nat) : Int)))])), (a1, .inl (cA, 6, .inl (zA (sf)))), (a2, .inl (cA, 72, .inl (zA (hh)))), (a3, .inl (cA, 72, .inl (zA (rr)))), (a5, .inl (cA, 6, .inl (zA (wf)))), (a6, .inl (cA, 10, .inl (zA (bs))))] H → va_D A [(m0, .inr (3, [.int (zi (0)), .int (zi ((mp : Int))), .ref a1, .ref a2, .ref a3, .ref a4, .ref a5, .ref a6, .int (zi ((mb : Int))), .ref a7, .ref a8, .int (zi ((ml : Int))), .ref a9, .ref a10, .int (zi ((mz : Int))), .ref a11, .long (zl ((((m_sum hs rs th (hs 0 + th) 400 (n - 1)).1 : Nat) : Int))), .long (zl ((((m_sum hs rs th (hs 0 + th) 400 (n - 1)).2 : Nat) : Int)))])), (a1, .inl (cA, 6, .inl (zA (sf)))), (a2, .inl (cA, 72, .inl (zA (hh)))), (a3, .inl (cA, 72, .inl (zA (rr)))), (a5, .inl (cA, 6, .inl (zA (wf)))), (a6, .inl (cA, 10, .inl (zA (bs))))] → va_S A s.heap H locs → ∀ (ls : Array Slot), lv_has ls 6 [(5, .int (zi ((k : Int)))), (4, .int (zi (((s_cnt bs (m_enc (m_sum hs rs th (hs 0 + th) 400 (n - 1)) (0)) k : Nat) : Int)))), (2, .long (zl (m_enc (m_sum hs rs th (hs 0 + th) 400 (n - 1)) (0)))), (0, .ref m0), (1, .int (zi ((j : Int))))] → W p l e rm_X3_size s m args below meth c H locs 0 0 QQ (F0 m 37 ls []) := by
        intro n_
        induction n_ with
        | zero => intro k hk1 hm_; exact absurd hm_ (Nat.not_lt_zero _)
        | succ n_ ih =>
          intro k hk1 hm_ H locs hP hD hS ls hl
          refine lv_iload hx hb dX3_size_37 (lv_at hl 0 rfl) ?_
          refine lv_aload_n hx hb dX3_size_39 rfl (lv_at hl 3 rfl) ?_
          refine va_get (D := (dC, dI)) (ci := 3) (v := .int (zi ((mb : Int)))) (C := RX3) (T := TX3) (N := 18) hx hb hg inX3 hown hK hP 0 rfl rfl 8 (by decide) (hg _ wl_X3_136) (fun _ h9 => h9) rfl dX3_size_40 ?_
          refine zz_icmp_ge (tgt := 75) hx hb (by omega) (by omega) dX3_size_43 (by decide) (fun c_43 => ?_) (fun c_43 => ?_)
          · refine lv_iload hx hb dX3_size_75 (lv_at hl 1 rfl) ?_
            have hP9 : va_P (dC, dI) vwCl [(m0, .inr (3, [.int (zi (0)), .int (zi ((mp : Int))), .ref a1, .ref a2, .ref a3, .ref a4, .ref a5, .ref a6, .int (zi ((mb : Int))), .ref a7, .ref a8, .int (zi ((ml : Int))), .ref a9, .ref a10, .int (zi ((mz : Int))), .ref a11, .long (zl ((((m_sum hs rs th (hs 0 + th) 400 (n - 1)).1 : Nat) : Int))), .long (zl ((((m_sum hs rs th (hs 0 + th) 400 (n - 1)).2 : Nat) : Int)))])), (a1, .inl (cA, 6, .inl (zA (sf)))), (a2, .inl (cA, 72, .inl (zA (hh)))), (a3, .inl (cA, 72, .inl (zA (rr)))), (a5, .inl (cA, 6, .inl (zA (wf)))), (a6, .inl (cA, 10, .inl (zA (bs))))] H := hP
            rw [hQQ]
            exact wr_i hx hb hr hlocks (by rw [show mb = k by omega]) hP9 hS dX3_size_77
          · refine lv_iload hx hb dX3_size_46 (lv_at hl 1 rfl) ?_
            refine lv_aload_n hx hb dX3_size_48 rfl (lv_at hl 3 rfl) ?_
            refine va_get (D := (dC, dI)) (ci := 3) (v := .ref a6) (C := RX3) (T := TX3) (N := 18) hx hb hg inX3 hown hK hP 0 rfl rfl 7 (by decide) (hg _ wl_X3_26) (fun _ h9 => h9) rfl dX3_size_49 ?_
            refine lv_iload hx hb dX3_size_52 (lv_at hl 0 rfl) ?_
            refine zz_iald hx hb hK hP 5 0 rfl rfl (k) (by omega) (by omega) (by decide) dX3_size_54 ?_
            have hv_1 := hbs (k)
            refine zz_i2l hx hb (by omega) dX3_size_55 ?_
            refine lv_lload_n hx hb dX3_size_56 rfl (lv_at hl 2 rfl) ?_
            refine zz_lcmp_gt (tgt := 65) hx hb (by omega) (by omega) dX3_size_57 dX3_size_58 (by decide) (fun c_57 => ?_) (fun c_57 => ?_)
            · refine lv_iconst (v := zi (0)) hx hb dX3_size_65 rfl ?_
              refine zz_iadd hx hb dX3_size_66 ?_
              refine lv_istore (lv' := [(4, .int (zi ((((s_cnt bs (m_enc (m_sum hs rs th (hs 0 + th) 400 (n - 1)) (0)) k : Nat) : Int)) + (0)))), (5, .int (zi ((k : Int)))), (2, .long (zl (m_enc (m_sum hs rs th (hs 0 + th) 400 (n - 1)) (0)))), (0, .ref m0), (1, .int (zi ((j : Int))))]) hx hb dX3_size_67 hl (by decide) rfl (fun ls hl => ?_)
              refine lv_iinc (v := zi (((k : Int)) + (1))) (lv' := [(5, .int (zi (((k : Int)) + (1)))), (4, .int (zi ((((s_cnt bs (m_enc (m_sum hs rs th (hs 0 + th) 400 (n - 1)) (0)) k : Nat) : Int)) + (0)))), (2, .long (zl (m_enc (m_sum hs rs th (hs 0 + th) 400 (n - 1)) (0)))), (0, .ref m0), (1, .int (zi ((j : Int))))]) hx hb dX3_size_69 hl (k := 1) rfl (zi_add _ _) (by decide) rfl (fun ls hl => ?_)
              refine lv_goto (tgt := 37) hx hb dX3_size_72 (by decide) ?_
              have hst : ((s_cnt bs (m_enc (m_sum hs rs th (hs 0 + th) 400 (n - 1)) (0)) (k + 1) : Nat) : Int) = (((s_cnt bs (m_enc (m_sum hs rs th (hs 0 + th) 400 (n - 1)) (0)) k : Nat) : Int)) + (0) := by rw [s_cnt, if_neg (by omega)]; rfl
              rw [← hst] at hl
              exact ih (k + 1) (by omega) (by omega) H locs (hP.sub [0, 1, 2, 3, 4, 5] rfl) (hD.sub [0, 1, 2, 3, 4, 5] (by decide) rfl) hS ls (lv_sub hl [0, 1, 2, 3, 4] rfl)
            · refine lv_iconst (v := zi (1)) hx hb dX3_size_61 rfl ?_
              refine lv_goto (tgt := 66) hx hb dX3_size_62 (by decide) ?_
              refine zz_iadd hx hb dX3_size_66 ?_
              refine lv_istore (lv' := [(4, .int (zi ((((s_cnt bs (m_enc (m_sum hs rs th (hs 0 + th) 400 (n - 1)) (0)) k : Nat) : Int)) + (1)))), (5, .int (zi ((k : Int)))), (2, .long (zl (m_enc (m_sum hs rs th (hs 0 + th) 400 (n - 1)) (0)))), (0, .ref m0), (1, .int (zi ((j : Int))))]) hx hb dX3_size_67 hl (by decide) rfl (fun ls hl => ?_)
              refine lv_iinc (v := zi (((k : Int)) + (1))) (lv' := [(5, .int (zi (((k : Int)) + (1)))), (4, .int (zi ((((s_cnt bs (m_enc (m_sum hs rs th (hs 0 + th) 400 (n - 1)) (0)) k : Nat) : Int)) + (1)))), (2, .long (zl (m_enc (m_sum hs rs th (hs 0 + th) 400 (n - 1)) (0)))), (0, .ref m0), (1, .int (zi ((j : Int))))]) hx hb dX3_size_69 hl (k := 1) rfl (zi_add _ _) (by decide) rfl (fun ls hl => ?_)
              refine lv_goto (tgt := 37) hx hb dX3_size_72 (by decide) ?_
              have hst : ((s_cnt bs (m_enc (m_sum hs rs th (hs 0 + th) 400 (n - 1)) (0)) (k + 1) : Nat) : Int) = (((s_cnt bs (m_enc (m_sum hs rs th (hs 0 + th) 400 (n - 1)) (0)) k : Nat) : Int)) + (1) := by rw [s_cnt, if_pos (by omega)]; rfl
              rw [← hst] at hl
              exact ih (k + 1) (by omega) (by omega) H locs (hP.sub [0, 1, 2, 3, 4, 5] rfl) (hD.sub [0, 1, 2, 3, 4, 5] (by decide) rfl) hS ls (lv_sub hl [0, 1, 2, 3, 4] rfl)
      exact key_37 _ 0 (by omega) (Nat.lt_succ_self _) H locs (hP.sub [0, 1, 2, 3, 4, 5] rfl) (hD.sub [0, 1, 2, 3, 4, 5] (by decide) rfl) hS ls (lv_sub hl [0, 1, 2, 3, 4] rfl)
    · exact absurd c_19 (by decide)
  · exact absurd c_6 (by decide)
