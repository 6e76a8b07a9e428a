def p_encl (x : Nat × Nat) (en : Int) : Int := if en = 0 then ((x.1 * 314159265 / x.2 / 100000000 : Nat) : Int) else ((((x.1 * 314159266 + x.2 - 1) / x.2 + 99999999) / 100000000 : Nat) : Int)
theorem p_fo_bd (rs : Nat → Int) (ahead : Int) : ∀ (f k d : Nat), -1 ≤ p_fo rs ahead f k d ∧ p_fo rs ahead f k d < (k + f : Nat) ∨ p_fo rs ahead f k d = -1 := by
  intro f
  induction f with
  | zero => intro k d; exact Or.inr rfl
  | succ f ih =>
    intro k d
    unfold p_fo
    split
    · rcases ih (k + 1) d with h | h
      · exact Or.inl ⟨h.1, by omega⟩
      · exact Or.inr h
    · split
      · exact Or.inl ⟨by omega, by omega⟩
      · rcases ih (k + 1) (d + 1) with h | h
        · exact Or.inl ⟨h.1, by omega⟩
        · exact Or.inr h
theorem p_fo_in {n : Nat} (hn : n ≤ 12) (rs : Nat → Int) (ahead : Int) : -1 ≤ p_fo rs ahead n 0 0 ∧ p_fo rs ahead n 0 0 < 13 := by
  rcases p_fo_bd rs ahead n 0 0 with h | h <;> omega
def s_cnt (bs : Nat → Int) (v : Int) : Nat → Nat
  | 0 => 0
  | k + 1 => s_cnt bs v k + if bs k ≤ v then 1 else 0
theorem s_cnt_le (bs : Nat → Int) (v : Int) (k : Nat) : s_cnt bs v k ≤ k := by
  induction k with
  | zero => exact Nat.le_refl 0
  | succ k ih => unfold s_cnt; split <;> omega
def s_sum (pf sf : Nat → Int) (p : Int) : Nat → Int
  | 0 => 0
  | k + 1 => s_sum pf sf p k + if pf k = p then sf k else 0
theorem s_sum_bd {pf sf : Nat → Int} {p : Int} (h : ∀ j, 0 ≤ sf j ∧ sf j ≤ 1000) (k : Nat) : 0 ≤ s_sum pf sf p k ∧ s_sum pf sf p k ≤ 1000 * k := by
  induction k with
  | zero => exact ⟨Int.le_refl _, by simp [s_sum]⟩
  | succ k ih =>
    have a := h k
    unfold s_sum
    split <;> omega
/-- the first of the vessels from v on, f of them left, in which a share has room -/
def s_first (vf : Nat → Int) (share : Int) : Nat → Nat → Nat
  | 0, v => v
  | f + 1, v => if vf v + share ≤ 1000 then v else s_first vf share f (v + 1)
theorem s_first_le (vf : Nat → Int) (share : Int) : ∀ f v, v ≤ s_first vf share f v ∧ s_first vf share f v ≤ v + f := by
  intro f
  induction f with
  | zero => intro v; exact ⟨Nat.le_refl _, Nat.le_refl _⟩
  | succ f ih =>
    intro v
    unfold s_first
    split
    · omega
    · have := ih (v + 1); omega
/-- one sherd laid: count and shares -/
def s_lay (c : Nat) (vf : Nat → Int) (share : Int) : Nat × (Nat → Int) := if s_first vf share c 0 = c then (c + 1, zupd (zupd vf (s_first vf share c 0) 0) (s_first vf share c 0) (zupd vf (s_first vf share c 0) 0 (s_first vf share c 0) + share)) else (c, zupd vf (s_first vf share c 0) (vf (s_first vf share c 0) + share))
theorem s_first_ok (vf : Nat → Int) (share : Int) : ∀ f v, s_first vf share f v = v + f ∨ vf (s_first vf share f v) + share ≤ 1000 := by
  intro f
  induction f with
  | zero => intro v; exact Or.inl rfl
  | succ f ih =>
    intro v
    unfold s_first
    split
    · exact Or.inr (by assumption)
    · rcases ih (v + 1) with h | h
      · exact Or.inl (by omega)
      · exact Or.inr h
theorem s_lay_bd {c : Nat} {vf : Nat → Int} {share : Int} (hv : ∀ j, 0 ≤ vf j ∧ vf j ≤ 1000) (hs : 0 ≤ share ∧ share ≤ 1000) : (s_lay c vf share).1 ≤ c + 1 ∧ ∀ j, 0 ≤ (s_lay c vf share).2 j ∧ (s_lay c vf share).2 j ≤ 1000 := by
  unfold s_lay
  have h0 := s_first_ok vf share c 0
  split
  · refine ⟨Nat.le_refl _, fun j => ?_⟩
    have := hv j
    show 0 ≤ zupd _ _ _ j ∧ zupd _ _ _ j ≤ 1000
    simp only [zupd, if_true, reduceIte]
    split <;> (try split) <;> omega
  · refine ⟨Nat.le_succ _, fun j => ?_⟩
    have := hv j
    have := hv (s_first vf share c 0)
    show 0 ≤ zupd _ _ _ j ∧ zupd _ _ _ j ≤ 1000
    simp only [zupd]
    split <;> omega
def s_ves (pf sf : Nat → Int) (p : Int) (v0 : Nat → Int) : Nat → Nat × (Nat → Int)
  | 0 => (0, v0)
  | k + 1 => if pf k = p then s_lay (s_ves pf sf p v0 k).1 (s_ves pf sf p v0 k).2 (sf k) else s_ves pf sf p v0 k
theorem s_ves_bd {pf sf : Nat → Int} {p : Int} {v0 : Nat → Int} (hv : ∀ j, 0 ≤ v0 j ∧ v0 j ≤ 1000) (hs : ∀ j, 0 ≤ sf j ∧ sf j ≤ 1000) (k : Nat) : (s_ves pf sf p v0 k).1 ≤ k ∧ ∀ j, 0 ≤ (s_ves pf sf p v0 k).2 j ∧ (s_ves pf sf p v0 k).2 j ≤ 1000 := by
  induction k with
  | zero => exact ⟨Nat.le_refl _, hv⟩
  | succ k ih =>
    unfold s_ves
    split
    · have := s_lay_bd (c := (s_ves pf sf p v0 k).1) ih.2 (hs k)
      exact ⟨by have := this.1; have := ih.1; omega, this.2⟩
    · exact ⟨by have := ih.1; omega, ih.2⟩
set_option maxHeartbeats 4000000 in
set_option maxRecDepth 100000 in
theorem t_enclosed_w (l : Launch) (hl0 : l.stackTraces = false) (dC : Nat → ClassId) (dI : Nat → Nat → Nat) (x0 pa ba ax ay sp ss vs fr : Nat) (pn bn ln sn : Nat)(cQ : ClassId) (pf : Nat → Option Nat) (h0 h1 h2 : Nat) (cA : ClassId) (n : Nat) (th wc : Int) (hs rs : Nat → Int) (j : Nat) (en : Int) (hn : n ≤ 12) (hH : ∀ j, 0 ≤ hs j ∧ hs j ≤ 400) (hR : ∀ j, 0 ≤ rs j ∧ rs j ≤ 200) (hj : j < 6) (hf : pf j = some h0) (h_en : -2147483648 ≤ en ∧ en < 2147483648) (hbad : ¬ (en = 0 ∨ en = 1)) : ThM l yX2_enclosed cX2_enclosed 4 ((Option.some Jvm.ClassFile.FieldType.long)) rt_X2_enclosed (PcT [.ref x0, .int (zi ((j : Int))), .int (zi (en))] (dC, dI) vwCl [(x0, .inr (2, [.ref pa, .int (zi ((pn : Int))), .ref ba, .int (zi ((bn : Int))), .ref ax, .ref ay, .int (zi ((ln : Int))), .ref sp, .ref ss, .int (zi ((sn : Int))), .ref vs, .ref fr])), (pa, .inl (cQ, 6, .inr (.inr (.inr (.inr (pf)))))), (h0, .inr (1, [.ref h1, .ref h2, .int (zi ((n : Int))), .int (zi (th)), .int (zi (wc))])), (h1, .inl (cA, 12, .inl (zA (hs)))), (h2, .inl (cA, 12, .inl (zA (rs))))] [(cQ, .object "PotVolumes$Profile"), (cA, .int)]) KI := by
  refine vx_ofW (cc := cX2_enclosed) (maxL := 4) (ret := ((Option.some Jvm.ClassFile.FieldType.long))) (by decide) rfl ?_
  intro p e s m args below meth c s₁ B hml hno hv
  obtain ⟨hargs, hP, hK, hE⟩ := hv
  have hx := B.exec
  have hb := B.bytes
  have hr := B.returns
  have hts := atoms_spec (ws := Cond.code yX2_enclosed cX2_enclosed 4 ((Option.some Jvm.ClassFile.FieldType.long)) :: gw) B.pre
  have hg : ∀ w ∈ gw, w.before args s = true := fun w h => hts w (List.mem_cons_of_mem _ h)
  have hown : s.vm.findClass RX2 = some m.cls := findClass_of_methodNamed B.named
  have hlocks := B.notSynchronized
  show W p l e rt_X2_enclosed s m args below meth c s.heap [] 0 0 _ _
  have hl := lv_entry ([.ref x0, .int (zi ((j : Int))), .int (zi (en))]) (n := 4) (Nat.le_of_ble_eq_true rfl)
  rw [show entryFrame m args 4 = entryFrame m ([.ref x0, .int (zi ((j : Int))), .int (zi (en))] : List Value).toArray 4 by rw [hargs], lg_entry_eq]
  generalize (lg_sl ([.ref x0, .int (zi ((j : Int))), .int (zi (en))]) ++ List.replicate (4 - (lg_sl ([.ref x0, .int (zi ((j : Int))), .int (zi (en))])).length) Slot.unset).toArray = ls at hl ⊢
  have hl : lv_has ls 4 [(0, .ref x0), (1, .int (zi ((j : Int)))), (2, .int (zi (en)))] := hl
  obtain ⟨QQ, hQQ⟩ : ∃ Q, Q = vx_MQ below QF (XK KI) args s 1 6 (fun _ => False) := ⟨_, rfl⟩
  rw [← hQQ]
  refine lv_aload_n hx hb dX2_enclosed_0 rfl (lv_at hl 0 rfl) ?_
  refine lv_iload_n hx hb dX2_enclosed_1 rfl (lv_at hl 1 rfl) ?_
  refine rdV (As := [.int (zi ((j : Int)))]) (rest := []) (n := 1) hx hb hml hown hg (c_X2_profileOf l dC dI x0 pa ba ax ay sp ss vs fr pn bn ln sn cQ pf j h0 hj hf) (gwV wl_X2_53 wm_X2_profileOf we_X2_profileOf wi_X2 wc_X2_profileOf) rfl rfl (by decide +kernel) ⟨Nat.le_of_ble_eq_true rfl, Nat.le_of_ble_eq_true rfl⟩ (hK.sub [0] rfl) (hP.sub [0, 1] rfl) 0 rfl rfl rfl rfl hl.1 rfl (Nat.le_of_ble_eq_true rfl) dX2_enclosed_2 ⟨Nat.zero_le _, Nat.zero_le _⟩ ?_
  refine lv_astore_n (lv' := [(3, .ref h0), (0, .ref x0), (1, .int (zi ((j : Int)))), (2, .int (zi (en)))]) hx hb dX2_enclosed_5 rfl hl (by decide) rfl (fun ls hl => ?_)
  refine lv_iload_n hx hb dX2_enclosed_6 rfl (lv_at hl 3 rfl) ?_
  rw [hQQ]
  exact thS (As := [.int (zi (en))]) (rest := []) (n := 1) hx hb hml hown hg (t_X2_needOneOfTwo l hl0 (en) h_en hbad) (gwS wl_X2_74 wt_X2_needOneOfTwo wi_X2 wc_X2_needOneOfTwo) rfl rfl (by decide +kernel) ⟨Nat.le_of_ble_eq_true rfl, Nat.le_of_ble_eq_true rfl⟩ hE rfl hl.1 rfl (Nat.le_of_ble_eq_true rfl) dX2_enclosed_7 ⟨Nat.le_of_ble_eq_true rfl, Nat.le_of_ble_eq_true rfl⟩ hno hlocks

abbrev rm_X2_enclosed : Room := { frames := 7, cells := 0, slots := 0, locals := 162 }
set_option maxHeartbeats 4000000 in
set_option maxRecDepth 100000 in
theorem c_enclosed (l : Launch) (dC : Nat → ClassId) (dI : Nat → Nat → Nat) (sz : Nat) (x0 pa ba ax ay sp ss vs fr : Nat) (pn bn ln sn : Nat)(cQ : ClassId) (pf : Nat → Option Nat) (h0 h1 h2 : Nat) (cA : ClassId) (n : Nat) (th wc : Int) (hs rs : Nat → Int) (j : Nat) (a b en : Int) (hn : n ≤ 12) (hH : ∀ j, 0 ≤ hs j ∧ hs j ≤ 400) (hR : ∀ j, 0 ≤ rs j ∧ rs j ≤ 200) (hj : j < 6) (hf : pf j = some h0) (hth : 0 ≤ th ∧ th ≤ 50) (hp9 : en = 0 ∨ en = 1) (hok : p_oks n hs rs th (hs 0 + th) 400) (hsm : p_small (p_sum hs rs th (hs 0 + th) 400 (n - 1))) : Met l yX2_enclosed (Cond.code yX2_enclosed cX2_enclosed 4 ((Option.some Jvm.ClassFile.FieldType.long)) :: gw) rm_X2_enclosed (PcW [.ref x0, .int (zi ((j : Int))), .int (zi (en))] (dC, dI) vwCl [(x0, .inr (2, [.ref pa, .int (zi ((pn : Int))), .ref ba, .int (zi ((bn : Int))), .ref ax, .ref ay, .int (zi ((ln : Int))), .ref sp, .ref ss, .int (zi ((sn : Int))), .ref vs, .ref fr])), (pa, .inl (cQ, 6, .inr (.inr (.inr (.inr (pf)))))), (h0, .inr (1, [.ref h1, .ref h2, .int (zi ((n : Int))), .int (zi (th)), .int (zi (wc))])), (h1, .inl (cA, 12, .inl (zA (hs)))), (h2, .inl (cA, 12, .inl (zA (rs)))), (fr, .inr (0, [.long (zl (a)), .long (zl (b))]))] [(cQ, .object "PotVolumes$Profile"), (cA, .int)] sz) (WrQ (some (.long (zl (p_encl (p_sum hs rs th (hs 0 + th) 400 (n - 1)) en)))) (dC, dI) vwCl [(x0, .inr (2, [.ref pa, .int (zi ((pn : Int))), .ref ba, .int (zi ((bn : Int))), .ref ax, .ref ay, .int (zi ((ln : Int))), .ref sp, .ref ss, .int (zi ((sn : Int))), .ref vs, .ref fr])), (pa, .inl (cQ, 6, .inr (.inr (.inr (.inr (pf)))))), (h0, .inr (1, [.ref h1, .ref h2, .int (zi ((n : Int))), .int (zi (th)), .int (zi (wc))])), (h1, .inl (cA, 12, .inl (zA (hs)))), (h2, .inl (cA, 12, .inl (zA (rs)))), (fr, .inr (0, [.long (zl ((((p_sum hs rs th (hs 0 + th) (400) (n - 1)).1 : Nat) : Int))), .long (zl ((((p_sum hs rs th (hs 0 + th) (400) (n - 1)).2 : Nat) : Int)))]))] (va_A [(x0, .inr (2, [.ref pa, .int (zi ((pn : Int))), .ref ba, .int (zi ((bn : Int))), .ref ax, .ref ay, .int (zi ((ln : Int))), .ref sp, .ref ss, .int (zi ((sn : Int))), .ref vs, .ref fr])), (pa, .inl (cQ, 6, .inr (.inr (.inr (.inr (pf)))))), (h0, .inr (1, [.ref h1, .ref h2, .int (zi ((n : Int))), .int (zi (th)), .int (zi (wc))])), (h1, .inl (cA, 12, .inl (zA (hs)))), (h2, .inl (cA, 12, .inl (zA (rs)))), (fr, .inr (0, [.long (zl (a)), .long (zl (b))]))] sz)) 0 0 (va_A [(x0, .inr (2, [.ref pa, .int (zi ((pn : Int))), .ref ba, .int (zi ((bn : Int))), .ref ax, .ref ay, .int (zi ((ln : Int))), .ref sp, .ref ss, .int (zi ((sn : Int))), .ref vs, .ref fr])), (pa, .inl (cQ, 6, .inr (.inr (.inr (.inr (pf)))))), (h0, .inr (1, [.ref h1, .ref h2, .int (zi ((n : Int))), .int (zi (th)), .int (zi (wc))])), (h1, .inl (cA, 12, .inl (zA (hs)))), (h2, .inl (cA, 12, .inl (zA (rs)))), (fr, .inr (0, [.long (zl (a)), .long (zl (b))]))] sz) := by
  refine Met.ofW (cc := cX2_enclosed) (maxL := 4) (ret := ((Option.some Jvm.ClassFile.FieldType.long))) (by decide) rfl ?_
  intro p e s m args below meth c s₁ B hml hv
  obtain ⟨hargs, hsz, hP, hK, hD0⟩ := hv
  have hx := B.exec
  have hb := B.bytes
  have hr := B.returns
  have hts := atoms_spec (ws := Cond.code yX2_enclosed cX2_enclosed 4 ((Option.some Jvm.ClassFile.FieldType.long)) :: gw) B.pre
  have hg : ∀ w ∈ gw, w.before args s = true := fun w h => hts w (List.mem_cons_of_mem _ h)
  have hown : s.vm.findClass RX2 = some m.cls := findClass_of_methodNamed B.named
  have hlocks := B.notSynchronized
  subst hsz
  have hD := hD0.self (sz := s.heap.size)
  generalize hAe : va_A [(x0, .inr (2, [.ref pa, .int (zi ((pn : Int))), .ref ba, .int (zi ((bn : Int))), .ref ax, .ref ay, .int (zi ((ln : Int))), .ref sp, .ref ss, .int (zi ((sn : Int))), .ref vs, .ref fr])), (pa, .inl (cQ, 6, .inr (.inr (.inr (.inr (pf)))))), (h0, .inr (1, [.ref h1, .ref h2, .int (zi ((n : Int))), .int (zi (th)), .int (zi (wc))])), (h1, .inl (cA, 12, .inl (zA (hs)))), (h2, .inl (cA, 12, .inl (zA (rs)))), (fr, .inr (0, [.long (zl (a)), .long (zl (b))]))] s.heap.size = A at hD ⊢
  have hA : ∀ q : Nat, s.heap.size ≤ q → A q := fun q h => by rw [← hAe]; exact Or.inr h
  show W p l e rm_X2_enclosed s m args below meth c s.heap [] 0 0 _ _
  have hl := lv_entry ([.ref x0, .int (zi ((j : Int))), .int (zi (en))]) (n := 4) (Nat.le_of_ble_eq_true rfl)
  rw [show entryFrame m args 4 = entryFrame m ([.ref x0, .int (zi ((j : Int))), .int (zi (en))] : List Value).toArray 4 by rw [hargs], lg_entry_eq]
  generalize (lg_sl ([.ref x0, .int (zi ((j : Int))), .int (zi (en))]) ++ List.replicate (4 - (lg_sl ([.ref x0, .int (zi ((j : Int))), .int (zi (en))])).length) Slot.unset).toArray = ls at hl ⊢
  have hl : lv_has ls 4 [(0, .ref x0), (1, .int (zi ((j : Int)))), (2, .int (zi (en)))] := hl
  obtain ⟨QQ, hQQ⟩ : ∃ Q, Q = MQ below (WrQ (some (.long (zl (p_encl (p_sum hs rs th (hs 0 + th) 400 (n - 1)) en)))) (dC, dI) vwCl [(x0, .inr (2, [.ref pa, .int (zi ((pn : Int))), .ref ba, .int (zi ((bn : Int))), .ref ax, .ref ay, .int (zi ((ln : Int))), .ref sp, .ref ss, .int (zi ((sn : Int))), .ref vs, .ref fr])), (pa, .inl (cQ, 6, .inr (.inr (.inr (.inr (pf)))))), (h0, .inr (1, [.ref h1, .ref h2, .int (zi ((n : Int))), .int (zi (th)), .int (zi (wc))])), (h1, .inl (cA, 12, .inl (zA (hs)))), (h2, .inl (cA, 12, .inl (zA (rs)))), (fr, .inr (0, [.long (zl ((((p_sum hs rs th (hs 0 + th) (400) (n - 1)).1 : Nat) : Int))), .long (zl ((((p_sum hs rs th (hs 0 + th) (400) (n - 1)).2 : Nat) : Int)))]))] A) args s 0 0 A := ⟨_, rfl⟩
  rw [← hQQ]
  obtain ⟨H, hHe⟩ : ∃ H : Heap, H = s.heap := ⟨_, rfl⟩
  obtain ⟨locs, hlc⟩ : ∃ x : List Loc, x = [] := ⟨_, rfl⟩
  have hS : va_S A s.heap H locs := by rw [hHe, hlc]; exact va_S.rf
  have hP : va_P (dC, dI) vwCl [(x0, .inr (2, [.ref pa, .int (zi ((pn : Int))), .ref ba, .int (zi ((bn : Int))), .ref ax, .ref ay, .int (zi ((ln : Int))), .ref sp, .ref ss, .int (zi ((sn : Int))), .ref vs, .ref fr])), (pa, .inl (cQ, 6, .inr (.inr (.inr (.inr (pf)))))), (h0, .inr (1, [.ref h1, .ref h2, .int (zi ((n : Int))), .int (zi (th)), .int (zi (wc))])), (h1, .inl (cA, 12, .inl (zA (hs)))), (h2, .inl (cA, 12, .inl (zA (rs)))), (fr, .inr (0, [.long (zl (a)), .long (zl (b))]))] H := by rw [hHe]; exact hP
  have hD : va_D A [(x0, .inr (2, [.ref pa, .int (zi ((pn : Int))), .ref ba, .int (zi ((bn : Int))), .ref ax, .ref ay, .int (zi ((ln : Int))), .ref sp, .ref ss, .int (zi ((sn : Int))), .ref vs, .ref fr])), (pa, .inl (cQ, 6, .inr (.inr (.inr (.inr (pf)))))), (h0, .inr (1, [.ref h1, .ref h2, .int (zi ((n : Int))), .int (zi (th)), .int (zi (wc))])), (h1, .inl (cA, 12, .inl (zA (hs)))), (h2, .inl (cA, 12, .inl (zA (rs)))), (fr, .inr (0, [.long (zl (a)), .long (zl (b))]))] := hD
  rw [← hHe, ← hlc]
  refine lv_aload_n hx hb dX2_enclosed_0 rfl (lv_at hl 0 rfl) ?_
  refine lv_iload_n hx hb dX2_enclosed_1 rfl (lv_at hl 1 rfl) ?_
  refine rdV (As := [.int (zi ((j : Int)))]) (rest := []) (n := 1) hx hb hml hown hg (c_X2_profileOf l dC dI x0 pa ba ax ay sp ss vs fr pn bn ln sn cQ pf j h0 hj hf) (gwV wl_X2_53 wm_X2_profileOf we_X2_profileOf wi_X2 wc_X2_profileOf) rfl rfl (by decide +kernel) ⟨Nat.le_of_ble_eq_true rfl, Nat.le_of_ble_eq_true rfl⟩ (hK.sub [0] rfl) (hP.sub [0, 1] rfl) 0 rfl rfl rfl rfl hl.1 rfl (Nat.le_of_ble_eq_true rfl) dX2_enclosed_2 ⟨Nat.zero_le _, Nat.zero_le _⟩ ?_
  refine lv_astore_n (lv' := [(3, .ref h0), (0, .ref x0), (1, .int (zi ((j : Int)))), (2, .int (zi (en)))]) hx hb dX2_enclosed_5 rfl hl (by decide) rfl (fun ls hl => ?_)
  refine lv_iload_n hx hb dX2_enclosed_6 rfl (lv_at hl 3 rfl) ?_
  refine rdS (As := [.int (zi (en))]) (rest := []) (n := 1) hx hb hml hown hg (c_X2_needOneOfTwo l (en) hp9) (gwS wl_X2_74 wt_X2_needOneOfTwo wi_X2 wc_X2_needOneOfTwo) rfl rfl (by decide +kernel) ⟨Nat.le_of_ble_eq_true rfl, Nat.le_of_ble_eq_true rfl⟩ rfl hl.1 rfl (Nat.le_of_ble_eq_true rfl) dX2_enclosed_7 ⟨Nat.zero_le _, Nat.zero_le _⟩ ?_
  refine lv_aload_n hx hb dX2_enclosed_10 rfl (lv_at hl 0 rfl) ?_
  refine lv_aload_n hx hb dX2_enclosed_11 rfl (lv_at hl 1 rfl) ?_
  refine va_get (D := (dC, dI)) (ci := 2) (v := .ref fr) (C := RX2) (T := TX2) (N := 12) hx hb hg inX2 hown hK hP 0 rfl rfl 11 (by decide) (hg _ wl_X2_37) (fun _ h9 => h9) rfl dX2_enclosed_12 ?_
  refine lv_sipush (v := zi (400)) hx hb dX2_enclosed_15 (by decide) ?_
  refine wrV (As := [.ref fr, .int (zi (400))]) (rest := []) (n := 2) (ws' := [(x0, .inr (2, [.ref pa, .int (zi ((pn : Int))), .ref ba, .int (zi ((bn : Int))), .ref ax, .ref ay, .int (zi ((ln : Int))), .ref sp, .ref ss, .int (zi ((sn : Int))), .ref vs, .ref fr])), (pa, .inl (cQ, 6, .inr (.inr (.inr (.inr (pf)))))), (h0, .inr (1, [.ref h1, .ref h2, .int (zi ((n : Int))), .int (zi (th)), .int (zi (wc))])), (h1, .inl (cA, 12, .inl (zA (hs)))), (h2, .inl (cA, 12, .inl (zA (rs)))), (fr, .inr (0, [.long (zl ((((p_sum hs rs th (hs 0 + th) (400) (n - 1)).1 : Nat) : Int))), .long (zl ((((p_sum hs rs th (hs 0 + th) (400) (n - 1)).2 : Nat) : Int)))]))]) hx hb hml hown hg (c_X1_measureHeld l dC dI H.size h0 h1 h2 cA n th wc hs rs fr a b (400) hn hH hR hth (by decide) hok) (gwV wl_X2_104 wm_X1_measureHeld we_X1_measureHeld wi_X1 wc_X1_measureHeld) rfl rfl (by decide +kernel) ⟨Nat.le_of_ble_eq_true rfl, Nat.le_of_ble_eq_true rfl⟩ (hK.sub [1] rfl) hP hD hS hA [2, 3, 4, 5] rfl (by decide) [(false, 0), (false, 1), (true, 0), (true, 1), (true, 2), (true, 3)] rfl (by decide) rfl 0 rfl rfl rfl rfl hl.1 rfl (Nat.le_of_ble_eq_true rfl) dX2_enclosed_18 ⟨Nat.zero_le _, Nat.zero_le _⟩ (fun H locs hP hD hS => ?_)
  refine lv_iload_n hx hb dX2_enclosed_21 rfl (lv_at hl 3 rfl) ?_
  refine zz_if_ne (tgt := 35) hx hb (by omega) dX2_enclosed_22 (by decide) (fun c_22 => ?_) (fun c_22 => ?_)
  · refine lv_aload_n hx hb dX2_enclosed_35 rfl (lv_at hl 1 rfl) ?_
    refine va_get (D := (dC, dI)) (ci := 2) (v := .ref fr) (C := RX2) (T := TX2) (N := 12) hx hb hg inX2 hown hK hP 0 rfl rfl 11 (by decide) (hg _ wl_X2_37) (fun _ h9 => h9) rfl dX2_enclosed_36 ?_
    refine rdV (As := []) (rest := []) (n := 0) hx hb hml hown hg (c_X0_circledUp l dC dI fr ((p_sum hs rs th (hs 0 + th) (400) (n - 1)).1) ((p_sum hs rs th (hs 0 + th) (400) (n - 1)).2) hsm.1 hsm.2.1 hsm.2.2) (gwV wl_X2_111 wm_X0_circledUp we_X0_circledUp wi_X0 wc_X0_circledUp) rfl rfl (by decide +kernel) ⟨Nat.le_of_ble_eq_true rfl, Nat.le_of_ble_eq_true rfl⟩ (hK.sub [] rfl) (hP.sub [5] rfl) 0 rfl rfl rfl rfl hl.1 rfl (Nat.le_of_ble_eq_true rfl) dX2_enclosed_39 ⟨Nat.zero_le _, Nat.zero_le _⟩ ?_
    have hP9 : va_P (dC, dI) vwCl [(x0, .inr (2, [.ref pa, .int (zi ((pn : Int))), .ref ba, .int (zi ((bn : Int))), .ref ax, .ref ay, .int (zi ((ln : Int))), .ref sp, .ref ss, .int (zi ((sn : Int))), .ref vs, .ref fr])), (pa, .inl (cQ, 6, .inr (.inr (.inr (.inr (pf)))))), (h0, .inr (1, [.ref h1, .ref h2, .int (zi ((n : Int))), .int (zi (th)), .int (zi (wc))])), (h1, .inl (cA, 12, .inl (zA (hs)))), (h2, .inl (cA, 12, .inl (zA (rs)))), (fr, .inr (0, [.long (zl ((((p_sum hs rs th (hs 0 + th) (400) (n - 1)).1 : Nat) : Int))), .long (zl ((((p_sum hs rs th (hs 0 + th) (400) (n - 1)).2 : Nat) : Int)))]))] H := hP
    rw [hQQ]
    exact wr_l hx hb hr hlocks (by unfold p_encl; rw [if_neg c_22]) hP9 hS dX2_enclosed_42
  · refine lv_aload_n hx hb dX2_enclosed_25 rfl (lv_at hl 1 rfl) ?_
    refine va_get (D := (dC, dI)) (ci := 2) (v := .ref fr) (C := RX2) (T := TX2) (N := 12) hx hb hg inX2 hown hK hP 0 rfl rfl 11 (by decide) (hg _ wl_X2_37) (fun _ h9 => h9) rfl dX2_enclosed_26 ?_
    refine rdV (As := []) (rest := []) (n := 0) hx hb hml hown hg (c_X0_circledDown l dC dI fr ((p_sum hs rs th (hs 0 + th) (400) (n - 1)).1) ((p_sum hs rs th (hs 0 + th) (400) (n - 1)).2) hsm.1 hsm.2.1 hsm.2.2) (gwV wl_X2_107 wm_X0_circledDown we_X0_circledDown wi_X0 wc_X0_circledDown) rfl rfl (by decide +kernel) ⟨Nat.le_of_ble_eq_true rfl, Nat.le_of_ble_eq_true rfl⟩ (hK.sub [] rfl) (hP.sub [5] rfl) 0 rfl rfl rfl rfl hl.1 rfl (Nat.le_of_ble_eq_true rfl) dX2_enclosed_29 ⟨Nat.zero_le _, Nat.zero_le _⟩ ?_
    refine lv_goto (tgt := 42) hx hb dX2_enclosed_32 (by decide) ?_
    have hP9 : va_P (dC, dI) vwCl [(x0, .inr (2, [.ref pa, .int (zi ((pn : Int))), .ref ba, .int (zi ((bn : Int))), .ref ax, .ref ay, .int (zi ((ln : Int))), .ref sp, .ref ss, .int (zi ((sn : Int))), .ref vs, .ref fr])), (pa, .inl (cQ, 6, .inr (.inr (.inr (.inr (pf)))))), (h0, .inr (1, [.ref h1, .ref h2, .int (zi ((n : Int))), .int (zi (th)), .int (zi (wc))])), (h1, .inl (cA, 12, .inl (zA (hs)))), (h2, .inl (cA, 12, .inl (zA (rs)))), (fr, .inr (0, [.long (zl ((((p_sum hs rs th (hs 0 + th) (400) (n - 1)).1 : Nat) : Int))), .long (zl ((((p_sum hs rs th (hs 0 + th) (400) (n - 1)).2 : Nat) : Int)))]))] H := hP
    rw [hQQ]
    exact wr_l hx hb hr hlocks (by unfold p_encl; rw [if_pos c_22]) hP9 hS dX2_enclosed_42

set_option maxHeartbeats 4000000 in
set_option maxRecDepth 100000 in
theorem t_drawn_w (l : Launch) (hl0 : l.stackTraces = false) (dC : Nat → ClassId) (dI : Nat → Nat → Nat) (x0 pa ba ax ay sp ss vs fr : Nat) (pn bn ln sn : Nat)(cQ : ClassId) (pf : Nat → Option Nat) (h0 h1 h2 : Nat) (cA : ClassId) (n : Nat) (th wc : Int) (hs rs : Nat → Int) (j : Nat) (k what : Int) (hn : n ≤ 12) (hH : ∀ j, 0 ≤ hs j ∧ hs j ≤ 400) (hR : ∀ j, 0 ≤ rs j ∧ rs j ≤ 200) (hj : j < 6) (hf : pf j = some h0) (h_k : -2147483648 ≤ k ∧ k < 2147483648) (h_what : -2147483648 ≤ what ∧ what < 2147483648) (hbad : ¬ (what = 0 ∨ what = 1)) : ThM l yX2_drawn cX2_drawn 7 ((Option.some Jvm.ClassFile.FieldType.int)) rt_X2_drawn (PcT [.ref x0, .int (zi ((j : Int))), .int (zi (k)), .int (zi (what))] (dC, dI) vwCl [(x0, .inr (2, [.ref pa, .int (zi ((pn : Int))), .ref ba, .int (zi ((bn : Int))), .ref ax, .ref ay, .int (zi ((ln : Int))), .ref sp, .ref ss, .int (zi ((sn : Int))), .ref vs, .ref fr])), (pa, .inl (cQ, 6, .inr (.inr (.inr (.inr (pf)))))), (h0, .inr (1, [.ref h1, .ref h2, .int (zi ((n : Int))), .int (zi (th)), .int (zi (wc))])), (h1, .inl (cA, 12, .inl (zA (hs)))), (h2, .inl (cA, 12, .inl (zA (rs))))] [(cQ, .object "PotVolumes$Profile"), (cA, .int)]) KI := by
  refine vx_ofW (cc := cX2_drawn) (maxL := 7) (ret := ((Option.some Jvm.ClassFile.FieldType.int))) (by decide) rfl ?_
  intro p e s m args below meth c s₁ B hml hno hv
  obtain ⟨hargs, hP, hK, hE⟩ := hv
  have hx := B.exec
  have hb := B.bytes
  have hr := B.returns
  have hts := atoms_spec (ws := Cond.code yX2_drawn cX2_drawn 7 ((Option.some Jvm.ClassFile.FieldType.int)) :: gw) B.pre
  have hg : ∀ w ∈ gw, w.before args s = true := fun w h => hts w (List.mem_cons_of_mem _ h)
  have hown : s.vm.findClass RX2 = some m.cls := findClass_of_methodNamed B.named
  have hlocks := B.notSynchronized
  show W p l e rt_X2_drawn s m args below meth c s.heap [] 0 0 _ _
  have hl := lv_entry ([.ref x0, .int (zi ((j : Int))), .int (zi (k)), .int (zi (what))]) (n := 7) (Nat.le_of_ble_eq_true rfl)
  rw [show entryFrame m args 7 = entryFrame m ([.ref x0, .int (zi ((j : Int))), .int (zi (k)), .int (zi (what))] : List Value).toArray 7 by rw [hargs], lg_entry_eq]
  generalize (lg_sl ([.ref x0, .int (zi ((j : Int))), .int (zi (k)), .int (zi (what))]) ++ List.replicate (7 - (lg_sl ([.ref x0, .int (zi ((j : Int))), .int (zi (k)), .int (zi (what))])).length) Slot.unset).toArray = ls at hl ⊢
  have hl : lv_has ls 7 [(0, .ref x0), (1, .int (zi ((j : Int)))), (2, .int (zi (k))), (3, .int (zi (what)))] := hl
  obtain ⟨QQ, hQQ⟩ : ∃ Q, Q = vx_MQ below QF (XK KI) args s 1 6 (fun _ => False) := ⟨_, rfl⟩
  rw [← hQQ]
  refine lv_aload_n hx hb dX2_drawn_0 rfl (lv_at hl 0 rfl) ?_
  refine lv_iload_n hx hb dX2_drawn_1 rfl (lv_at hl 1 rfl) ?_
  refine rdV (As := [.int (zi ((j : Int)))]) (rest := []) (n := 1) hx hb hml hown hg (c_X2_profileOf l dC dI x0 pa ba ax ay sp ss vs fr pn bn ln sn cQ pf j h0 hj hf) (gwV wl_X2_53 wm_X2_profileOf we_X2_profileOf wi_X2 wc_X2_profileOf) rfl rfl (by decide +kernel) ⟨Nat.le_of_ble_eq_true rfl, Nat.le_of_ble_eq_true rfl⟩ (hK.sub [0] rfl) (hP.sub [0, 1] rfl) 0 rfl rfl rfl rfl hl.1 rfl (Nat.le_of_ble_eq_true rfl) dX2_drawn_2 ⟨Nat.zero_le _, Nat.zero_le _⟩ ?_
  refine lv_astore (lv' := [(4, .ref h0), (0, .ref x0), (1, .int (zi ((j : Int)))), (2, .int (zi (k))), (3, .int (zi (what)))]) hx hb dX2_drawn_5 hl (by decide) rfl (fun ls hl => ?_)
  refine lv_iload_n hx hb dX2_drawn_7 rfl (lv_at hl 4 rfl) ?_
  rw [hQQ]
  exact thS (As := [.int (zi (what))]) (rest := []) (n := 1) hx hb hml hown hg (t_X2_needOneOfTwo l hl0 (what) h_what hbad) (gwS wl_X2_74 wt_X2_needOneOfTwo wi_X2 wc_X2_needOneOfTwo) rfl rfl (by decide +kernel) ⟨Nat.le_of_ble_eq_true rfl, Nat.le_of_ble_eq_true rfl⟩ hE rfl hl.1 rfl (Nat.le_of_ble_eq_true rfl) dX2_drawn_8 ⟨Nat.le_of_ble_eq_true rfl, Nat.le_of_ble_eq_true rfl⟩ hno hlocks

set_option maxHeartbeats 4000000 in
set_option maxRecDepth 100000 in
theorem t_drawn_k (l : Launch) (hl0 : l.stackTraces = false) (dC : Nat → ClassId) (dI : Nat → Nat → Nat) (x0 pa ba ax ay sp ss vs fr : Nat) (pn bn ln sn : Nat)(cQ : ClassId) (pf : Nat → Option Nat) (h0 h1 h2 : Nat) (cA : ClassId) (n : Nat) (th wc : Int) (hs rs : Nat → Int) (j : Nat) (k what : Int) (hn : n ≤ 12) (hH : ∀ j, 0 ≤ hs j ∧ hs j ≤ 400) (hR : ∀ j, 0 ≤ rs j ∧ rs j ≤ 200) (hj : j < 6) (hf : pf j = some h0) (h_k : -2147483648 ≤ k ∧ k < 2147483648) (h_what : -2147483648 ≤ what ∧ what < 2147483648) (hwh : what = 0 ∨ what = 1) (hbad : k ≠ -1 ∧ (k < 0 ∨ p_drw n rs k < 0 ∨ n ≤ p_drw n rs k)) : ThM l yX2_drawn cX2_drawn 7 ((Option.some Jvm.ClassFile.FieldType.int)) rt_X2_drawn (PcT [.ref x0, .int (zi ((j : Int))), .int (zi (k)), .int (zi (what))] (dC, dI) vwCl [(x0, .inr (2, [.ref pa, .int (zi ((pn : Int))), .ref ba, .int (zi ((bn : Int))), .ref ax, .ref ay, .int (zi ((ln : Int))), .ref sp, .ref ss, .int (zi ((sn : Int))), .ref vs, .ref fr])), (pa, .inl (cQ, 6, .inr (.inr (.inr (.inr (pf)))))), (h0, .inr (1, [.ref h1, .ref h2, .int (zi ((n : Int))), .int (zi (th)), .int (zi (wc))])), (h1, .inl (cA, 12, .inl (zA (hs)))), (h2, .inl (cA, 12, .inl (zA (rs))))] [(cQ, .object "PotVolumes$Profile"), (cA, .int)]) KI := by
  refine vx_ofW (cc := cX2_drawn) (maxL := 7) (ret := ((Option.some Jvm.ClassFile.FieldType.int))) (by decide) rfl ?_
  intro p e s m args below meth c s₁ B hml hno hv
  obtain ⟨hargs, hP, hK, hE⟩ := hv
  have hx := B.exec
  have hb := B.bytes
  have hr := B.returns
  have hts := atoms_spec (ws := Cond.code yX2_drawn cX2_drawn 7 ((Option.some Jvm.ClassFile.FieldType.int)) :: gw) B.pre
  have hg : ∀ w ∈ gw, w.before args s = true := fun w h => hts w (List.mem_cons_of_mem _ h)
  have hown : s.vm.findClass RX2 = some m.cls := findClass_of_methodNamed B.named
  have hlocks := B.notSynchronized
  show W p l e rt_X2_drawn s m args below meth c s.heap [] 0 0 _ _
  have hl := lv_entry ([.ref x0, .int (zi ((j : Int))), .int (zi (k)), .int (zi (what))]) (n := 7) (Nat.le_of_ble_eq_true rfl)
  rw [show entryFrame m args 7 = entryFrame m ([.ref x0, .int (zi ((j : Int))), .int (zi (k)), .int (zi (what))] : List Value).toArray 7 by rw [hargs], lg_entry_eq]
  generalize (lg_sl ([.ref x0, .int (zi ((j : Int))), .int (zi (k)), .int (zi (what))]) ++ List.replicate (7 - (lg_sl ([.ref x0, .int (zi ((j : Int))), .int (zi (k)), .int (zi (what))])).length) Slot.unset).toArray = ls at hl ⊢
  have hl : lv_has ls 7 [(0, .ref x0), (1, .int (zi ((j : Int)))), (2, .int (zi (k))), (3, .int (zi (what)))] := hl
  obtain ⟨QQ, hQQ⟩ : ∃ Q, Q = vx_MQ below QF (XK KI) args s 1 6 (fun _ => False) := ⟨_, rfl⟩
  rw [← hQQ]
  have hfo := p_fo_in hn rs (k - n)
  refine lv_aload_n hx hb dX2_drawn_0 rfl (lv_at hl 0 rfl) ?_
  refine lv_iload_n hx hb dX2_drawn_1 rfl (lv_at hl 1 rfl) ?_
  refine rdV (As := [.int (zi ((j : Int)))]) (rest := []) (n := 1) hx hb hml hown hg (c_X2_profileOf l dC dI x0 pa ba ax ay sp ss vs fr pn bn ln sn cQ pf j h0 hj hf) (gwV wl_X2_53 wm_X2_profileOf we_X2_profileOf wi_X2 wc_X2_profileOf) rfl rfl (by decide +kernel) ⟨Nat.le_of_ble_eq_true rfl, Nat.le_of_ble_eq_true rfl⟩ (hK.sub [0] rfl) (hP.sub [0, 1] rfl) 0 rfl rfl rfl rfl hl.1 rfl (Nat.le_of_ble_eq_true rfl) dX2_drawn_2 ⟨Nat.zero_le _, Nat.zero_le _⟩ ?_
  refine lv_astore (lv' := [(4, .ref h0), (0, .ref x0), (1, .int (zi ((j : Int)))), (2, .int (zi (k))), (3, .int (zi (what)))]) hx hb dX2_drawn_5 hl (by decide) rfl (fun ls hl => ?_)
  refine lv_iload_n hx hb dX2_drawn_7 rfl (lv_at hl 4 rfl) ?_
  refine rdS (As := [.int (zi (what))]) (rest := []) (n := 1) hx hb hml hown hg (c_X2_needOneOfTwo l (what) hwh) (gwS wl_X2_74 wt_X2_needOneOfTwo wi_X2 wc_X2_needOneOfTwo) rfl rfl (by decide +kernel) ⟨Nat.le_of_ble_eq_true rfl, Nat.le_of_ble_eq_true rfl⟩ rfl hl.1 rfl (Nat.le_of_ble_eq_true rfl) dX2_drawn_8 ⟨Nat.zero_le _, Nat.zero_le _⟩ ?_
  refine lv_iload_n hx hb dX2_drawn_11 rfl (lv_at hl 3 rfl) ?_
  refine lv_iconst (v := zi (-1)) hx hb dX2_drawn_12 rfl ?_
  refine zz_icmp_ne (tgt := 28) hx hb (by omega) (by omega) dX2_drawn_13 (by decide) (fun c_13 => ?_) (fun c_13 => ?_)
  · refine lv_iload_n hx hb dX2_drawn_28 rfl (lv_at hl 3 rfl) ?_
    refine zz_if_ge (tgt := 42) hx hb (by omega) dX2_drawn_29 (by decide) (fun c_29 => ?_) (fun c_29 => ?_)
    · refine lv_iload_n hx hb dX2_drawn_42 rfl (lv_at hl 3 rfl) ?_
      refine lv_aload hx hb dX2_drawn_43 (lv_at hl 0 rfl) ?_
      refine va_get (D := (dC, dI)) (ci := 1) (v := .int (zi ((n : Int)))) (C := RX1) (T := TX1) (N := 5) hx hb hg inX1 hown hK hP 2 rfl rfl 2 (by decide) (hg _ wl_X2_78) (fun _ h9 => h9) rfl dX2_drawn_45 ?_
      refine zz_icmp_ge (tgt := 55) hx hb (by omega) (by omega) dX2_drawn_48 (by decide) (fun c_48 => ?_) (fun c_48 => ?_)
      · refine lv_iconst (v := zi (0)) hx hb dX2_drawn_55 rfl ?_
        refine lv_istore (lv' := [(5, .int (zi (0))), (4, .ref h0), (0, .ref x0), (1, .int (zi ((j : Int)))), (2, .int (zi (k))), (3, .int (zi (what)))]) hx hb dX2_drawn_56 hl (by decide) rfl (fun ls hl => ?_)
        refine lv_iload hx hb dX2_drawn_58 (lv_at hl 0 rfl) ?_
        refine zz_if_eq (tgt := 75) hx hb (by omega) dX2_drawn_60 (by decide) (fun c_60 => ?_) (fun c_60 => ?_)
        · refine lv_aload hx hb dX2_drawn_75 (lv_at hl 1 rfl) ?_
          refine lv_iload_n hx hb dX2_drawn_77 rfl (lv_at hl 4 rfl) ?_
          refine lv_aload hx hb dX2_drawn_78 (lv_at hl 1 rfl) ?_
          refine va_get (D := (dC, dI)) (ci := 1) (v := .int (zi ((n : Int)))) (C := RX1) (T := TX1) (N := 5) hx hb hg inX1 hown hK hP 2 rfl rfl 2 (by decide) (hg _ wl_X2_78) (fun _ h9 => h9) rfl dX2_drawn_80 ?_
          refine zz_isub hx hb dX2_drawn_83 ?_
          refine rdV (As := [.int (zi ((k) - ((n : Int))))]) (rest := []) (n := 1) hx hb hml hown hg (c_X1_findOffAxis l dC dI h0 h1 h2 cA n th wc hs rs ((k) - ((n : Int))) hn hH hR (by omega)) (gwV wl_X2_137 wm_X1_findOffAxis we_X1_findOffAxis wi_X1 wc_X1_findOffAxis) rfl rfl (by decide +kernel) ⟨Nat.le_of_ble_eq_true rfl, Nat.le_of_ble_eq_true rfl⟩ (hK.sub [1] rfl) (hP.sub [2, 3, 4] rfl) 0 rfl rfl rfl rfl hl.1 rfl (Nat.le_of_ble_eq_true rfl) dX2_drawn_84 ⟨Nat.zero_le _, Nat.zero_le _⟩ ?_
          refine lv_istore (lv' := [(6, .int (zi (p_fo rs ((k) - ((n : Int))) n 0 0))), (5, .int (zi (0))), (4, .ref h0), (0, .ref x0), (1, .int (zi ((j : Int)))), (2, .int (zi (k))), (3, .int (zi (what)))]) hx hb dX2_drawn_87 hl (by decide) rfl (fun ls hl => ?_)
          refine lv_iload hx hb dX2_drawn_89 (lv_at hl 0 rfl) ?_
          refine zz_if_lt (tgt := 104) hx hb (by omega) dX2_drawn_91 (by decide) (fun c_91 => ?_) (fun c_91 => ?_)
          · rw [hQQ]
            exact thr (K := KI) hx hb hl0 hown hE (by decide +kernel) (hg _ wl_X2_81) (hg _ wi_IndexOutOfBoundsException) (by decide) (xh_I hg hE) xh_ot.1 hml hl.1 dX2_drawn_104 dX2_drawn_107 dX2_drawn_108 dX2_drawn_110 dX2_drawn_113 hno hlocks (Nat.le_of_ble_eq_true rfl) (Nat.le_of_ble_eq_true rfl) (Nat.le_of_ble_eq_true rfl) (Nat.le_of_ble_eq_true rfl)
          · refine lv_iload hx hb dX2_drawn_94 (lv_at hl 0 rfl) ?_
            refine lv_aload hx hb dX2_drawn_96 (lv_at hl 2 rfl) ?_
            refine va_get (D := (dC, dI)) (ci := 1) (v := .int (zi ((n : Int)))) (C := RX1) (T := TX1) (N := 5) hx hb hg inX1 hown hK hP 2 rfl rfl 2 (by decide) (hg _ wl_X2_78) (fun _ h9 => h9) rfl dX2_drawn_98 ?_
            refine zz_icmp_lt (tgt := 114) hx hb (by omega) (by omega) dX2_drawn_101 (by decide) (fun c_101 => ?_) (fun c_101 => ?_)
            · exact False.elim (by unfold p_drw at hbad; split at hbad <;> omega)
            · rw [hQQ]
              exact thr (K := KI) hx hb hl0 hown hE (by decide +kernel) (hg _ wl_X2_81) (hg _ wi_IndexOutOfBoundsException) (by decide) (xh_I hg hE) xh_ot.1 hml hl.1 dX2_drawn_104 dX2_drawn_107 dX2_drawn_108 dX2_drawn_110 dX2_drawn_113 hno hlocks (Nat.le_of_ble_eq_true rfl) (Nat.le_of_ble_eq_true rfl) (Nat.le_of_ble_eq_true rfl) (Nat.le_of_ble_eq_true rfl)
        · exact absurd c_60 (by decide)
      · refine lv_iconst (v := zi (1)) hx hb dX2_drawn_51 rfl ?_
        refine lv_goto (tgt := 56) hx hb dX2_drawn_52 (by decide) ?_
        refine lv_istore (lv' := [(5, .int (zi (1))), (4, .ref h0), (0, .ref x0), (1, .int (zi ((j : Int)))), (2, .int (zi (k))), (3, .int (zi (what)))]) hx hb dX2_drawn_56 hl (by decide) rfl (fun ls hl => ?_)
        refine lv_iload hx hb dX2_drawn_58 (lv_at hl 0 rfl) ?_
        refine zz_if_eq (tgt := 75) hx hb (by omega) dX2_drawn_60 (by decide) (fun c_60 => ?_) (fun c_60 => ?_)
        · exact absurd c_60 (by decide)
        · refine lv_aload hx hb dX2_drawn_63 (lv_at hl 1 rfl) ?_
          refine va_get (D := (dC, dI)) (ci := 1) (v := .int (zi ((n : Int)))) (C := RX1) (T := TX1) (N := 5) hx hb hg inX1 hown hK hP 2 rfl rfl 2 (by decide) (hg _ wl_X2_78) (fun _ h9 => h9) rfl dX2_drawn_65 ?_
          refine lv_iconst (v := zi (1)) hx hb dX2_drawn_68 rfl ?_
          refine zz_isub hx hb dX2_drawn_69 ?_
          refine lv_iload_n hx hb dX2_drawn_70 rfl (lv_at hl 4 rfl) ?_
          refine zz_isub hx hb dX2_drawn_71 ?_
          refine zz_topi (z := (n : Int) - 1 - k) (congrArg zi rfl) ?_
          refine lv_goto (tgt := 87) hx hb dX2_drawn_72 (by decide) ?_
          refine lv_istore (lv' := [(6, .int (zi ((n : Int) - 1 - k))), (5, .int (zi (1))), (4, .ref h0), (0, .ref x0), (1, .int (zi ((j : Int)))), (2, .int (zi (k))), (3, .int (zi (what)))]) hx hb dX2_drawn_87 hl (by decide) rfl (fun ls hl => ?_)
          refine lv_iload hx hb dX2_drawn_89 (lv_at hl 0 rfl) ?_
          refine zz_if_lt (tgt := 104) hx hb (by omega) dX2_drawn_91 (by decide) (fun c_91 => ?_) (fun c_91 => ?_)
          · rw [hQQ]
            exact thr (K := KI) hx hb hl0 hown hE (by decide +kernel) (hg _ wl_X2_81) (hg _ wi_IndexOutOfBoundsException) (by decide) (xh_I hg hE) xh_ot.1 hml hl.1 dX2_drawn_104 dX2_drawn_107 dX2_drawn_108 dX2_drawn_110 dX2_drawn_113 hno hlocks (Nat.le_of_ble_eq_true rfl) (Nat.le_of_ble_eq_true rfl) (Nat.le_of_ble_eq_true rfl) (Nat.le_of_ble_eq_true rfl)
          · refine lv_iload hx hb dX2_drawn_94 (lv_at hl 0 rfl) ?_
            refine lv_aload hx hb dX2_drawn_96 (lv_at hl 2 rfl) ?_
            refine va_get (D := (dC, dI)) (ci := 1) (v := .int (zi ((n : Int)))) (C := RX1) (T := TX1) (N := 5) hx hb hg inX1 hown hK hP 2 rfl rfl 2 (by decide) (hg _ wl_X2_78) (fun _ h9 => h9) rfl dX2_drawn_98 ?_
            refine zz_icmp_lt (tgt := 114) hx hb (by omega) (by omega) dX2_drawn_101 (by decide) (fun c_101 => ?_) (fun c_101 => ?_)
            · exact False.elim (by unfold p_drw at hbad; split at hbad <;> omega)
            · rw [hQQ]
              exact thr (K := KI) hx hb hl0 hown hE (by decide +kernel) (hg _ wl_X2_81) (hg _ wi_IndexOutOfBoundsException) (by decide) (xh_I hg hE) xh_ot.1 hml hl.1 dX2_drawn_104 dX2_drawn_107 dX2_drawn_108 dX2_drawn_110 dX2_drawn_113 hno hlocks (Nat.le_of_ble_eq_true rfl) (Nat.le_of_ble_eq_true rfl) (Nat.le_of_ble_eq_true rfl) (Nat.le_of_ble_eq_true rfl)
    · rw [hQQ]
      exact thr (K := KI) hx hb hl0 hown hE (by decide +kernel) (hg _ wl_X2_81) (hg _ wi_IndexOutOfBoundsException) (by decide) (xh_I hg hE) xh_ot.1 hml hl.1 dX2_drawn_32 dX2_drawn_35 dX2_drawn_36 dX2_drawn_38 dX2_drawn_41 hno hlocks (Nat.le_of_ble_eq_true rfl) (Nat.le_of_ble_eq_true rfl) (Nat.le_of_ble_eq_true rfl) (Nat.le_of_ble_eq_true rfl)
  · refine lv_aload hx hb dX2_drawn_16 (lv_at hl 0 rfl) ?_
    refine va_get (D := (dC, dI)) (ci := 1) (v := .int (zi ((n : Int)))) (C := RX1) (T := TX1) (N := 5) hx hb hg inX1 hown hK hP 2 rfl rfl 2 (by decide) (hg _ wl_X2_78) (fun _ h9 => h9) rfl dX2_drawn_18 ?_
    refine lv_aload hx hb dX2_drawn_21 (lv_at hl 0 rfl) ?_
    refine rdV (As := []) (rest := [.int (zi ((n : Int)))]) (n := 0) hx hb hml hown hg (c_X1_countOffAxis l dC dI h0 h1 h2 cA n th wc hs rs hn hH hR) (gwV wl_X2_131 wm_X1_countOffAxis we_X1_countOffAxis wi_X1 wc_X1_countOffAxis) rfl rfl (by decide +kernel) ⟨Nat.le_of_ble_eq_true rfl, Nat.le_of_ble_eq_true rfl⟩ (hK.sub [1] rfl) (hP.sub [2, 3, 4] rfl) 0 rfl rfl rfl rfl hl.1 rfl (Nat.le_of_ble_eq_true rfl) dX2_drawn_23 ⟨Nat.zero_le _, Nat.zero_le _⟩ ?_
    refine zz_iadd hx hb dX2_drawn_26 ?_
    exact False.elim (by omega)

abbrev rm_X2_drawn : Room := { frames := 7, cells := 0, slots := 0, locals := 122 }
set_option maxHeartbeats 4000000 in
set_option maxRecDepth 100000 in
theorem c_drawn (l : Launch) (dC : Nat → ClassId) (dI : Nat → Nat → Nat) (x0 pa ba ax ay sp ss vs fr : Nat) (pn bn ln sn : Nat)(cQ : ClassId) (pf : Nat → Option Nat) (h0 h1 h2 : Nat) (cA : ClassId) (n : Nat) (th wc : Int) (hs rs : Nat → Int) (j : Nat) (k what : Int) (hn : n ≤ 12) (hH : ∀ j, 0 ≤ hs j ∧ hs j ≤ 400) (hR : ∀ j, 0 ≤ rs j ∧ rs j ≤ 200) (hj : j < 6) (hf : pf j = some h0) (h_k : -2147483648 ≤ k ∧ k < 2147483648) (h_what : -2147483648 ≤ what ∧ what < 2147483648) (hwh : what = 0 ∨ what = 1) (hok : k = -1 ∨ (0 ≤ k ∧ 0 ≤ p_drw n rs k ∧ p_drw n rs k < n)) : Met l yX2_drawn (Cond.code yX2_drawn cX2_drawn 7 ((Option.some Jvm.ClassFile.FieldType.int)) :: gw) rm_X2_drawn (PcR [.ref x0, .int (zi ((j : Int))), .int (zi (k)), .int (zi (what))] (dC, dI) vwCl [(x0, .inr (2, [.ref pa, .int (zi ((pn : Int))), .ref ba, .int (zi ((bn : Int))), .ref ax, .ref ay, .int (zi ((ln : Int))), .ref sp, .ref ss, .int (zi ((sn : Int))), .ref vs, .ref fr])), (pa, .inl (cQ, 6, .inr (.inr (.inr (.inr (pf)))))), (h0, .inr (1, [.ref h1, .ref h2, .int (zi ((n : Int))), .int (zi (th)), .int (zi (wc))])), (h1, .inl (cA, 12, .inl (zA (hs)))), (h2, .inl (cA, 12, .inl (zA (rs))))] [(cQ, .object "PotVolumes$Profile"), (cA, .int)]) (RdQ (some (.int (zi (p_drawn n hs rs k what))))) 0 0 (fun _ => False) := by
  refine Met.ofW (cc := cX2_drawn) (maxL := 7) (ret := ((Option.some Jvm.ClassFile.FieldType.int))) (by decide) rfl ?_
  intro p e s m args below meth c s₁ B hml hv
  obtain ⟨hargs, hP, hK⟩ := hv
  have hx := B.exec
  have hb := B.bytes
  have hr := B.returns
  have hts := atoms_spec (ws := Cond.code yX2_drawn cX2_drawn 7 ((Option.some Jvm.ClassFile.FieldType.int)) :: gw) B.pre
  have hg : ∀ w ∈ gw, w.before args s = true := fun w h => hts w (List.mem_cons_of_mem _ h)
  have hown : s.vm.findClass RX2 = some m.cls := findClass_of_methodNamed B.named
  have hlocks := B.notSynchronized
  show W p l e rm_X2_drawn s m args below meth c s.heap [] 0 0 _ _
  have hl := lv_entry ([.ref x0, .int (zi ((j : Int))), .int (zi (k)), .int (zi (what))]) (n := 7) (Nat.le_of_ble_eq_true rfl)
  rw [show entryFrame m args 7 = entryFrame m ([.ref x0, .int (zi ((j : Int))), .int (zi (k)), .int (zi (what))] : List Value).toArray 7 by rw [hargs], lg_entry_eq]
  generalize (lg_sl ([.ref x0, .int (zi ((j : Int))), .int (zi (k)), .int (zi (what))]) ++ List.replicate (7 - (lg_sl ([.ref x0, .int (zi ((j : Int))), .int (zi (k)), .int (zi (what))])).length) Slot.unset).toArray = ls at hl ⊢
  have hl : lv_has ls 7 [(0, .ref x0), (1, .int (zi ((j : Int)))), (2, .int (zi (k))), (3, .int (zi (what)))] := hl
  obtain ⟨QQ, hQQ⟩ : ∃ Q, Q = MQ below (RdQ (some (.int (zi (p_drawn n hs rs k what))))) args s 0 0 (fun _ => False) := ⟨_, rfl⟩
  rw [← hQQ]
  have hfo := p_fo_in hn rs (k - n)
  have hco := p_co_le rs n
  refine lv_aload_n hx hb dX2_drawn_0 rfl (lv_at hl 0 rfl) ?_
  refine lv_iload_n hx hb dX2_drawn_1 rfl (lv_at hl 1 rfl) ?_
  refine rdV (As := [.int (zi ((j : Int)))]) (rest := []) (n := 1) hx hb hml hown hg (c_X2_profileOf l dC dI x0 pa ba ax ay sp ss vs fr pn bn ln sn cQ pf j h0 hj hf) (gwV wl_X2_53 wm_X2_profileOf we_X2_profileOf wi_X2 wc_X2_profileOf) rfl rfl (by decide +kernel) ⟨Nat.le_of_ble_eq_true rfl, Nat.le_of_ble_eq_true rfl⟩ (hK.sub [0] rfl) (hP.sub [0, 1] rfl) 0 rfl rfl rfl rfl hl.1 rfl (Nat.le_of_ble_eq_true rfl) dX2_drawn_2 ⟨Nat.zero_le _, Nat.zero_le _⟩ ?_
  refine lv_astore (lv' := [(4, .ref h0), (0, .ref x0), (1, .int (zi ((j : Int)))), (2, .int (zi (k))), (3, .int (zi (what)))]) hx hb dX2_drawn_5 hl (by decide) rfl (fun ls hl => ?_)
  refine lv_iload_n hx hb dX2_drawn_7 rfl (lv_at hl 4 rfl) ?_
  refine rdS (As := [.int (zi (what))]) (rest := []) (n := 1) hx hb hml hown hg (c_X2_needOneOfTwo l (what) hwh) (gwS wl_X2_74 wt_X2_needOneOfTwo wi_X2 wc_X2_needOneOfTwo) rfl rfl (by decide +kernel) ⟨Nat.le_of_ble_eq_true rfl, Nat.le_of_ble_eq_true rfl⟩ rfl hl.1 rfl (Nat.le_of_ble_eq_true rfl) dX2_drawn_8 ⟨Nat.zero_le _, Nat.zero_le _⟩ ?_
  refine lv_iload_n hx hb dX2_drawn_11 rfl (lv_at hl 3 rfl) ?_
  refine lv_iconst (v := zi (-1)) hx hb dX2_drawn_12 rfl ?_
  refine zz_icmp_ne (tgt := 28) hx hb (by omega) (by omega) dX2_drawn_13 (by decide) (fun c_13 => ?_) (fun c_13 => ?_)
  · refine lv_iload_n hx hb dX2_drawn_28 rfl (lv_at hl 3 rfl) ?_
    refine zz_if_ge (tgt := 42) hx hb (by omega) dX2_drawn_29 (by decide) (fun c_29 => ?_) (fun c_29 => ?_)
    · refine lv_iload_n hx hb dX2_drawn_42 rfl (lv_at hl 3 rfl) ?_
      refine lv_aload hx hb dX2_drawn_43 (lv_at hl 0 rfl) ?_
      refine va_get (D := (dC, dI)) (ci := 1) (v := .int (zi ((n : Int)))) (C := RX1) (T := TX1) (N := 5) hx hb hg inX1 hown hK hP 2 rfl rfl 2 (by decide) (hg _ wl_X2_78) (fun _ h9 => h9) rfl dX2_drawn_45 ?_
      refine zz_icmp_ge (tgt := 55) hx hb (by omega) (by omega) dX2_drawn_48 (by decide) (fun c_48 => ?_) (fun c_48 => ?_)
      · refine lv_iconst (v := zi (0)) hx hb dX2_drawn_55 rfl ?_
        refine lv_istore (lv' := [(5, .int (zi (0))), (4, .ref h0), (0, .ref x0), (1, .int (zi ((j : Int)))), (2, .int (zi (k))), (3, .int (zi (what)))]) hx hb dX2_drawn_56 hl (by decide) rfl (fun ls hl => ?_)
        refine lv_iload hx hb dX2_drawn_58 (lv_at hl 0 rfl) ?_
        refine zz_if_eq (tgt := 75) hx hb (by omega) dX2_drawn_60 (by decide) (fun c_60 => ?_) (fun c_60 => ?_)
        · refine lv_aload hx hb dX2_drawn_75 (lv_at hl 1 rfl) ?_
          refine lv_iload_n hx hb dX2_drawn_77 rfl (lv_at hl 4 rfl) ?_
          refine lv_aload hx hb dX2_drawn_78 (lv_at hl 1 rfl) ?_
          refine va_get (D := (dC, dI)) (ci := 1) (v := .int (zi ((n : Int)))) (C := RX1) (T := TX1) (N := 5) hx hb hg inX1 hown hK hP 2 rfl rfl 2 (by decide) (hg _ wl_X2_78) (fun _ h9 => h9) rfl dX2_drawn_80 ?_
          refine zz_isub hx hb dX2_drawn_83 ?_
          refine rdV (As := [.int (zi ((k) - ((n : Int))))]) (rest := []) (n := 1) hx hb hml hown hg (c_X1_findOffAxis l dC dI h0 h1 h2 cA n th wc hs rs ((k) - ((n : Int))) hn hH hR (by omega)) (gwV wl_X2_137 wm_X1_findOffAxis we_X1_findOffAxis wi_X1 wc_X1_findOffAxis) rfl rfl (by decide +kernel) ⟨Nat.le_of_ble_eq_true rfl, Nat.le_of_ble_eq_true rfl⟩ (hK.sub [1] rfl) (hP.sub [2, 3, 4] rfl) 0 rfl rfl rfl rfl hl.1 rfl (Nat.le_of_ble_eq_true rfl) dX2_drawn_84 ⟨Nat.zero_le _, Nat.zero_le _⟩ ?_
          refine lv_istore (lv' := [(6, .int (zi (p_fo rs ((k) - ((n : Int))) n 0 0))), (5, .int (zi (0))), (4, .ref h0), (0, .ref x0), (1, .int (zi ((j : Int)))), (2, .int (zi (k))), (3, .int (zi (what)))]) hx hb dX2_drawn_87 hl (by decide) rfl (fun ls hl => ?_)
          refine lv_iload hx hb dX2_drawn_89 (lv_at hl 0 rfl) ?_
          refine zz_if_lt (tgt := 104) hx hb (by omega) dX2_drawn_91 (by decide) (fun c_91 => ?_) (fun c_91 => ?_)
          · exact False.elim (by unfold p_drw at hok; split at hok <;> omega)
          · refine lv_iload hx hb dX2_drawn_94 (lv_at hl 0 rfl) ?_
            refine lv_aload hx hb dX2_drawn_96 (lv_at hl 2 rfl) ?_
            refine va_get (D := (dC, dI)) (ci := 1) (v := .int (zi ((n : Int)))) (C := RX1) (T := TX1) (N := 5) hx hb hg inX1 hown hK hP 2 rfl rfl 2 (by decide) (hg _ wl_X2_78) (fun _ h9 => h9) rfl dX2_drawn_98 ?_
            refine zz_icmp_lt (tgt := 114) hx hb (by omega) (by omega) dX2_drawn_101 (by decide) (fun c_101 => ?_) (fun c_101 => ?_)
            · refine lv_iload_n hx hb dX2_drawn_114 rfl (lv_at hl 6 rfl) ?_
              refine lv_iconst (v := zi (1)) hx hb dX2_drawn_115 rfl ?_
              refine zz_icmp_ne (tgt := 128) hx hb (by omega) (by omega) dX2_drawn_116 (by decide) (fun c_116 => ?_) (fun c_116 => ?_)
              · refine lv_iload hx hb dX2_drawn_128 (lv_at hl 1 rfl) ?_
                refine zz_if_eq (tgt := 145) hx hb (by omega) dX2_drawn_130 (by decide) (fun c_130 => ?_) (fun c_130 => ?_)
                · refine lv_aload hx hb dX2_drawn_145 (lv_at hl 2 rfl) ?_
                  refine va_get (D := (dC, dI)) (ci := 1) (v := .ref h2) (C := RX1) (T := TX1) (N := 5) hx hb hg inX1 hown hK hP 2 rfl rfl 1 (by decide) (hg _ wl_X2_89) (fun _ h9 => h9) rfl dX2_drawn_147 ?_
                  refine lv_iload hx hb dX2_drawn_150 (lv_at hl 0 rfl) ?_
                  refine zz_iald hx hb hK hP 4 1 rfl rfl ((p_fo rs ((k) - ((n : Int))) n 0 0).toNat) (by omega) (by omega) (by decide) dX2_drawn_152 ?_
                  have hv_1 := hR ((p_fo rs ((k) - ((n : Int))) n 0 0).toNat)
                  rw [hQQ]
                  exact rd_i hx hb hr hlocks (by unfold p_drawn; have hq : p_drw n rs k = p_fo rs (k - n) n 0 0 := (by unfold p_drw; rw [if_neg (by omega)]); rw [if_neg (by omega), if_neg (by omega), if_neg (by omega), hq]) dX2_drawn_153
                · exact absurd c_130 (by decide)
              · refine lv_aload hx hb dX2_drawn_119 (lv_at hl 2 rfl) ?_
                refine va_get (D := (dC, dI)) (ci := 1) (v := .ref h1) (C := RX1) (T := TX1) (N := 5) hx hb hg inX1 hown hK hP 2 rfl rfl 0 (by decide) (hg _ wl_X2_86) (fun _ h9 => h9) rfl dX2_drawn_121 ?_
                refine lv_iload hx hb dX2_drawn_124 (lv_at hl 0 rfl) ?_
                refine zz_iald hx hb hK hP 3 1 rfl rfl ((p_fo rs ((k) - ((n : Int))) n 0 0).toNat) (by omega) (by omega) (by decide) dX2_drawn_126 ?_
                have hv_2 := hH ((p_fo rs ((k) - ((n : Int))) n 0 0).toNat)
                rw [hQQ]
                exact rd_i hx hb hr hlocks (by unfold p_drawn; have hq : p_drw n rs k = p_fo rs (k - n) n 0 0 := (by unfold p_drw; rw [if_neg (by omega)]); rw [if_neg (by omega), if_pos (by omega), hq]) dX2_drawn_127
            · exact False.elim (by unfold p_drw at hok; split at hok <;> omega)
        · exact absurd c_60 (by decide)
      · refine lv_iconst (v := zi (1)) hx hb dX2_drawn_51 rfl ?_
        refine lv_goto (tgt := 56) hx hb dX2_drawn_52 (by decide) ?_
        refine lv_istore (lv' := [(5, .int (zi (1))), (4, .ref h0), (0, .ref x0), (1, .int (zi ((j : Int)))), (2, .int (zi (k))), (3, .int (zi (what)))]) hx hb dX2_drawn_56 hl (by decide) rfl (fun ls hl => ?_)
        refine lv_iload hx hb dX2_drawn_58 (lv_at hl 0 rfl) ?_
        refine zz_if_eq (tgt := 75) hx hb (by omega) dX2_drawn_60 (by decide) (fun c_60 => ?_) (fun c_60 => ?_)
        · exact absurd c_60 (by decide)
        · refine lv_aload hx hb dX2_drawn_63 (lv_at hl 1 rfl) ?_
          refine va_get (D := (dC, dI)) (ci := 1) (v := .int (zi ((n : Int)))) (C := RX1) (T := TX1) (N := 5) hx hb hg inX1 hown hK hP 2 rfl rfl 2 (by decide) (hg _ wl_X2_78) (fun _ h9 => h9) rfl dX2_drawn_65 ?_
          refine lv_iconst (v := zi (1)) hx hb dX2_drawn_68 rfl ?_
          refine zz_isub hx hb dX2_drawn_69 ?_
          refine lv_iload_n hx hb dX2_drawn_70 rfl (lv_at hl 4 rfl) ?_
          refine zz_isub hx hb dX2_drawn_71 ?_
          refine zz_topi (z := (n : Int) - 1 - k) (congrArg zi rfl) ?_
          refine lv_goto (tgt := 87) hx hb dX2_drawn_72 (by decide) ?_
          refine lv_istore (lv' := [(6, .int (zi ((n : Int) - 1 - k))), (5, .int (zi (1))), (4, .ref h0), (0, .ref x0), (1, .int (zi ((j : Int)))), (2, .int (zi (k))), (3, .int (zi (what)))]) hx hb dX2_drawn_87 hl (by decide) rfl (fun ls hl => ?_)
          refine lv_iload hx hb dX2_drawn_89 (lv_at hl 0 rfl) ?_
          refine zz_if_lt (tgt := 104) hx hb (by omega) dX2_drawn_91 (by decide) (fun c_91 => ?_) (fun c_91 => ?_)
          · exact False.elim (by unfold p_drw at hok; split at hok <;> omega)
          · refine lv_iload hx hb dX2_drawn_94 (lv_at hl 0 rfl) ?_
            refine lv_aload hx hb dX2_drawn_96 (lv_at hl 2 rfl) ?_
            refine va_get (D := (dC, dI)) (ci := 1) (v := .int (zi ((n : Int)))) (C := RX1) (T := TX1) (N := 5) hx hb hg inX1 hown hK hP 2 rfl rfl 2 (by decide) (hg _ wl_X2_78) (fun _ h9 => h9) rfl dX2_drawn_98 ?_
            refine zz_icmp_lt (tgt := 114) hx hb (by omega) (by omega) dX2_drawn_101 (by decide) (fun c_101 => ?_) (fun c_101 => ?_)
            · refine lv_iload_n hx hb dX2_drawn_114 rfl (lv_at hl 6 rfl) ?_
              refine lv_iconst (v := zi (1)) hx hb dX2_drawn_115 rfl ?_
              refine zz_icmp_ne (tgt := 128) hx hb (by omega) (by omega) dX2_drawn_116 (by decide) (fun c_116 => ?_) (fun c_116 => ?_)
              · refine lv_iload hx hb dX2_drawn_128 (lv_at hl 1 rfl) ?_
                refine zz_if_eq (tgt := 145) hx hb (by omega) dX2_drawn_130 (by decide) (fun c_130 => ?_) (fun c_130 => ?_)
                · exact absurd c_130 (by decide)
                · refine lv_aload hx hb dX2_drawn_133 (lv_at hl 2 rfl) ?_
                  refine va_get (D := (dC, dI)) (ci := 1) (v := .ref h2) (C := RX1) (T := TX1) (N := 5) hx hb hg inX1 hown hK hP 2 rfl rfl 1 (by decide) (hg _ wl_X2_89) (fun _ h9 => h9) rfl dX2_drawn_135 ?_
                  refine lv_iload hx hb dX2_drawn_138 (lv_at hl 0 rfl) ?_
                  refine zz_iald hx hb hK hP 4 1 rfl rfl (((n : Int) - 1 - k).toNat) (by omega) (by omega) (by decide) dX2_drawn_140 ?_
                  have hv_3 := hR (((n : Int) - 1 - k).toNat)
                  refine zz_ineg hx hb dX2_drawn_141 ?_
                  refine lv_goto (tgt := 153) hx hb dX2_drawn_142 (by decide) ?_
                  rw [hQQ]
                  exact rd_i hx hb hr hlocks (by unfold p_drawn; have hq : p_drw n rs k = (n : Int) - 1 - k := (by unfold p_drw; rw [if_pos (by omega)]); rw [if_neg (by omega), if_neg (by omega), if_pos (by omega), hq]) dX2_drawn_153
              · refine lv_aload hx hb dX2_drawn_119 (lv_at hl 2 rfl) ?_
                refine va_get (D := (dC, dI)) (ci := 1) (v := .ref h1) (C := RX1) (T := TX1) (N := 5) hx hb hg inX1 hown hK hP 2 rfl rfl 0 (by decide) (hg _ wl_X2_86) (fun _ h9 => h9) rfl dX2_drawn_121 ?_
                refine lv_iload hx hb dX2_drawn_124 (lv_at hl 0 rfl) ?_
                refine zz_iald hx hb hK hP 3 1 rfl rfl (((n : Int) - 1 - k).toNat) (by omega) (by omega) (by decide) dX2_drawn_126 ?_
                have hv_4 := hH (((n : Int) - 1 - k).toNat)
                rw [hQQ]
                exact rd_i hx hb hr hlocks (by unfold p_drawn; have hq : p_drw n rs k = (n : Int) - 1 - k := (by unfold p_drw; rw [if_pos (by omega)]); rw [if_neg (by omega), if_pos (by omega), hq]) dX2_drawn_127
            · exact False.elim (by unfold p_drw at hok; split at hok <;> omega)
    · exact False.elim (by omega)
  · refine lv_aload hx hb dX2_drawn_16 (lv_at hl 0 rfl) ?_
    refine va_get (D := (dC, dI)) (ci := 1) (v := .int (zi ((n : Int)))) (C := RX1) (T := TX1) (N := 5) hx hb hg inX1 hown hK hP 2 rfl rfl 2 (by decide) (hg _ wl_X2_78) (fun _ h9 => h9) rfl dX2_drawn_18 ?_
    refine lv_aload hx hb dX2_drawn_21 (lv_at hl 0 rfl) ?_
    refine rdV (As := []) (rest := [.int (zi ((n : Int)))]) (n := 0) hx hb hml hown hg (c_X1_countOffAxis l dC dI h0 h1 h2 cA n th wc hs rs hn hH hR) (gwV wl_X2_131 wm_X1_countOffAxis we_X1_countOffAxis wi_X1 wc_X1_countOffAxis) rfl rfl (by decide +kernel) ⟨Nat.le_of_ble_eq_true rfl, Nat.le_of_ble_eq_true rfl⟩ (hK.sub [1] rfl) (hP.sub [2, 3, 4] rfl) 0 rfl rfl rfl rfl hl.1 rfl (Nat.le_of_ble_eq_true rfl) dX2_drawn_23 ⟨Nat.zero_le _, Nat.zero_le _⟩ ?_
    refine zz_iadd hx hb dX2_drawn_26 ?_
    rw [hQQ]
    exact rd_i hx hb hr hlocks (by unfold p_drawn; rw [if_pos (by omega)]) dX2_drawn_27

abbrev rt_X2_bound : Room := { frames := 8, cells := 1, slots := 6, locals := 140 }
set_option maxHeartbeats 4000000 in
set_option maxRecDepth 100000 in
theorem t_bound_A (l : Launch) (hl0 : l.stackTraces = false) (dC : Nat → ClassId) (dI : Nat → Nat → Nat) (x0 pa ba ax ay sp ss vs fr : Nat) (pn bn ln sn : Nat) (v : Int) (hbn : bn ≤ 10) (h_v : -2147483648 ≤ v ∧ v < 2147483648) (hbad : ¬ (0 ≤ v ∧ v ≤ 1000000000)) : ThM l yX2_bound cX2_bound 2 ((Option.some Jvm.ClassFile.FieldType.int)) rt_X2_bound (PcT [.ref x0, .int (zi (v))] (dC, dI) vwCl [(x0, .inr (2, [.ref pa, .int (zi ((pn : Int))), .ref ba, .int (zi ((bn : Int))), .ref ax, .ref ay, .int (zi ((ln : Int))), .ref sp, .ref ss, .int (zi ((sn : Int))), .ref vs, .ref fr]))] []) KA := by
  refine vx_ofW (cc := cX2_bound) (maxL := 2) (ret := ((Option.some Jvm.ClassFile.FieldType.int))) (by decide) rfl ?_
  intro p e s m args below meth c s₁ B hml hno hv
  obtain ⟨hargs, hP, hK, hE⟩ := hv
  have hx := B.exec
  have hb := B.bytes
  have hr := B.returns
  have hts := atoms_spec (ws := Cond.code yX2_bound cX2_bound 2 ((Option.some Jvm.ClassFile.FieldType.int)) :: gw) B.pre
  have hg : ∀ w ∈ gw, w.before args s = true := fun w h => hts w (List.mem_cons_of_mem _ h)
  have hown : s.vm.findClass RX2 = some m.cls := findClass_of_methodNamed B.named
  have hlocks := B.notSynchronized
  show W p l e rt_X2_bound s m args below meth c s.heap [] 0 0 _ _
  have hl := lv_entry ([.ref x0, .int (zi (v))]) (n := 2) (Nat.le_of_ble_eq_true rfl)
  rw [show entryFrame m args 2 = entryFrame m ([.ref x0, .int (zi (v))] : List Value).toArray 2 by rw [hargs], lg_entry_eq]
  generalize (lg_sl ([.ref x0, .int (zi (v))]) ++ List.replicate (2 - (lg_sl ([.ref x0, .int (zi (v))])).length) Slot.unset).toArray = ls at hl ⊢
  have hl : lv_has ls 2 [(0, .ref x0), (1, .int (zi (v)))] := hl
  obtain ⟨QQ, hQQ⟩ : ∃ Q, Q = vx_MQ below QF (XK KA) args s 1 6 (fun _ => False) := ⟨_, rfl⟩
  rw [← hQQ]
  refine lv_iload_n hx hb dX2_bound_0 rfl (lv_at hl 1 rfl) ?_
  refine zz_if_lt (tgt := 10) hx hb (by omega) dX2_bound_1 (by decide) (fun c_1 => ?_) (fun c_1 => ?_)
  · rw [hQQ]
    exact thr (K := KA) hx hb hl0 hown hE (by decide +kernel) (hg _ wl_X2_57) (hg _ wi_IllegalArgumentException) (by decide) (xh_A hg hE) xh_ot.2.1 hml hl.1 dX2_bound_10 dX2_bound_13 dX2_bound_14 dX2_bound_16 dX2_bound_19 hno hlocks (Nat.le_of_ble_eq_true rfl) (Nat.le_of_ble_eq_true rfl) (Nat.le_of_ble_eq_true rfl) (Nat.le_of_ble_eq_true rfl)
  · refine lv_iload_n hx hb dX2_bound_4 rfl (lv_at hl 1 rfl) ?_
    refine lv_ldc (v := 1000000000) hx hb hown (hg _ wl_X2_140) dX2_bound_5 ?_
    refine zz_topi (z := 1000000000) (by decide) ?_
    refine zz_icmp_le (tgt := 20) hx hb (by omega) (by omega) dX2_bound_7 (by decide) (fun c_7 => ?_) (fun c_7 => ?_)
    · exact False.elim (by omega)
    · rw [hQQ]
      exact thr (K := KA) hx hb hl0 hown hE (by decide +kernel) (hg _ wl_X2_57) (hg _ wi_IllegalArgumentException) (by decide) (xh_A hg hE) xh_ot.2.1 hml hl.1 dX2_bound_10 dX2_bound_13 dX2_bound_14 dX2_bound_16 dX2_bound_19 hno hlocks (Nat.le_of_ble_eq_true rfl) (Nat.le_of_ble_eq_true rfl) (Nat.le_of_ble_eq_true rfl) (Nat.le_of_ble_eq_true rfl)

set_option maxHeartbeats 4000000 in
set_option maxRecDepth 100000 in
theorem t_bound_S (l : Launch) (hl0 : l.stackTraces = false) (dC : Nat → ClassId) (dI : Nat → Nat → Nat) (x0 pa ba ax ay sp ss vs fr : Nat) (pn bn ln sn : Nat) (v : Int) (hbn : bn ≤ 10) (hv : 0 ≤ v ∧ v ≤ 1000000000) (hbad : bn = 10) : ThM l yX2_bound cX2_bound 2 ((Option.some Jvm.ClassFile.FieldType.int)) rt_X2_bound (PcT [.ref x0, .int (zi (v))] (dC, dI) vwCl [(x0, .inr (2, [.ref pa, .int (zi ((pn : Int))), .ref ba, .int (zi ((bn : Int))), .ref ax, .ref ay, .int (zi ((ln : Int))), .ref sp, .ref ss, .int (zi ((sn : Int))), .ref vs, .ref fr]))] []) KS := by
  refine vx_ofW (cc := cX2_bound) (maxL := 2) (ret := ((Option.some Jvm.ClassFile.FieldType.int))) (by decide) rfl ?_
  intro p e s m args below meth c s₁ B hml hno hv
  obtain ⟨hargs, hP, hK, hE⟩ := hv
  have hx := B.exec
  have hb := B.bytes
  have hr := B.returns
  have hts := atoms_spec (ws := Cond.code yX2_bound cX2_bound 2 ((Option.some Jvm.ClassFile.FieldType.int)) :: gw) B.pre
  have hg : ∀ w ∈ gw, w.before args s = true := fun w h => hts w (List.mem_cons_of_mem _ h)
  have hown : s.vm.findClass RX2 = some m.cls := findClass_of_methodNamed B.named
  have hlocks := B.notSynchronized
  show W p l e rt_X2_bound s m args below meth c s.heap [] 0 0 _ _
  have hl := lv_entry ([.ref x0, .int (zi (v))]) (n := 2) (Nat.le_of_ble_eq_true rfl)
  rw [show entryFrame m args 2 = entryFrame m ([.ref x0, .int (zi (v))] : List Value).toArray 2 by rw [hargs], lg_entry_eq]
  generalize (lg_sl ([.ref x0, .int (zi (v))]) ++ List.replicate (2 - (lg_sl ([.ref x0, .int (zi (v))])).length) Slot.unset).toArray = ls at hl ⊢
  have hl : lv_has ls 2 [(0, .ref x0), (1, .int (zi (v)))] := hl
  obtain ⟨QQ, hQQ⟩ : ∃ Q, Q = vx_MQ below QF (XK KS) args s 1 6 (fun _ => False) := ⟨_, rfl⟩
  rw [← hQQ]
  refine lv_iload_n hx hb dX2_bound_0 rfl (lv_at hl 1 rfl) ?_
  refine zz_if_lt (tgt := 10) hx hb (by omega) dX2_bound_1 (by decide) (fun c_1 => ?_) (fun c_1 => ?_)
  · exact False.elim (by omega)
  · refine lv_iload_n hx hb dX2_bound_4 rfl (lv_at hl 1 rfl) ?_
    refine lv_ldc (v := 1000000000) hx hb hown (hg _ wl_X2_140) dX2_bound_5 ?_
    refine zz_topi (z := 1000000000) (by decide) ?_
    refine zz_icmp_le (tgt := 20) hx hb (by omega) (by omega) dX2_bound_7 (by decide) (fun c_7 => ?_) (fun c_7 => ?_)
    · refine lv_aload_n hx hb dX2_bound_20 rfl (lv_at hl 0 rfl) ?_
      refine va_get (D := (dC, dI)) (ci := 2) (v := .int (zi ((bn : Int)))) (C := RX2) (T := TX2) (N := 12) hx hb hg inX2 hown hK hP 0 rfl rfl 3 (by decide) (hg _ wl_X2_143) (fun _ h9 => h9) rfl dX2_bound_21 ?_
      refine lv_bipush (v := zi (10)) hx hb dX2_bound_24 (by decide) ?_
      refine zz_icmp_lt (tgt := 39) hx hb (by omega) (by omega) dX2_bound_26 (by decide) (fun c_26 => ?_) (fun c_26 => ?_)
      · exact False.elim (by omega)
      · rw [hQQ]
        exact thr (K := KS) hx hb hl0 hown hE (by decide +kernel) (hg _ wl_X2_45) (hg _ wi_IllegalStateException) (by decide) (xh_S hg hE) xh_ot.2.2 hml hl.1 dX2_bound_29 dX2_bound_32 dX2_bound_33 dX2_bound_35 dX2_bound_38 hno hlocks (Nat.le_of_ble_eq_true rfl) (Nat.le_of_ble_eq_true rfl) (Nat.le_of_ble_eq_true rfl) (Nat.le_of_ble_eq_true rfl)
    · exact False.elim (by omega)

abbrev rm_X2_bound : Room := { frames := 6, cells := 0, slots := 0, locals := 100 }
set_option maxHeartbeats 4000000 in
set_option maxRecDepth 100000 in
theorem c_bound (l : Launch) (dC : Nat → ClassId) (dI : Nat → Nat → Nat) (sz : Nat) (x0 pa ba ax ay sp ss vs fr : Nat) (pn bn ln sn : Nat) (cA : ClassId) (bs : Nat → Int) (v : Int) (hv9 : 0 ≤ v ∧ v ≤ 1000000000) (hbn : bn < 10) : Met l yX2_bound (Cond.code yX2_bound cX2_bound 2 ((Option.some Jvm.ClassFile.FieldType.int)) :: gw) rm_X2_bound (PcW [.ref x0, .int (zi (v))] (dC, dI) vwCl [(x0, .inr (2, [.ref pa, .int (zi ((pn : Int))), .ref ba, .int (zi ((bn : Int))), .ref ax, .ref ay, .int (zi ((ln : Int))), .ref sp, .ref ss, .int (zi ((sn : Int))), .ref vs, .ref fr])), (ba, .inl (cA, 10, .inl (zA (bs))))] [(cA, .int)] sz) (WrQ (some (.int (zi ((bn + 1 : Nat) : Int)))) (dC, dI) vwCl [(x0, .inr (2, [.ref pa, .int (zi ((pn : Int))), .ref ba, .int (zi (((bn + 1 : Nat) : Int))), .ref ax, .ref ay, .int (zi ((ln : Int))), .ref sp, .ref ss, .int (zi ((sn : Int))), .ref vs, .ref fr])), (ba, .inl (cA, 10, .inl (zA (zupd bs (bn) (v)))))] (va_A [(x0, .inr (2, [.ref pa, .int (zi ((pn : Int))), .ref ba, .int (zi ((bn : Int))), .ref ax, .ref ay, .int (zi ((ln : Int))), .ref sp, .ref ss, .int (zi ((sn : Int))), .ref vs, .ref fr])), (ba, .inl (cA, 10, .inl (zA (bs))))] sz)) 0 0 (va_A [(x0, .inr (2, [.ref pa, .int (zi ((pn : Int))), .ref ba, .int (zi ((bn : Int))), .ref ax, .ref ay, .int (zi ((ln : Int))), .ref sp, .ref ss, .int (zi ((sn : Int))), .ref vs, .ref fr])), (ba, .inl (cA, 10, .inl (zA (bs))))] sz) := by
  refine Met.ofW (cc := cX2_bound) (maxL := 2) (ret := ((Option.some Jvm.ClassFile.FieldType.int))) (by decide) rfl ?_
  intro p e s m args below meth c s₁ B hml hv
  obtain ⟨hargs, hsz, hP, hK, hD0⟩ := hv
  have hx := B.exec
  have hb := B.bytes
  have hr := B.returns
  have hts := atoms_spec (ws := Cond.code yX2_bound cX2_bound 2 ((Option.some Jvm.ClassFile.FieldType.int)) :: gw) B.pre
  have hg : ∀ w ∈ gw, w.before args s = true := fun w h => hts w (List.mem_cons_of_mem _ h)
  have hown : s.vm.findClass RX2 = some m.cls := findClass_of_methodNamed B.named
  have hlocks := B.notSynchronized
  subst hsz
  have hD := hD0.self (sz := s.heap.size)
  generalize hAe : va_A [(x0, .inr (2, [.ref pa, .int (zi ((pn : Int))), .ref ba, .int (zi ((bn : Int))), .ref ax, .ref ay, .int (zi ((ln : Int))), .ref sp, .ref ss, .int (zi ((sn : Int))), .ref vs, .ref fr])), (ba, .inl (cA, 10, .inl (zA (bs))))] s.heap.size = A at hD ⊢
  have hA : ∀ q : Nat, s.heap.size ≤ q → A q := fun q h => by rw [← hAe]; exact Or.inr h
  show W p l e rm_X2_bound s m args below meth c s.heap [] 0 0 _ _
  have hl := lv_entry ([.ref x0, .int (zi (v))]) (n := 2) (Nat.le_of_ble_eq_true rfl)
  rw [show entryFrame m args 2 = entryFrame m ([.ref x0, .int (zi (v))] : List Value).toArray 2 by rw [hargs], lg_entry_eq]
  generalize (lg_sl ([.ref x0, .int (zi (v))]) ++ List.replicate (2 - (lg_sl ([.ref x0, .int (zi (v))])).length) Slot.unset).toArray = ls at hl ⊢
  have hl : lv_has ls 2 [(0, .ref x0), (1, .int (zi (v)))] := hl
  obtain ⟨QQ, hQQ⟩ : ∃ Q, Q = MQ below (WrQ (some (.int (zi ((bn + 1 : Nat) : Int)))) (dC, dI) vwCl [(x0, .inr (2, [.ref pa, .int (zi ((pn : Int))), .ref ba, .int (zi (((bn + 1 : Nat) : Int))), .ref ax, .ref ay, .int (zi ((ln : Int))), .ref sp, .ref ss, .int (zi ((sn : Int))), .ref vs, .ref fr])), (ba, .inl (cA, 10, .inl (zA (zupd bs (bn) (v)))))] A) args s 0 0 A := ⟨_, rfl⟩
  rw [← hQQ]
  obtain ⟨H, hHe⟩ : ∃ H : Heap, H = s.heap := ⟨_, rfl⟩
  obtain ⟨locs, hlc⟩ : ∃ x : List Loc, x = [] := ⟨_, rfl⟩
  have hS : va_S A s.heap H locs := by rw [hHe, hlc]; exact va_S.rf
  have hP : va_P (dC, dI) vwCl [(x0, .inr (2, [.ref pa, .int (zi ((pn : Int))), .ref ba, .int (zi ((bn : Int))), .ref ax, .ref ay, .int (zi ((ln : Int))), .ref sp, .ref ss, .int (zi ((sn : Int))), .ref vs, .ref fr])), (ba, .inl (cA, 10, .inl (zA (bs))))] H := by rw [hHe]; exact hP
  have hD : va_D A [(x0, .inr (2, [.ref pa, .int (zi ((pn : Int))), .ref ba, .int (zi ((bn : Int))), .ref ax, .ref ay, .int (zi ((ln : Int))), .ref sp, .ref ss, .int (zi ((sn : Int))), .ref vs, .ref fr])), (ba, .inl (cA, 10, .inl (zA (bs))))] := hD
  rw [← hHe, ← hlc]
  refine lv_iload_n hx hb dX2_bound_0 rfl (lv_at hl 1 rfl) ?_
  refine zz_if_lt (tgt := 10) hx hb (by omega) dX2_bound_1 (by decide) (fun c_1 => ?_) (fun c_1 => ?_)
  · exact False.elim (by omega)
  · refine lv_iload_n hx hb dX2_bound_4 rfl (lv_at hl 1 rfl) ?_
    refine lv_ldc (v := 1000000000) hx hb hown (hg _ wl_X2_140) dX2_bound_5 ?_
    refine zz_topi (z := 1000000000) (by decide) ?_
    refine zz_icmp_le (tgt := 20) hx hb (by omega) (by omega) dX2_bound_7 (by decide) (fun c_7 => ?_) (fun c_7 => ?_)
    · refine lv_aload_n hx hb dX2_bound_20 rfl (lv_at hl 0 rfl) ?_
      refine va_get (D := (dC, dI)) (ci := 2) (v := .int (zi ((bn : Int)))) (C := RX2) (T := TX2) (N := 12) hx hb hg inX2 hown hK hP 0 rfl rfl 3 (by decide) (hg _ wl_X2_143) (fun _ h9 => h9) rfl dX2_bound_21 ?_
      refine lv_bipush (v := zi (10)) hx hb dX2_bound_24 (by decide) ?_
      refine zz_icmp_lt (tgt := 39) hx hb (by omega) (by omega) dX2_bound_26 (by decide) (fun c_26 => ?_) (fun c_26 => ?_)
      · refine lv_aload_n hx hb dX2_bound_39 rfl (lv_at hl 0 rfl) ?_
        refine va_get (D := (dC, dI)) (ci := 2) (v := .ref ba) (C := RX2) (T := TX2) (N := 12) hx hb hg inX2 hown hK hP 0 rfl rfl 2 (by decide) (hg _ wl_X2_15) (fun _ h9 => h9) rfl dX2_bound_40 ?_
        refine lv_aload_n hx hb dX2_bound_43 rfl (lv_at hl 0 rfl) ?_
        refine va_get (D := (dC, dI)) (ci := 2) (v := .int (zi ((bn : Int)))) (C := RX2) (T := TX2) (N := 12) hx hb hg inX2 hown hK hP 0 rfl rfl 3 (by decide) (hg _ wl_X2_143) (fun _ h9 => h9) rfl dX2_bound_44 ?_
        refine lv_iload_n hx hb dX2_bound_47 rfl (lv_at hl 1 rfl) ?_
        refine zz_iast hx hb hK hP hD hS 1 0 rfl rfl (bn) (by omega) (by omega) (by decide) dX2_bound_48 (fun H locs hP hD hS => ?_)
        have hP : va_P (dC, dI) vwCl [(x0, .inr (2, [.ref pa, .int (zi ((pn : Int))), .ref ba, .int (zi ((bn : Int))), .ref ax, .ref ay, .int (zi ((ln : Int))), .ref sp, .ref ss, .int (zi ((sn : Int))), .ref vs, .ref fr])), (ba, .inl (cA, 10, .inl (zA (zupd bs (bn) (v)))))] H := hP
        have hD : va_D A [(x0, .inr (2, [.ref pa, .int (zi ((pn : Int))), .ref ba, .int (zi ((bn : Int))), .ref ax, .ref ay, .int (zi ((ln : Int))), .ref sp, .ref ss, .int (zi ((sn : Int))), .ref vs, .ref fr])), (ba, .inl (cA, 10, .inl (zA (zupd bs (bn) (v)))))] := hD
        refine lv_aload_n hx hb dX2_bound_49 rfl (lv_at hl 0 rfl) ?_
        refine lv_dup hx hb dX2_bound_50 rfl ?_
        refine va_get (D := (dC, dI)) (ci := 2) (v := .int (zi ((bn : Int)))) (C := RX2) (T := TX2) (N := 12) hx hb hg inX2 hown hK hP 0 rfl rfl 3 (by decide) (hg _ wl_X2_143) (fun _ h9 => h9) rfl dX2_bound_51 ?_
        refine lv_iconst (v := zi (1)) hx hb dX2_bound_54 rfl ?_
        refine zz_iadd hx hb dX2_bound_55 ?_
        refine zz_topi (z := ((bn + 1 : Nat) : Int)) (congrArg zi (by push_cast; rfl)) ?_
        refine va_put (D := (dC, dI)) (ci := 2) (v := .int (zi (((bn + 1 : Nat) : Int)))) (ty := .int) (C := RX2) (T := TX2) (N := 12) hx hb hg inX2 tyX2 tyX2_ok nmX2 hown hK hP hD hS 0 rfl rfl 3 (by decide) (hg _ wl_X2_143) (fun _ h9 => h9) rfl (by decide +kernel) rfl rfl (Nat.le_of_ble_eq_true rfl) dX2_bound_56 (fun H locs hP hD hS => ?_)
        have hP : va_P (dC, dI) vwCl [(x0, .inr (2, [.ref pa, .int (zi ((pn : Int))), .ref ba, .int (zi (((bn + 1 : Nat) : Int))), .ref ax, .ref ay, .int (zi ((ln : Int))), .ref sp, .ref ss, .int (zi ((sn : Int))), .ref vs, .ref fr])), (ba, .inl (cA, 10, .inl (zA (zupd bs (bn) (v)))))] H := hP
        have hD : va_D A [(x0, .inr (2, [.ref pa, .int (zi ((pn : Int))), .ref ba, .int (zi (((bn + 1 : Nat) : Int))), .ref ax, .ref ay, .int (zi ((ln : Int))), .ref sp, .ref ss, .int (zi ((sn : Int))), .ref vs, .ref fr])), (ba, .inl (cA, 10, .inl (zA (zupd bs (bn) (v)))))] := hD
        refine lv_aload_n hx hb dX2_bound_59 rfl (lv_at hl 0 rfl) ?_
        refine va_get (D := (dC, dI)) (ci := 2) (v := .int (zi (((bn + 1 : Nat) : Int)))) (C := RX2) (T := TX2) (N := 12) hx hb hg inX2 hown hK hP 0 rfl rfl 3 (by decide) (hg _ wl_X2_143) (fun _ h9 => h9) rfl dX2_bound_60 ?_
        have hP9 : va_P (dC, dI) vwCl [(x0, .inr (2, [.ref pa, .int (zi ((pn : Int))), .ref ba, .int (zi (((bn + 1 : Nat) : Int))), .ref ax, .ref ay, .int (zi ((ln : Int))), .ref sp, .ref ss, .int (zi ((sn : Int))), .ref vs, .ref fr])), (ba, .inl (cA, 10, .inl (zA (zupd bs (bn) (v)))))] H := hP
        rw [hQQ]
        exact wr_i hx hb hr hlocks rfl hP9 hS dX2_bound_63
      · exact False.elim (by omega)
    · exact False.elim (by omega)

abbrev rt_X2_rim : Room := { frames := 8, cells := 1, slots := 6, locals := 140 }
set_option maxHeartbeats 4000000 in
set_option maxRecDepth 100000 in
theorem t_rim_A (l : Launch) (hl0 : l.stackTraces = false) (dC : Nat → ClassId) (dI : Nat → Nat → Nat) (x0 pa ba ax ay sp ss vs fr : Nat) (pn bn ln sn : Nat) (x y : Int) (hln : ln ≤ 20) (h_x : -2147483648 ≤ x ∧ x < 2147483648) (h_y : -2147483648 ≤ y ∧ y < 2147483648) (hbad : ¬ (-200 ≤ x ∧ x ≤ 200 ∧ -200 ≤ y ∧ y ≤ 200)) : ThM l yX2_rim cX2_rim 3 ((Option.some Jvm.ClassFile.FieldType.int)) rt_X2_rim (PcT [.ref x0, .int (zi (x)), .int (zi (y))] (dC, dI) vwCl [(x0, .inr (2, [.ref pa, .int (zi ((pn : Int))), .ref ba, .int (zi ((bn : Int))), .ref ax, .ref ay, .int (zi ((ln : Int))), .ref sp, .ref ss, .int (zi ((sn : Int))), .ref vs, .ref fr]))] []) KA := by
  refine vx_ofW (cc := cX2_rim) (maxL := 3) (ret := ((Option.some Jvm.ClassFile.FieldType.int))) (by decide) rfl ?_
  intro p e s m args below meth c s₁ B hml hno hv
  obtain ⟨hargs, hP, hK, hE⟩ := hv
  have hx := B.exec
  have hb := B.bytes
  have hr := B.returns
  have hts := atoms_spec (ws := Cond.code yX2_rim cX2_rim 3 ((Option.some Jvm.ClassFile.FieldType.int)) :: gw) B.pre
  have hg : ∀ w ∈ gw, w.before args s = true := fun w h => hts w (List.mem_cons_of_mem _ h)
  have hown : s.vm.findClass RX2 = some m.cls := findClass_of_methodNamed B.named
  have hlocks := B.notSynchronized
  show W p l e rt_X2_rim s m args below meth c s.heap [] 0 0 _ _
  have hl := lv_entry ([.ref x0, .int (zi (x)), .int (zi (y))]) (n := 3) (Nat.le_of_ble_eq_true rfl)
  rw [show entryFrame m args 3 = entryFrame m ([.ref x0, .int (zi (x)), .int (zi (y))] : List Value).toArray 3 by rw [hargs], lg_entry_eq]
  generalize (lg_sl ([.ref x0, .int (zi (x)), .int (zi (y))]) ++ List.replicate (3 - (lg_sl ([.ref x0, .int (zi (x)), .int (zi (y))])).length) Slot.unset).toArray = ls at hl ⊢
  have hl : lv_has ls 3 [(0, .ref x0), (1, .int (zi (x))), (2, .int (zi (y)))] := hl
  obtain ⟨QQ, hQQ⟩ : ∃ Q, Q = vx_MQ below QF (XK KA) args s 1 6 (fun _ => False) := ⟨_, rfl⟩
  rw [← hQQ]
  refine lv_iload_n hx hb dX2_rim_0 rfl (lv_at hl 1 rfl) ?_
  refine lv_sipush (v := zi (-200)) hx hb dX2_rim_1 (by decide) ?_
  refine zz_icmp_lt (tgt := 28) hx hb (by omega) (by omega) dX2_rim_4 (by decide) (fun c_4 => ?_) (fun c_4 => ?_)
  · rw [hQQ]
    exact thr (K := KA) hx hb hl0 hown hE (by decide +kernel) (hg _ wl_X2_57) (hg _ wi_IllegalArgumentException) (by decide) (xh_A hg hE) xh_ot.2.1 hml hl.1 dX2_rim_28 dX2_rim_31 dX2_rim_32 dX2_rim_34 dX2_rim_37 hno hlocks (Nat.le_of_ble_eq_true rfl) (Nat.le_of_ble_eq_true rfl) (Nat.le_of_ble_eq_true rfl) (Nat.le_of_ble_eq_true rfl)
  · refine lv_iload_n hx hb dX2_rim_7 rfl (lv_at hl 1 rfl) ?_
    refine lv_sipush (v := zi (200)) hx hb dX2_rim_8 (by decide) ?_
    refine zz_icmp_gt (tgt := 28) hx hb (by omega) (by omega) dX2_rim_11 (by decide) (fun c_11 => ?_) (fun c_11 => ?_)
    · rw [hQQ]
      exact thr (K := KA) hx hb hl0 hown hE (by decide +kernel) (hg _ wl_X2_57) (hg _ wi_IllegalArgumentException) (by decide) (xh_A hg hE) xh_ot.2.1 hml hl.1 dX2_rim_28 dX2_rim_31 dX2_rim_32 dX2_rim_34 dX2_rim_37 hno hlocks (Nat.le_of_ble_eq_true rfl) (Nat.le_of_ble_eq_true rfl) (Nat.le_of_ble_eq_true rfl) (Nat.le_of_ble_eq_true rfl)
    · refine lv_iload_n hx hb dX2_rim_14 rfl (lv_at hl 2 rfl) ?_
      refine lv_sipush (v := zi (-200)) hx hb dX2_rim_15 (by decide) ?_
      refine zz_icmp_lt (tgt := 28) hx hb (by omega) (by omega) dX2_rim_18 (by decide) (fun c_18 => ?_) (fun c_18 => ?_)
      · rw [hQQ]
        exact thr (K := KA) hx hb hl0 hown hE (by decide +kernel) (hg _ wl_X2_57) (hg _ wi_IllegalArgumentException) (by decide) (xh_A hg hE) xh_ot.2.1 hml hl.1 dX2_rim_28 dX2_rim_31 dX2_rim_32 dX2_rim_34 dX2_rim_37 hno hlocks (Nat.le_of_ble_eq_true rfl) (Nat.le_of_ble_eq_true rfl) (Nat.le_of_ble_eq_true rfl) (Nat.le_of_ble_eq_true rfl)
      · refine lv_iload_n hx hb dX2_rim_21 rfl (lv_at hl 2 rfl) ?_
        refine lv_sipush (v := zi (200)) hx hb dX2_rim_22 (by decide) ?_
        refine zz_icmp_le (tgt := 38) hx hb (by omega) (by omega) dX2_rim_25 (by decide) (fun c_25 => ?_) (fun c_25 => ?_)
        · exact False.elim (by omega)
        · rw [hQQ]
          exact thr (K := KA) hx hb hl0 hown hE (by decide +kernel) (hg _ wl_X2_57) (hg _ wi_IllegalArgumentException) (by decide) (xh_A hg hE) xh_ot.2.1 hml hl.1 dX2_rim_28 dX2_rim_31 dX2_rim_32 dX2_rim_34 dX2_rim_37 hno hlocks (Nat.le_of_ble_eq_true rfl) (Nat.le_of_ble_eq_true rfl) (Nat.le_of_ble_eq_true rfl) (Nat.le_of_ble_eq_true rfl)

set_option maxHeartbeats 4000000 in
set_option maxRecDepth 100000 in
theorem t_rim_S (l : Launch) (hl0 : l.stackTraces = false) (dC : Nat → ClassId) (dI : Nat → Nat → Nat) (x0 pa ba ax ay sp ss vs fr : Nat) (pn bn ln sn : Nat) (x y : Int) (hln : ln ≤ 20) (hv : -200 ≤ x ∧ x ≤ 200 ∧ -200 ≤ y ∧ y ≤ 200) (hbad : ln = 20) : ThM l yX2_rim cX2_rim 3 ((Option.some Jvm.ClassFile.FieldType.int)) rt_X2_rim (PcT [.ref x0, .int (zi (x)), .int (zi (y))] (dC, dI) vwCl [(x0, .inr (2, [.ref pa, .int (zi ((pn : Int))), .ref ba, .int (zi ((bn : Int))), .ref ax, .ref ay, .int (zi ((ln : Int))), .ref sp, .ref ss, .int (zi ((sn : Int))), .ref vs, .ref fr]))] []) KS := by
  refine vx_ofW (cc := cX2_rim) (maxL := 3) (ret := ((Option.some Jvm.ClassFile.FieldType.int))) (by decide) rfl ?_
  intro p e s m args below meth c s₁ B hml hno hv
  obtain ⟨hargs, hP, hK, hE⟩ := hv
  have hx := B.exec
  have hb := B.bytes
  have hr := B.returns
  have hts := atoms_spec (ws := Cond.code yX2_rim cX2_rim 3 ((Option.some Jvm.ClassFile.FieldType.int)) :: gw) B.pre
  have hg : ∀ w ∈ gw, w.before args s = true := fun w h => hts w (List.mem_cons_of_mem _ h)
  have hown : s.vm.findClass RX2 = some m.cls := findClass_of_methodNamed B.named
  have hlocks := B.notSynchronized
  show W p l e rt_X2_rim s m args below meth c s.heap [] 0 0 _ _
  have hl := lv_entry ([.ref x0, .int (zi (x)), .int (zi (y))]) (n := 3) (Nat.le_of_ble_eq_true rfl)
  rw [show entryFrame m args 3 = entryFrame m ([.ref x0, .int (zi (x)), .int (zi (y))] : List Value).toArray 3 by rw [hargs], lg_entry_eq]
  generalize (lg_sl ([.ref x0, .int (zi (x)), .int (zi (y))]) ++ List.replicate (3 - (lg_sl ([.ref x0, .int (zi (x)), .int (zi (y))])).length) Slot.unset).toArray = ls at hl ⊢
  have hl : lv_has ls 3 [(0, .ref x0), (1, .int (zi (x))), (2, .int (zi (y)))] := hl
  obtain ⟨QQ, hQQ⟩ : ∃ Q, Q = vx_MQ below QF (XK KS) args s 1 6 (fun _ => False) := ⟨_, rfl⟩
  rw [← hQQ]
  refine lv_iload_n hx hb dX2_rim_0 rfl (lv_at hl 1 rfl) ?_
  refine lv_sipush (v := zi (-200)) hx hb dX2_rim_1 (by decide) ?_
  refine zz_icmp_lt (tgt := 28) hx hb (by omega) (by omega) dX2_rim_4 (by decide) (fun c_4 => ?_) (fun c_4 => ?_)
  · exact False.elim (by omega)
  · refine lv_iload_n hx hb dX2_rim_7 rfl (lv_at hl 1 rfl) ?_
    refine lv_sipush (v := zi (200)) hx hb dX2_rim_8 (by decide) ?_
    refine zz_icmp_gt (tgt := 28) hx hb (by omega) (by omega) dX2_rim_11 (by decide) (fun c_11 => ?_) (fun c_11 => ?_)
    · exact False.elim (by omega)
    · refine lv_iload_n hx hb dX2_rim_14 rfl (lv_at hl 2 rfl) ?_
      refine lv_sipush (v := zi (-200)) hx hb dX2_rim_15 (by decide) ?_
      refine zz_icmp_lt (tgt := 28) hx hb (by omega) (by omega) dX2_rim_18 (by decide) (fun c_18 => ?_) (fun c_18 => ?_)
      · exact False.elim (by omega)
      · refine lv_iload_n hx hb dX2_rim_21 rfl (lv_at hl 2 rfl) ?_
        refine lv_sipush (v := zi (200)) hx hb dX2_rim_22 (by decide) ?_
        refine zz_icmp_le (tgt := 38) hx hb (by omega) (by omega) dX2_rim_25 (by decide) (fun c_25 => ?_) (fun c_25 => ?_)
        · refine lv_aload_n hx hb dX2_rim_38 rfl (lv_at hl 0 rfl) ?_
          refine va_get (D := (dC, dI)) (ci := 2) (v := .int (zi ((ln : Int)))) (C := RX2) (T := TX2) (N := 12) hx hb hg inX2 hown hK hP 0 rfl rfl 6 (by decide) (hg _ wl_X2_150) (fun _ h9 => h9) rfl dX2_rim_39 ?_
          refine lv_bipush (v := zi (20)) hx hb dX2_rim_42 (by decide) ?_
          refine zz_icmp_lt (tgt := 57) hx hb (by omega) (by omega) dX2_rim_44 (by decide) (fun c_44 => ?_) (fun c_44 => ?_)
          · exact False.elim (by omega)
          · rw [hQQ]
            exact thr (K := KS) hx hb hl0 hown hE (by decide +kernel) (hg _ wl_X2_45) (hg _ wi_IllegalStateException) (by decide) (xh_S hg hE) xh_ot.2.2 hml hl.1 dX2_rim_47 dX2_rim_50 dX2_rim_51 dX2_rim_53 dX2_rim_56 hno hlocks (Nat.le_of_ble_eq_true rfl) (Nat.le_of_ble_eq_true rfl) (Nat.le_of_ble_eq_true rfl) (Nat.le_of_ble_eq_true rfl)
        · exact False.elim (by omega)

abbrev rm_X2_rim : Room := { frames := 6, cells := 0, slots := 0, locals := 100 }
set_option maxHeartbeats 4000000 in
set_option maxRecDepth 100000 in
theorem c_rim (l : Launch) (dC : Nat → ClassId) (dI : Nat → Nat → Nat) (sz : Nat) (x0 pa ba ax ay sp ss vs fr : Nat) (pn bn ln sn : Nat) (cA : ClassId) (xs ys : Nat → Int) (x y : Int) (hv9 : -200 ≤ x ∧ x ≤ 200 ∧ -200 ≤ y ∧ y ≤ 200) (hln : ln < 20) : Met l yX2_rim (Cond.code yX2_rim cX2_rim 3 ((Option.some Jvm.ClassFile.FieldType.int)) :: gw) rm_X2_rim (PcW [.ref x0, .int (zi (x)), .int (zi (y))] (dC, dI) vwCl [(x0, .inr (2, [.ref pa, .int (zi ((pn : Int))), .ref ba, .int (zi ((bn : Int))), .ref ax, .ref ay, .int (zi ((ln : Int))), .ref sp, .ref ss, .int (zi ((sn : Int))), .ref vs, .ref fr])), (ax, .inl (cA, 20, .inl (zA (xs)))), (ay, .inl (cA, 20, .inl (zA (ys))))] [(cA, .int)] sz) (WrQ (some (.int (zi ((ln + 1 : Nat) : Int)))) (dC, dI) vwCl [(x0, .inr (2, [.ref pa, .int (zi ((pn : Int))), .ref ba, .int (zi ((bn : Int))), .ref ax, .ref ay, .int (zi (((ln + 1 : Nat) : Int))), .ref sp, .ref ss, .int (zi ((sn : Int))), .ref vs, .ref fr])), (ax, .inl (cA, 20, .inl (zA (zupd xs (ln) (x))))), (ay, .inl (cA, 20, .inl (zA (zupd ys (ln) (y)))))] (va_A [(x0, .inr (2, [.ref pa, .int (zi ((pn : Int))), .ref ba, .int (zi ((bn : Int))), .ref ax, .ref ay, .int (zi ((ln : Int))), .ref sp, .ref ss, .int (zi ((sn : Int))), .ref vs, .ref fr])), (ax, .inl (cA, 20, .inl (zA (xs)))), (ay, .inl (cA, 20, .inl (zA (ys))))] sz)) 0 0 (va_A [(x0, .inr (2, [.ref pa, .int (zi ((pn : Int))), .ref ba, .int (zi ((bn : Int))), .ref ax, .ref ay, .int (zi ((ln : Int))), .ref sp, .ref ss, .int (zi ((sn : Int))), .ref vs, .ref fr])), (ax, .inl (cA, 20, .inl (zA (xs)))), (ay, .inl (cA, 20, .inl (zA (ys))))] sz) := by
  refine Met.ofW (cc := cX2_rim) (maxL := 3) (ret := ((Option.some Jvm.ClassFile.FieldType.int))) (by decide) rfl ?_
  intro p e s m args below meth c s₁ B hml hv
  obtain ⟨hargs, hsz, hP, hK, hD0⟩ := hv
  have hx := B.exec
  have hb := B.bytes
  have hr := B.returns
  have hts := atoms_spec (ws := Cond.code yX2_rim cX2_rim 3 ((Option.some Jvm.ClassFile.FieldType.int)) :: gw) B.pre
  have hg : ∀ w ∈ gw, w.before args s = true := fun w h => hts w (List.mem_cons_of_mem _ h)
  have hown : s.vm.findClass RX2 = some m.cls := findClass_of_methodNamed B.named
  have hlocks := B.notSynchronized
  subst hsz
  have hD := hD0.self (sz := s.heap.size)
  generalize hAe : va_A [(x0, .inr (2, [.ref pa, .int (zi ((pn : Int))), .ref ba, .int (zi ((bn : Int))), .ref ax, .ref ay, .int (zi ((ln : Int))), .ref sp, .ref ss, .int (zi ((sn : Int))), .ref vs, .ref fr])), (ax, .inl (cA, 20, .inl (zA (xs)))), (ay, .inl (cA, 20, .inl (zA (ys))))] s.heap.size = A at hD ⊢
  have hA : ∀ q : Nat, s.heap.size ≤ q → A q := fun q h => by rw [← hAe]; exact Or.inr h
  show W p l e rm_X2_rim s m args below meth c s.heap [] 0 0 _ _
  have hl := lv_entry ([.ref x0, .int (zi (x)), .int (zi (y))]) (n := 3) (Nat.le_of_ble_eq_true rfl)
  rw [show entryFrame m args 3 = entryFrame m ([.ref x0, .int (zi (x)), .int (zi (y))] : List Value).toArray 3 by rw [hargs], lg_entry_eq]
  generalize (lg_sl ([.ref x0, .int (zi (x)), .int (zi (y))]) ++ List.replicate (3 - (lg_sl ([.ref x0, .int (zi (x)), .int (zi (y))])).length) Slot.unset).toArray = ls at hl ⊢
  have hl : lv_has ls 3 [(0, .ref x0), (1, .int (zi (x))), (2, .int (zi (y)))] := hl
  obtain ⟨QQ, hQQ⟩ : ∃ Q, Q = MQ below (WrQ (some (.int (zi ((ln + 1 : Nat) : Int)))) (dC, dI) vwCl [(x0, .inr (2, [.ref pa, .int (zi ((pn : Int))), .ref ba, .int (zi ((bn : Int))), .ref ax, .ref ay, .int (zi (((ln + 1 : Nat) : Int))), .ref sp, .ref ss, .int (zi ((sn : Int))), .ref vs, .ref fr])), (ax, .inl (cA, 20, .inl (zA (zupd xs (ln) (x))))), (ay, .inl (cA, 20, .inl (zA (zupd ys (ln) (y)))))] A) args s 0 0 A := ⟨_, rfl⟩
  rw [← hQQ]
  obtain ⟨H, hHe⟩ : ∃ H : Heap, H = s.heap := ⟨_, rfl⟩
  obtain ⟨locs, hlc⟩ : ∃ x : List Loc, x = [] := ⟨_, rfl⟩
  have hS : va_S A s.heap H locs := by rw [hHe, hlc]; exact va_S.rf
  have hP : va_P (dC, dI) vwCl [(x0, .inr (2, [.ref pa, .int (zi ((pn : Int))), .ref ba, .int (zi ((bn : Int))), .ref ax, .ref ay, .int (zi ((ln : Int))), .ref sp, .ref ss, .int (zi ((sn : Int))), .ref vs, .ref fr])), (ax, .inl (cA, 20, .inl (zA (xs)))), (ay, .inl (cA, 20, .inl (zA (ys))))] H := by rw [hHe]; exact hP
  have hD : va_D A [(x0, .inr (2, [.ref pa, .int (zi ((pn : Int))), .ref ba, .int (zi ((bn : Int))), .ref ax, .ref ay, .int (zi ((ln : Int))), .ref sp, .ref ss, .int (zi ((sn : Int))), .ref vs, .ref fr])), (ax, .inl (cA, 20, .inl (zA (xs)))), (ay, .inl (cA, 20, .inl (zA (ys))))] := hD
  rw [← hHe, ← hlc]
  refine lv_iload_n hx hb dX2_rim_0 rfl (lv_at hl 1 rfl) ?_
  refine lv_sipush (v := zi (-200)) hx hb dX2_rim_1 (by decide) ?_
  refine zz_icmp_lt (tgt := 28) hx hb (by omega) (by omega) dX2_rim_4 (by decide) (fun c_4 => ?_) (fun c_4 => ?_)
  · exact False.elim (by omega)
  · refine lv_iload_n hx hb dX2_rim_7 rfl (lv_at hl 1 rfl) ?_
    refine lv_sipush (v := zi (200)) hx hb dX2_rim_8 (by decide) ?_
    refine zz_icmp_gt (tgt := 28) hx hb (by omega) (by omega) dX2_rim_11 (by decide) (fun c_11 => ?_) (fun c_11 => ?_)
    · exact False.elim (by omega)
    · refine lv_iload_n hx hb dX2_rim_14 rfl (lv_at hl 2 rfl) ?_
      refine lv_sipush (v := zi (-200)) hx hb dX2_rim_15 (by decide) ?_
      refine zz_icmp_lt (tgt := 28) hx hb (by omega) (by omega) dX2_rim_18 (by decide) (fun c_18 => ?_) (fun c_18 => ?_)
      · exact False.elim (by omega)
      · refine lv_iload_n hx hb dX2_rim_21 rfl (lv_at hl 2 rfl) ?_
        refine lv_sipush (v := zi (200)) hx hb dX2_rim_22 (by decide) ?_
        refine zz_icmp_le (tgt := 38) hx hb (by omega) (by omega) dX2_rim_25 (by decide) (fun c_25 => ?_) (fun c_25 => ?_)
        · refine lv_aload_n hx hb dX2_rim_38 rfl (lv_at hl 0 rfl) ?_
          refine va_get (D := (dC, dI)) (ci := 2) (v := .int (zi ((ln : Int)))) (C := RX2) (T := TX2) (N := 12) hx hb hg inX2 hown hK hP 0 rfl rfl 6 (by decide) (hg _ wl_X2_150) (fun _ h9 => h9) rfl dX2_rim_39 ?_
          refine lv_bipush (v := zi (20)) hx hb dX2_rim_42 (by decide) ?_
          refine zz_icmp_lt (tgt := 57) hx hb (by omega) (by omega) dX2_rim_44 (by decide) (fun c_44 => ?_) (fun c_44 => ?_)
          · refine lv_aload_n hx hb dX2_rim_57 rfl (lv_at hl 0 rfl) ?_
            refine va_get (D := (dC, dI)) (ci := 2) (v := .ref ax) (C := RX2) (T := TX2) (N := 12) hx hb hg inX2 hown hK hP 0 rfl rfl 4 (by decide) (hg _ wl_X2_19) (fun _ h9 => h9) rfl dX2_rim_58 ?_
            refine lv_aload_n hx hb dX2_rim_61 rfl (lv_at hl 0 rfl) ?_
            refine va_get (D := (dC, dI)) (ci := 2) (v := .int (zi ((ln : Int)))) (C := RX2) (T := TX2) (N := 12) hx hb hg inX2 hown hK hP 0 rfl rfl 6 (by decide) (hg _ wl_X2_150) (fun _ h9 => h9) rfl dX2_rim_62 ?_
            refine lv_iload_n hx hb dX2_rim_65 rfl (lv_at hl 1 rfl) ?_
            refine zz_iast hx hb hK hP hD hS 1 0 rfl rfl (ln) (by omega) (by omega) (by decide) dX2_rim_66 (fun H locs hP hD hS => ?_)
            have hP : va_P (dC, dI) vwCl [(x0, .inr (2, [.ref pa, .int (zi ((pn : Int))), .ref ba, .int (zi ((bn : Int))), .ref ax, .ref ay, .int (zi ((ln : Int))), .ref sp, .ref ss, .int (zi ((sn : Int))), .ref vs, .ref fr])), (ax, .inl (cA, 20, .inl (zA (zupd xs (ln) (x))))), (ay, .inl (cA, 20, .inl (zA (ys))))] H := hP
            have hD : va_D A [(x0, .inr (2, [.ref pa, .int (zi ((pn : Int))), .ref ba, .int (zi ((bn : Int))), .ref ax, .ref ay, .int (zi ((ln : Int))), .ref sp, .ref ss, .int (zi ((sn : Int))), .ref vs, .ref fr])), (ax, .inl (cA, 20, .inl (zA (zupd xs (ln) (x))))), (ay, .inl (cA, 20, .inl (zA (ys))))] := hD
            refine lv_aload_n hx hb dX2_rim_67 rfl (lv_at hl 0 rfl) ?_
            refine va_get (D := (dC, dI)) (ci := 2) (v := .ref ay) (C := RX2) (T := TX2) (N := 12) hx hb hg inX2 hown hK hP 0 rfl rfl 5 (by decide) (hg _ wl_X2_22) (fun _ h9 => h9) rfl dX2_rim_68 ?_
            refine lv_aload_n hx hb dX2_rim_71 rfl (lv_at hl 0 rfl) ?_
            refine va_get (D := (dC, dI)) (ci := 2) (v := .int (zi ((ln : Int)))) (C := RX2) (T := TX2) (N := 12) hx hb hg inX2 hown hK hP 0 rfl rfl 6 (by decide) (hg _ wl_X2_150) (fun _ h9 => h9) rfl dX2_rim_72 ?_
            refine lv_iload_n hx hb dX2_rim_75 rfl (lv_at hl 2 rfl) ?_
            refine zz_iast hx hb hK hP hD hS 2 0 rfl rfl (ln) (by omega) (by omega) (by decide) dX2_rim_76 (fun H locs hP hD hS => ?_)
            have hP : va_P (dC, dI) vwCl [(x0, .inr (2, [.ref pa, .int (zi ((pn : Int))), .ref ba, .int (zi ((bn : Int))), .ref ax, .ref ay, .int (zi ((ln : Int))), .ref sp, .ref ss, .int (zi ((sn : Int))), .ref vs, .ref fr])), (ax, .inl (cA, 20, .inl (zA (zupd xs (ln) (x))))), (ay, .inl (cA, 20, .inl (zA (zupd ys (ln) (y)))))] H := hP
            have hD : va_D A [(x0, .inr (2, [.ref pa, .int (zi ((pn : Int))), .ref ba, .int (zi ((bn : Int))), .ref ax, .ref ay, .int (zi ((ln : Int))), .ref sp, .ref ss, .int (zi ((sn : Int))), .ref vs, .ref fr])), (ax, .inl (cA, 20, .inl (zA (zupd xs (ln) (x))))), (ay, .inl (cA, 20, .inl (zA (zupd ys (ln) (y)))))] := hD
            refine lv_aload_n hx hb dX2_rim_77 rfl (lv_at hl 0 rfl) ?_
            refine lv_dup hx hb dX2_rim_78 rfl ?_
            refine va_get (D := (dC, dI)) (ci := 2) (v := .int (zi ((ln : Int)))) (C := RX2) (T := TX2) (N := 12) hx hb hg inX2 hown hK hP 0 rfl rfl 6 (by decide) (hg _ wl_X2_150) (fun _ h9 => h9) rfl dX2_rim_79 ?_
            refine lv_iconst (v := zi (1)) hx hb dX2_rim_82 rfl ?_
            refine zz_iadd hx hb dX2_rim_83 ?_
            refine zz_topi (z := ((ln + 1 : Nat) : Int)) (congrArg zi (by push_cast; rfl)) ?_
            refine va_put (D := (dC, dI)) (ci := 2) (v := .int (zi (((ln + 1 : Nat) : Int)))) (ty := .int) (C := RX2) (T := TX2) (N := 12) hx hb hg inX2 tyX2 tyX2_ok nmX2 hown hK hP hD hS 0 rfl rfl 6 (by decide) (hg _ wl_X2_150) (fun _ h9 => h9) rfl (by decide +kernel) rfl rfl (Nat.le_of_ble_eq_true rfl) dX2_rim_84 (fun H locs hP hD hS => ?_)
            have hP : va_P (dC, dI) vwCl [(x0, .inr (2, [.ref pa, .int (zi ((pn : Int))), .ref ba, .int (zi ((bn : Int))), .ref ax, .ref ay, .int (zi (((ln + 1 : Nat) : Int))), .ref sp, .ref ss, .int (zi ((sn : Int))), .ref vs, .ref fr])), (ax, .inl (cA, 20, .inl (zA (zupd xs (ln) (x))))), (ay, .inl (cA, 20, .inl (zA (zupd ys (ln) (y)))))] H := hP
            have hD : va_D A [(x0, .inr (2, [.ref pa, .int (zi ((pn : Int))), .ref ba, .int (zi ((bn : Int))), .ref ax, .ref ay, .int (zi (((ln + 1 : Nat) : Int))), .ref sp, .ref ss, .int (zi ((sn : Int))), .ref vs, .ref fr])), (ax, .inl (cA, 20, .inl (zA (zupd xs (ln) (x))))), (ay, .inl (cA, 20, .inl (zA (zupd ys (ln) (y)))))] := hD
            refine lv_aload_n hx hb dX2_rim_87 rfl (lv_at hl 0 rfl) ?_
            refine va_get (D := (dC, dI)) (ci := 2) (v := .int (zi (((ln + 1 : Nat) : Int)))) (C := RX2) (T := TX2) (N := 12) hx hb hg inX2 hown hK hP 0 rfl rfl 6 (by decide) (hg _ wl_X2_150) (fun _ h9 => h9) rfl dX2_rim_88 ?_
            have hP9 : va_P (dC, dI) vwCl [(x0, .inr (2, [.ref pa, .int (zi ((pn : Int))), .ref ba, .int (zi ((bn : Int))), .ref ax, .ref ay, .int (zi (((ln + 1 : Nat) : Int))), .ref sp, .ref ss, .int (zi ((sn : Int))), .ref vs, .ref fr])), (ax, .inl (cA, 20, .inl (zA (zupd xs (ln) (x))))), (ay, .inl (cA, 20, .inl (zA (zupd ys (ln) (y)))))] H := hP
            rw [hQQ]
            exact wr_i hx hb hr hlocks rfl hP9 hS dX2_rim_91
          · exact False.elim (by omega)
        · exact False.elim (by omega)

abbrev rm_X2_clear : Room := { frames := 0, cells := 0, slots := 0, locals := 0 }
set_option maxHeartbeats 4000000 in
set_option maxRecDepth 100000 in
theorem c_clear (l : Launch) (dC : Nat → ClassId) (dI : Nat → Nat → Nat) (sz : Nat) (x0 pa ba ax ay sp ss vs fr : Nat) (pn bn ln sn : Nat)  : Met l yX2_clear (Cond.code yX2_clear cX2_clear 2 ((Option.some Jvm.ClassFile.FieldType.int)) :: gw) rm_X2_clear (PcW [.ref x0] (dC, dI) vwCl [(x0, .inr (2, [.ref pa, .int (zi ((pn : Int))), .ref ba, .int (zi ((bn : Int))), .ref ax, .ref ay, .int (zi ((ln : Int))), .ref sp, .ref ss, .int (zi ((sn : Int))), .ref vs, .ref fr]))] [] sz) (WrQ (some (.int (zi (ln : Int)))) (dC, dI) vwCl [(x0, .inr (2, [.ref pa, .int (zi ((pn : Int))), .ref ba, .int (zi ((bn : Int))), .ref ax, .ref ay, .int (zi (0)), .ref sp, .ref ss, .int (zi ((sn : Int))), .ref vs, .ref fr]))] (va_A [(x0, .inr (2, [.ref pa, .int (zi ((pn : Int))), .ref ba, .int (zi ((bn : Int))), .ref ax, .ref ay, .int (zi ((ln : Int))), .ref sp, .ref ss, .int (zi ((sn : Int))), .ref vs, .ref fr]))] sz)) 0 0 (va_A [(x0, .inr (2, [.ref pa, .int (zi ((pn : Int))), .ref ba, .int (zi ((bn : Int))), .ref ax, .ref ay, .int (zi ((ln : Int))), .ref sp, .ref ss, .int (zi ((sn : Int))), .ref vs, .ref fr]))] sz) := by
  refine Met.ofW (cc := cX2_clear) (maxL := 2) (ret := ((Option.some Jvm.ClassFile.FieldType.int))) (by decide) rfl ?_
  intro p e s m args below meth c s₁ B hml hv
  obtain ⟨hargs, hsz, hP, hK, hD0⟩ := hv
  have hx := B.exec
  have hb := B.bytes
  have hr := B.returns
  have hts := atoms_spec (ws := Cond.code yX2_clear cX2_clear 2 ((Option.some Jvm.ClassFile.FieldType.int)) :: gw) B.pre
  have hg : ∀ w ∈ gw, w.before args s = true := fun w h => hts w (List.mem_cons_of_mem _ h)
  have hown : s.vm.findClass RX2 = some m.cls := findClass_of_methodNamed B.named
  have hlocks := B.notSynchronized
  subst hsz
  have hD := hD0.self (sz := s.heap.size)
  generalize hAe : va_A [(x0, .inr (2, [.ref pa, .int (zi ((pn : Int))), .ref ba, .int (zi ((bn : Int))), .ref ax, .ref ay, .int (zi ((ln : Int))), .ref sp, .ref ss, .int (zi ((sn : Int))), .ref vs, .ref fr]))] s.heap.size = A at hD ⊢
  have hA : ∀ q : Nat, s.heap.size ≤ q → A q := fun q h => by rw [← hAe]; exact Or.inr h
  show W p l e rm_X2_clear s m args below meth c s.heap [] 0 0 _ _
  have hl := lv_entry ([.ref x0]) (n := 2) (Nat.le_of_ble_eq_true rfl)
  rw [show entryFrame m args 2 = entryFrame m ([.ref x0] : List Value).toArray 2 by rw [hargs], lg_entry_eq]
  generalize (lg_sl ([.ref x0]) ++ List.replicate (2 - (lg_sl ([.ref x0])).length) Slot.unset).toArray = ls at hl ⊢
  have hl : lv_has ls 2 [(0, .ref x0)] := hl
  obtain ⟨QQ, hQQ⟩ : ∃ Q, Q = MQ below (WrQ (some (.int (zi (ln : Int)))) (dC, dI) vwCl [(x0, .inr (2, [.ref pa, .int (zi ((pn : Int))), .ref ba, .int (zi ((bn : Int))), .ref ax, .ref ay, .int (zi (0)), .ref sp, .ref ss, .int (zi ((sn : Int))), .ref vs, .ref fr]))] A) args s 0 0 A := ⟨_, rfl⟩
  rw [← hQQ]
  obtain ⟨H, hHe⟩ : ∃ H : Heap, H = s.heap := ⟨_, rfl⟩
  obtain ⟨locs, hlc⟩ : ∃ x : List Loc, x = [] := ⟨_, rfl⟩
  have hS : va_S A s.heap H locs := by rw [hHe, hlc]; exact va_S.rf
  have hP : va_P (dC, dI) vwCl [(x0, .inr (2, [.ref pa, .int (zi ((pn : Int))), .ref ba, .int (zi ((bn : Int))), .ref ax, .ref ay, .int (zi ((ln : Int))), .ref sp, .ref ss, .int (zi ((sn : Int))), .ref vs, .ref fr]))] H := by rw [hHe]; exact hP
  have hD : va_D A [(x0, .inr (2, [.ref pa, .int (zi ((pn : Int))), .ref ba, .int (zi ((bn : Int))), .ref ax, .ref ay, .int (zi ((ln : Int))), .ref sp, .ref ss, .int (zi ((sn : Int))), .ref vs, .ref fr]))] := hD
  rw [← hHe, ← hlc]
  refine lv_aload_n hx hb dX2_clear_0 rfl (lv_at hl 0 rfl) ?_
  refine va_get (D := (dC, dI)) (ci := 2) (v := .int (zi ((ln : Int)))) (C := RX2) (T := TX2) (N := 12) hx hb hg inX2 hown hK hP 0 rfl rfl 6 (by decide) (hg _ wl_X2_150) (fun _ h9 => h9) rfl dX2_clear_1 ?_
  refine lv_istore_n (lv' := [(1, .int (zi ((ln : Int)))), (0, .ref x0)]) hx hb dX2_clear_4 rfl hl (by decide) rfl (fun ls hl => ?_)
  refine lv_aload_n hx hb dX2_clear_5 rfl (lv_at hl 1 rfl) ?_
  refine lv_iconst (v := zi (0)) hx hb dX2_clear_6 rfl ?_
  refine va_put (D := (dC, dI)) (ci := 2) (v := .int (zi (0))) (ty := .int) (C := RX2) (T := TX2) (N := 12) hx hb hg inX2 tyX2 tyX2_ok nmX2 hown hK hP hD hS 0 rfl rfl 6 (by decide) (hg _ wl_X2_150) (fun _ h9 => h9) rfl (by decide +kernel) rfl rfl (Nat.le_of_ble_eq_true rfl) dX2_clear_7 (fun H locs hP hD hS => ?_)
  have hP : va_P (dC, dI) vwCl [(x0, .inr (2, [.ref pa, .int (zi ((pn : Int))), .ref ba, .int (zi ((bn : Int))), .ref ax, .ref ay, .int (zi (0)), .ref sp, .ref ss, .int (zi ((sn : Int))), .ref vs, .ref fr]))] H := hP
  have hD : va_D A [(x0, .inr (2, [.ref pa, .int (zi ((pn : Int))), .ref ba, .int (zi ((bn : Int))), .ref ax, .ref ay, .int (zi (0)), .ref sp, .ref ss, .int (zi ((sn : Int))), .ref vs, .ref fr]))] := hD
  refine lv_iload_n hx hb dX2_clear_10 rfl (lv_at hl 0 rfl) ?_
  have hP9 : va_P (dC, dI) vwCl [(x0, .inr (2, [.ref pa, .int (zi ((pn : Int))), .ref ba, .int (zi ((bn : Int))), .ref ax, .ref ay, .int (zi (0)), .ref sp, .ref ss, .int (zi ((sn : Int))), .ref vs, .ref fr]))] H := hP
  rw [hQQ]
  exact wr_i hx hb hr hlocks rfl hP9 hS dX2_clear_11

abbrev rt_X2_count : Room := { frames := 8, cells := 1, slots := 6, locals := 140 }
set_option maxHeartbeats 4000000 in
set_option maxRecDepth 100000 in
theorem t_count_I (l : Launch) (hl0 : l.stackTraces = false) (dC : Nat → ClassId) (dI : Nat → Nat → Nat) (x0 pa ba ax ay sp ss vs fr : Nat) (pn bn ln sn : Nat) (what : Int) (h_what : -2147483648 ≤ what ∧ what < 2147483648) (hbad : ¬ (0 ≤ what ∧ what ≤ 3)) : ThM l yX2_count cX2_count 2 ((Option.some Jvm.ClassFile.FieldType.int)) rt_X2_count (PcT [.ref x0, .int (zi (what))] (dC, dI) vwCl [(x0, .inr (2, [.ref pa, .int (zi ((pn : Int))), .ref ba, .int (zi ((bn : Int))), .ref ax, .ref ay, .int (zi ((ln : Int))), .ref sp, .ref ss, .int (zi ((sn : Int))), .ref vs, .ref fr]))] []) KI := by
  refine vx_ofW (cc := cX2_count) (maxL := 2) (ret := ((Option.some Jvm.ClassFile.FieldType.int))) (by decide) rfl ?_
  intro p e s m args below meth c s₁ B hml hno hv
  obtain ⟨hargs, hP, hK, hE⟩ := hv
  have hx := B.exec
  have hb := B.bytes
  have hr := B.returns
  have hts := atoms_spec (ws := Cond.code yX2_count cX2_count 2 ((Option.some Jvm.ClassFile.FieldType.int)) :: gw) B.pre
  have hg : ∀ w ∈ gw, w.before args s = true := fun w h => hts w (List.mem_cons_of_mem _ h)
  have hown : s.vm.findClass RX2 = some m.cls := findClass_of_methodNamed B.named
  have hlocks := B.notSynchronized
  show W p l e rt_X2_count s m args below meth c s.heap [] 0 0 _ _
  have hl := lv_entry ([.ref x0, .int (zi (what))]) (n := 2) (Nat.le_of_ble_eq_true rfl)
  rw [show entryFrame m args 2 = entryFrame m ([.ref x0, .int (zi (what))] : List Value).toArray 2 by rw [hargs], lg_entry_eq]
  generalize (lg_sl ([.ref x0, .int (zi (what))]) ++ List.replicate (2 - (lg_sl ([.ref x0, .int (zi (what))])).length) Slot.unset).toArray = ls at hl ⊢
  have hl : lv_has ls 2 [(0, .ref x0), (1, .int (zi (what)))] := hl
  obtain ⟨QQ, hQQ⟩ : ∃ Q, Q = vx_MQ below QF (XK KI) args s 1 6 (fun _ => False) := ⟨_, rfl⟩
  rw [← hQQ]
  refine lv_iload_n hx hb dX2_count_0 rfl (lv_at hl 1 rfl) ?_
  have ht_ : (zi (what)).toInt = what := zi_toInt (by omega) (by omega)
  by_cases hs_ : what < 0 ∨ 3 < what
  · refine lv_tableOut (tgt := 52) hx hb dX2_count_1 (by rw [ht_]; exact hs_) (by decide) ?_
    rw [hQQ]
    exact thr (K := KI) hx hb hl0 hown hE (by decide +kernel) (hg _ wl_X2_81) (hg _ wi_IndexOutOfBoundsException) (by decide) (xh_I hg hE) xh_ot.1 hml hl.1 dX2_count_52 dX2_count_55 dX2_count_56 dX2_count_58 dX2_count_61 hno hlocks (Nat.le_of_ble_eq_true rfl) (Nat.le_of_ble_eq_true rfl) (Nat.le_of_ble_eq_true rfl) (Nat.le_of_ble_eq_true rfl)
  · rcases (show what = 0 ∨ what = 1 ∨ what = 2 ∨ what = 3 by omega) with hq_ | hq_ | hq_ | hq_
    · exact False.elim (by omega)
    · exact False.elim (by omega)
    · exact False.elim (by omega)
    · exact False.elim (by omega)

abbrev rm_X2_count : Room := { frames := 6, cells := 0, slots := 0, locals := 100 }
set_option maxHeartbeats 4000000 in
set_option maxRecDepth 100000 in
theorem c_count (l : Launch) (dC : Nat → ClassId) (dI : Nat → Nat → Nat) (x0 pa ba ax ay sp ss vs fr : Nat) (pn bn ln sn : Nat) (what : Int) (hw9 : 0 ≤ what ∧ what ≤ 3) : Met l yX2_count (Cond.code yX2_count cX2_count 2 ((Option.some Jvm.ClassFile.FieldType.int)) :: gw) rm_X2_count (PcR [.ref x0, .int (zi (what))] (dC, dI) vwCl [(x0, .inr (2, [.ref pa, .int (zi ((pn : Int))), .ref ba, .int (zi ((bn : Int))), .ref ax, .ref ay, .int (zi ((ln : Int))), .ref sp, .ref ss, .int (zi ((sn : Int))), .ref vs, .ref fr]))] []) (RdQ (some (.int (zi (if what = 0 then (pn : Int) else if what = 1 then (bn : Int) else if what = 2 then (ln : Int) else (sn : Int)))))) 0 0 (fun _ => False) := by
  refine Met.ofW (cc := cX2_count) (maxL := 2) (ret := ((Option.some Jvm.ClassFile.FieldType.int))) (by decide) rfl ?_
  intro p e s m args below meth c s₁ B hml hv
  obtain ⟨hargs, hP, hK⟩ := hv
  have hx := B.exec
  have hb := B.bytes
  have hr := B.returns
  have hts := atoms_spec (ws := Cond.code yX2_count cX2_count 2 ((Option.some Jvm.ClassFile.FieldType.int)) :: gw) B.pre
  have hg : ∀ w ∈ gw, w.before args s = true := fun w h => hts w (List.mem_cons_of_mem _ h)
  have hown : s.vm.findClass RX2 = some m.cls := findClass_of_methodNamed B.named
  have hlocks := B.notSynchronized
  show W p l e rm_X2_count s m args below meth c s.heap [] 0 0 _ _
  have hl := lv_entry ([.ref x0, .int (zi (what))]) (n := 2) (Nat.le_of_ble_eq_true rfl)
  rw [show entryFrame m args 2 = entryFrame m ([.ref x0, .int (zi (what))] : List Value).toArray 2 by rw [hargs], lg_entry_eq]
  generalize (lg_sl ([.ref x0, .int (zi (what))]) ++ List.replicate (2 - (lg_sl ([.ref x0, .int (zi (what))])).length) Slot.unset).toArray = ls at hl ⊢
  have hl : lv_has ls 2 [(0, .ref x0), (1, .int (zi (what)))] := hl
  obtain ⟨QQ, hQQ⟩ : ∃ Q, Q = MQ below (RdQ (some (.int (zi (if what = 0 then (pn : Int) else if what = 1 then (bn : Int) else if what = 2 then (ln : Int) else (sn : Int)))))) args s 0 0 (fun _ => False) := ⟨_, rfl⟩
  rw [← hQQ]
  refine lv_iload_n hx hb dX2_count_0 rfl (lv_at hl 1 rfl) ?_
  have ht_ : (zi (what)).toInt = what := zi_toInt (by omega) (by omega)
  by_cases hs_ : what < 0 ∨ 3 < what
  · exact False.elim (by omega)
  · rcases (show what = 0 ∨ what = 1 ∨ what = 2 ∨ what = 3 by omega) with hq_ | hq_ | hq_ | hq_
    · refine lv_tableIn (tgt := 32) hx hb dX2_count_1 (by rw [ht_, hq_]; decide) (by rw [ht_, hq_]; decide) (by rw [ht_, hq_]; rfl) (by decide) ?_
      refine lv_aload_n hx hb dX2_count_32 rfl (lv_at hl 0 rfl) ?_
      refine va_get (D := (dC, dI)) (ci := 2) (v := .int (zi ((pn : Int)))) (C := RX2) (T := TX2) (N := 12) hx hb hg inX2 hown hK hP 0 rfl rfl 1 (by decide) (hg _ wl_X2_41) (fun _ h9 => h9) rfl dX2_count_33 ?_
      rw [hQQ]
      exact rd_i hx hb hr hlocks (by subst hq_; rfl) dX2_count_36
    · refine lv_tableIn (tgt := 37) hx hb dX2_count_1 (by rw [ht_, hq_]; decide) (by rw [ht_, hq_]; decide) (by rw [ht_, hq_]; rfl) (by decide) ?_
      refine lv_aload_n hx hb dX2_count_37 rfl (lv_at hl 0 rfl) ?_
      refine va_get (D := (dC, dI)) (ci := 2) (v := .int (zi ((bn : Int)))) (C := RX2) (T := TX2) (N := 12) hx hb hg inX2 hown hK hP 0 rfl rfl 3 (by decide) (hg _ wl_X2_143) (fun _ h9 => h9) rfl dX2_count_38 ?_
      rw [hQQ]
      exact rd_i hx hb hr hlocks (by subst hq_; rfl) dX2_count_41
    · refine lv_tableIn (tgt := 42) hx hb dX2_count_1 (by rw [ht_, hq_]; decide) (by rw [ht_, hq_]; decide) (by rw [ht_, hq_]; rfl) (by decide) ?_
      refine lv_aload_n hx hb dX2_count_42 rfl (lv_at hl 0 rfl) ?_
      refine va_get (D := (dC, dI)) (ci := 2) (v := .int (zi ((ln : Int)))) (C := RX2) (T := TX2) (N := 12) hx hb hg inX2 hown hK hP 0 rfl rfl 6 (by decide) (hg _ wl_X2_150) (fun _ h9 => h9) rfl dX2_count_43 ?_
      rw [hQQ]
      exact rd_i hx hb hr hlocks (by subst hq_; rfl) dX2_count_46
    · refine lv_tableIn (tgt := 47) hx hb dX2_count_1 (by rw [ht_, hq_]; decide) (by rw [ht_, hq_]; decide) (by rw [ht_, hq_]; rfl) (by decide) ?_
      refine lv_aload_n hx hb dX2_count_47 rfl (lv_at hl 0 rfl) ?_
      refine va_get (D := (dC, dI)) (ci := 2) (v := .int (zi ((sn : Int)))) (C := RX2) (T := TX2) (N := 12) hx hb hg inX2 hown hK hP 0 rfl rfl 9 (by decide) (hg _ wl_X2_173) (fun _ h9 => h9) rfl dX2_count_48 ?_
      rw [hQQ]
      exact rd_i hx hb hr hlocks (by subst hq_; rfl) dX2_count_51

abbrev rm_X2_size : Room := { frames := 7, cells := 0, slots := 0, locals := 162 }
set_option maxHeartbeats 4000000 in
set_option maxRecDepth 100000 in
theorem c_size (l : Launch) (dC : Nat → ClassId) (dI : Nat → Nat → Nat) (sz : Nat) (x0 pa ba ax ay sp ss vs fr : Nat) (pn bn ln sn : Nat)(cQ : ClassId) (pf : Nat → Option Nat) (h0 h1 h2 : Nat) (cA : ClassId) (n : Nat) (th wc : Int) (hs rs : Nat → Int) (j : Nat) (a b : Int) (bs : Nat → Int) (hn : n ≤ 12) (hH : ∀ j, 0 ≤ hs j ∧ hs j ≤ 400) (hR : ∀ j, 0 ≤ rs j ∧ rs j ≤ 200) (hj : j < 6) (hf : pf j = some h0) (hth : 0 ≤ th ∧ th ≤ 50) (hok : p_oks n hs rs th (hs 0 + th) 400) (hsm : p_small (p_sum hs rs th (hs 0 + th) 400 (n - 1))) (hbn : bn ≤ 10) (hbs : ∀ j, 0 ≤ bs j ∧ bs j ≤ 1000000000) : Met l yX2_size (Cond.code yX2_size cX2_size 6 ((Option.some Jvm.ClassFile.FieldType.int)) :: gw) rm_X2_size (PcW [.ref x0, .int (zi ((j : Int)))] (dC, dI) vwCl [(x0, .inr (2, [.ref pa, .int (zi ((pn : Int))), .ref ba, .int (zi ((bn : Int))), .ref ax, .ref ay, .int (zi ((ln : Int))), .ref sp, .ref ss, .int (zi ((sn : Int))), .ref vs, .ref fr])), (pa, .inl (cQ, 6, .inr (.inr (.inr (.inr (pf)))))), (h0, .inr (1, [.ref h1, .ref h2, .int (zi ((n : Int))), .int (zi (th)), .int (zi (wc))])), (h1, .inl (cA, 12, .inl (zA (hs)))), (h2, .inl (cA, 12, .inl (zA (rs)))), (fr, .inr (0, [.long (zl (a)), .long (zl (b))])), (ba, .inl (cA, 10, .inl (zA (bs))))] [(cQ, .object "PotVolumes$Profile"), (cA, .int)] sz) (WrQ (some (.int (zi ((s_cnt bs (p_encl (p_sum hs rs th (hs 0 + th) 400 (n - 1)) 0) bn : Nat) : Int)))) (dC, dI) vwCl [(x0, .inr (2, [.ref pa, .int (zi ((pn : Int))), .ref ba, .int (zi ((bn : Int))), .ref ax, .ref ay, .int (zi ((ln : Int))), .ref sp, .ref ss, .int (zi ((sn : Int))), .ref vs, .ref fr])), (pa, .inl (cQ, 6, .inr (.inr (.inr (.inr (pf)))))), (h0, .inr (1, [.ref h1, .ref h2, .int (zi ((n : Int))), .int (zi (th)), .int (zi (wc))])), (h1, .inl (cA, 12, .inl (zA (hs)))), (h2, .inl (cA, 12, .inl (zA (rs)))), (fr, .inr (0, [.long (zl ((((p_sum hs rs th (hs 0 + th) (400) (n - 1)).1 : Nat) : Int))), .long (zl ((((p_sum hs rs th (hs 0 + th) (400) (n - 1)).2 : Nat) : Int)))])), (ba, .inl (cA, 10, .inl (zA (bs))))] (va_A [(x0, .inr (2, [.ref pa, .int (zi ((pn : Int))), .ref ba, .int (zi ((bn : Int))), .ref ax, .ref ay, .int (zi ((ln : Int))), .ref sp, .ref ss, .int (zi ((sn : Int))), .ref vs, .ref fr])), (pa, .inl (cQ, 6, .inr (.inr (.inr (.inr (pf)))))), (h0, .inr (1, [.ref h1, .ref h2, .int (zi ((n : Int))), .int (zi (th)), .int (zi (wc))])), (h1, .inl (cA, 12, .inl (zA (hs)))), (h2, .inl (cA, 12, .inl (zA (rs)))), (fr, .inr (0, [.long (zl (a)), .long (zl (b))])), (ba, .inl (cA, 10, .inl (zA (bs))))] sz)) 0 0 (va_A [(x0, .inr (2, [.ref pa, .int (zi ((pn : Int))), .ref ba, .int (zi ((bn : Int))), .ref ax, .ref ay, .int (zi ((ln : Int))), .ref sp, .ref ss, .int (zi ((sn : Int))), .ref vs, .ref fr])), (pa, .inl (cQ, 6, .inr (.inr (.inr (.inr (pf)))))), (h0, .inr (1, [.ref h1, .ref h2, .int (zi ((n : Int))), .int (zi (th)), .int (zi (wc))])), (h1, .inl (cA, 12, .inl (zA (hs)))), (h2, .inl (cA, 12, .inl (zA (rs)))), (fr, .inr (0, [.long (zl (a)), .long (zl (b))])), (ba, .inl (cA, 10, .inl (zA (bs))))] sz) := by
  refine Met.ofW (cc := cX2_size) (maxL := 6) (ret := ((Option.some Jvm.ClassFile.FieldType.int))) (by decide) rfl ?_
  intro p e s m args below meth c s₁ B hml hv
  obtain ⟨hargs, hsz, hP, hK, hD0⟩ := hv
  have hx := B.exec
  have hb := B.bytes
  have hr := B.returns
  have hts := atoms_spec (ws := Cond.code yX2_size cX2_size 6 ((Option.some Jvm.ClassFile.FieldType.int)) :: gw) B.pre
  have hg : ∀ w ∈ gw, w.before args s = true := fun w h => hts w (List.mem_cons_of_mem _ h)
  have hown : s.vm.findClass RX2 = some m.cls := findClass_of_methodNamed B.named
  have hlocks := B.notSynchronized
  subst hsz
  have hD := hD0.self (sz := s.heap.size)
  generalize hAe : va_A [(x0, .inr (2, [.ref pa, .int (zi ((pn : Int))), .ref ba, .int (zi ((bn : Int))), .ref ax, .ref ay, .int (zi ((ln : Int))), .ref sp, .ref ss, .int (zi ((sn : Int))), .ref vs, .ref fr])), (pa, .inl (cQ, 6, .inr (.inr (.inr (.inr (pf)))))), (h0, .inr (1, [.ref h1, .ref h2, .int (zi ((n : Int))), .int (zi (th)), .int (zi (wc))])), (h1, .inl (cA, 12, .inl (zA (hs)))), (h2, .inl (cA, 12, .inl (zA (rs)))), (fr, .inr (0, [.long (zl (a)), .long (zl (b))])), (ba, .inl (cA, 10, .inl (zA (bs))))] s.heap.size = A at hD ⊢
  have hA : ∀ q : Nat, s.heap.size ≤ q → A q := fun q h => by rw [← hAe]; exact Or.inr h
  show W p l e rm_X2_size s m args below meth c s.heap [] 0 0 _ _
  have hl := lv_entry ([.ref x0, .int (zi ((j : Int)))]) (n := 6) (Nat.le_of_ble_eq_true rfl)
  rw [show entryFrame m args 6 = entryFrame m ([.ref x0, .int (zi ((j : Int)))] : List Value).toArray 6 by rw [hargs], lg_entry_eq]
  generalize (lg_sl ([.ref x0, .int (zi ((j : Int)))]) ++ List.replicate (6 - (lg_sl ([.ref x0, .int (zi ((j : Int)))])).length) Slot.unset).toArray = ls at hl ⊢
  have hl : lv_has ls 6 [(0, .ref x0), (1, .int (zi ((j : Int))))] := hl
  obtain ⟨QQ, hQQ⟩ : ∃ Q, Q = MQ below (WrQ (some (.int (zi ((s_cnt bs (p_encl (p_sum hs rs th (hs 0 + th) 400 (n - 1)) 0) bn : Nat) : Int)))) (dC, dI) vwCl [(x0, .inr (2, [.ref pa, .int (zi ((pn : Int))), .ref ba, .int (zi ((bn : Int))), .ref ax, .ref ay, .int (zi ((ln : Int))), .ref sp, .ref ss, .int (zi ((sn : Int))), .ref vs, .ref fr])), (pa, .inl (cQ, 6, .inr (.inr (.inr (.inr (pf)))))), (h0, .inr (1, [.ref h1, .ref h2, .int (zi ((n : Int))), .int (zi (th)), .int (zi (wc))])), (h1, .inl (cA, 12, .inl (zA (hs)))), (h2, .inl (cA, 12, .inl (zA (rs)))), (fr, .inr (0, [.long (zl ((((p_sum hs rs th (hs 0 + th) (400) (n - 1)).1 : Nat) : Int))), .long (zl ((((p_sum hs rs th (hs 0 + th) (400) (n - 1)).2 : Nat) : Int)))])), (ba, .inl (cA, 10, .inl (zA (bs))))] A) args s 0 0 A := ⟨_, rfl⟩
  rw [← hQQ]
  obtain ⟨H, hHe⟩ : ∃ H : Heap, H = s.heap := ⟨_, rfl⟩
  obtain ⟨locs, hlc⟩ : ∃ x : List Loc, x = [] := ⟨_, rfl⟩
  have hS : va_S A s.heap H locs := by rw [hHe, hlc]; exact va_S.rf
  have hP : va_P (dC, dI) vwCl [(x0, .inr (2, [.ref pa, .int (zi ((pn : Int))), .ref ba, .int (zi ((bn : Int))), .ref ax, .ref ay, .int (zi ((ln : Int))), .ref sp, .ref ss, .int (zi ((sn : Int))), .ref vs, .ref fr])), (pa, .inl (cQ, 6, .inr (.inr (.inr (.inr (pf)))))), (h0, .inr (1, [.ref h1, .ref h2, .int (zi ((n : Int))), .int (zi (th)), .int (zi (wc))])), (h1, .inl (cA, 12, .inl (zA (hs)))), (h2, .inl (cA, 12, .inl (zA (rs)))), (fr, .inr (0, [.long (zl (a)), .long (zl (b))])), (ba, .inl (cA, 10, .inl (zA (bs))))] H := by rw [hHe]; exact hP
  have hD : va_D A [(x0, .inr (2, [.ref pa, .int (zi ((pn : Int))), .ref ba, .int (zi ((bn : Int))), .ref ax, .ref ay, .int (zi ((ln : Int))), .ref sp, .ref ss, .int (zi ((sn : Int))), .ref vs, .ref fr])), (pa, .inl (cQ, 6, .inr (.inr (.inr (.inr (pf)))))), (h0, .inr (1, [.ref h1, .ref h2, .int (zi ((n : Int))), .int (zi (th)), .int (zi (wc))])), (h1, .inl (cA, 12, .inl (zA (hs)))), (h2, .inl (cA, 12, .inl (zA (rs)))), (fr, .inr (0, [.long (zl (a)), .long (zl (b))])), (ba, .inl (cA, 10, .inl (zA (bs))))] := hD
  rw [← hHe, ← hlc]
  obtain ⟨vv, hvv⟩ : ∃ z, z = p_encl (p_sum hs rs th (hs 0 + th) 400 (n - 1)) 0 := ⟨_, rfl⟩
  have hvb : 0 ≤ vv ∧ vv < 4611686018427387904 := by
    rw [hvv]; unfold p_encl; rw [if_pos rfl]
    have hq : (p_sum hs rs th (hs 0 + th) 400 (n - 1)).1 * 314159265 / (p_sum hs rs th (hs 0 + th) 400 (n - 1)).2 ≤ 6283185300000000 := by
      apply Nat.div_le_of_le_mul
      have := hsm.2.2
      omega
    generalize (p_sum hs rs th (hs 0 + th) 400 (n - 1)).1 * 314159265 / (p_sum hs rs th (hs 0 + th) 400 (n - 1)).2 = z at hq ⊢
    omega
  have hcn := s_cnt_le bs vv
  refine lv_aload_n hx hb dX2_size_0 rfl (lv_at hl 0 rfl) ?_
  refine lv_iload_n hx hb dX2_size_1 rfl (lv_at hl 1 rfl) ?_
  refine rdV (As := [.int (zi ((j : Int)))]) (rest := []) (n := 1) hx hb hml hown hg (c_X2_profileOf l dC dI x0 pa ba ax ay sp ss vs fr pn bn ln sn cQ pf j h0 hj hf) (gwV wl_X2_53 wm_X2_profileOf we_X2_profileOf wi_X2 wc_X2_profileOf) rfl rfl (by decide +kernel) ⟨Nat.le_of_ble_eq_true rfl, Nat.le_of_ble_eq_true rfl⟩ (hK.sub [0] rfl) (hP.sub [0, 1] rfl) 0 rfl rfl rfl rfl hl.1 rfl (Nat.le_of_ble_eq_true rfl) dX2_size_2 ⟨Nat.zero_le _, Nat.zero_le _⟩ ?_
  refine lv_aload_n hx hb dX2_size_5 rfl (lv_at hl 0 rfl) ?_
  refine va_get (D := (dC, dI)) (ci := 2) (v := .ref fr) (C := RX2) (T := TX2) (N := 12) hx hb hg inX2 hown hK hP 0 rfl rfl 11 (by decide) (hg _ wl_X2_37) (fun _ h9 => h9) rfl dX2_size_6 ?_
  refine lv_sipush (v := zi (400)) hx hb dX2_size_9 (by decide) ?_
  refine wrV (As := [.ref fr, .int (zi (400))]) (rest := []) (n := 2) (ws' := [(x0, .inr (2, [.ref pa, .int (zi ((pn : Int))), .ref ba, .int (zi ((bn : Int))), .ref ax, .ref ay, .int (zi ((ln : Int))), .ref sp, .ref ss, .int (zi ((sn : Int))), .ref vs, .ref fr])), (pa, .inl (cQ, 6, .inr (.inr (.inr (.inr (pf)))))), (h0, .inr (1, [.ref h1, .ref h2, .int (zi ((n : Int))), .int (zi (th)), .int (zi (wc))])), (h1, .inl (cA, 12, .inl (zA (hs)))), (h2, .inl (cA, 12, .inl (zA (rs)))), (fr, .inr (0, [.long (zl ((((p_sum hs rs th (hs 0 + th) (400) (n - 1)).1 : Nat) : Int))), .long (zl ((((p_sum hs rs th (hs 0 + th) (400) (n - 1)).2 : Nat) : Int)))])), (ba, .inl (cA, 10, .inl (zA (bs))))]) hx hb hml hown hg (c_X1_measureHeld l dC dI H.size h0 h1 h2 cA n th wc hs rs fr a b (400) hn hH hR hth (by decide) hok) (gwV wl_X2_104 wm_X1_measureHeld we_X1_measureHeld wi_X1 wc_X1_measureHeld) rfl rfl (by decide +kernel) ⟨Nat.le_of_ble_eq_true rfl, Nat.le_of_ble_eq_true rfl⟩ (hK.sub [1] rfl) hP hD hS hA [2, 3, 4, 5] rfl (by decide) [(false, 0), (false, 1), (true, 0), (true, 1), (true, 2), (true, 3), (false, 6)] rfl (by decide) rfl 0 rfl rfl rfl rfl hl.1 rfl (Nat.le_of_ble_eq_true rfl) dX2_size_12 ⟨Nat.zero_le _, Nat.zero_le _⟩ (fun H locs hP hD hS => ?_)
  refine lv_aload_n hx hb dX2_size_15 rfl (lv_at hl 0 rfl) ?_
  refine va_get (D := (dC, dI)) (ci := 2) (v := .ref fr) (C := RX2) (T := TX2) (N := 12) hx hb hg inX2 hown hK hP 0 rfl rfl 11 (by decide) (hg _ wl_X2_37) (fun _ h9 => h9) rfl dX2_size_16 ?_
  refine rdV (As := []) (rest := []) (n := 0) hx hb hml hown hg (c_X0_circledDown l dC dI fr ((p_sum hs rs th (hs 0 + th) (400) (n - 1)).1) ((p_sum hs rs th (hs 0 + th) (400) (n - 1)).2) hsm.1 hsm.2.1 hsm.2.2) (gwV wl_X2_107 wm_X0_circledDown we_X0_circledDown wi_X0 wc_X0_circledDown) rfl rfl (by decide +kernel) ⟨Nat.le_of_ble_eq_true rfl, Nat.le_of_ble_eq_true rfl⟩ (hK.sub [] rfl) (hP.sub [5] rfl) 0 rfl rfl rfl rfl hl.1 rfl (Nat.le_of_ble_eq_true rfl) dX2_size_19 ⟨Nat.zero_le _, Nat.zero_le _⟩ ?_
  refine zz_topl (z := vv) (congrArg zl (by rw [hvv]; unfold p_encl; rw [if_pos rfl])) ?_
  refine lv_lstore_n (lv' := [(2, .long (zl (vv))), (0, .ref x0), (1, .int (zi ((j : Int))))]) hx hb dX2_size_22 rfl hl (by decide) rfl (fun ls hl => ?_)
  refine lv_iconst (v := zi (0)) hx hb dX2_size_23 rfl ?_
  refine lv_istore (lv' := [(4, .int (zi (0))), (2, .long (zl (vv))), (0, .ref x0), (1, .int (zi ((j : Int))))]) hx hb dX2_size_24 hl (by decide) rfl (fun ls hl => ?_)
  refine lv_iconst (v := zi (0)) hx hb dX2_size_26 rfl ?_
  refine lv_istore (lv' := [(5, .int (zi (0))), (4, .int (zi (0))), (2, .long (zl (vv))), (0, .ref x0), (1, .int (zi ((j : Int))))]) hx hb dX2_size_27 hl (by decide) rfl (fun ls hl => ?_)
  have key_29 : ∀ (n_ : Nat) (t : Nat), t ≤ bn → bn - t < n_ → ∀ (ls : Array Slot), lv_has ls 6 [(5, .int (zi ((t : Int)))), (4, .int (zi (((s_cnt bs vv t : Nat) : Int)))), (2, .long (zl (vv))), (0, .ref x0)] → W p l e rm_X2_size s m args below meth c H locs 0 0 QQ (F0 m 29 ls []) := by
    intro n_
    induction n_ with
    | zero => intro t ht hm_; exact absurd hm_ (Nat.not_lt_zero _)
    | succ n_ ih =>
      intro t ht hm_ ls hl
      refine lv_iload hx hb dX2_size_29 (lv_at hl 0 rfl) ?_
      refine lv_aload_n hx hb dX2_size_31 rfl (lv_at hl 3 rfl) ?_
      refine va_get (D := (dC, dI)) (ci := 2) (v := .int (zi ((bn : Int)))) (C := RX2) (T := TX2) (N := 12) hx hb hg inX2 hown hK hP 0 rfl rfl 3 (by decide) (hg _ wl_X2_143) (fun _ h9 => h9) rfl dX2_size_32 ?_
      refine zz_icmp_ge (tgt := 60) hx hb (by omega) (by omega) dX2_size_35 (by decide) (fun c_35 => ?_) (fun c_35 => ?_)
      · refine lv_iload hx hb dX2_size_60 (lv_at hl 1 rfl) ?_
        have hP9 : va_P (dC, dI) vwCl [(x0, .inr (2, [.ref pa, .int (zi ((pn : Int))), .ref ba, .int (zi ((bn : Int))), .ref ax, .ref ay, .int (zi ((ln : Int))), .ref sp, .ref ss, .int (zi ((sn : Int))), .ref vs, .ref fr])), (pa, .inl (cQ, 6, .inr (.inr (.inr (.inr (pf)))))), (h0, .inr (1, [.ref h1, .ref h2, .int (zi ((n : Int))), .int (zi (th)), .int (zi (wc))])), (h1, .inl (cA, 12, .inl (zA (hs)))), (h2, .inl (cA, 12, .inl (zA (rs)))), (fr, .inr (0, [.long (zl ((((p_sum hs rs th (hs 0 + th) (400) (n - 1)).1 : Nat) : Int))), .long (zl ((((p_sum hs rs th (hs 0 + th) (400) (n - 1)).2 : Nat) : Int)))])), (ba, .inl (cA, 10, .inl (zA (bs))))] H := hP
        rw [hQQ]
        exact wr_i hx hb hr hlocks (by rw [show t = bn by omega, hvv]) hP9 hS dX2_size_62
      · refine lv_aload_n hx hb dX2_size_38 rfl (lv_at hl 3 rfl) ?_
        refine va_get (D := (dC, dI)) (ci := 2) (v := .ref ba) (C := RX2) (T := TX2) (N := 12) hx hb hg inX2 hown hK hP 0 rfl rfl 2 (by decide) (hg _ wl_X2_15) (fun _ h9 => h9) rfl dX2_size_39 ?_
        refine lv_iload hx hb dX2_size_42 (lv_at hl 0 rfl) ?_
        refine zz_iald hx hb hK hP 6 1 rfl rfl (t) (by omega) (by omega) (by decide) dX2_size_44 ?_
        have hv_1 := hbs (t)
        refine zz_i2l hx hb (by omega) dX2_size_45 ?_
        refine lv_lload_n hx hb dX2_size_46 rfl (lv_at hl 2 rfl) ?_
        refine zz_lcmp_gt (tgt := 54) hx hb (by omega) (by omega) dX2_size_47 dX2_size_48 (by decide) (fun c_47 => ?_) (fun c_47 => ?_)
        · have hc : ¬ bs t ≤ vv := by omega
          refine lv_iinc (v := zi (((t : Int)) + (1))) (lv' := [(5, .int (zi (((t : Int)) + (1)))), (4, .int (zi (((s_cnt bs vv t : Nat) : Int)))), (2, .long (zl (vv))), (0, .ref x0)]) hx hb dX2_size_54 hl (k := 0) rfl (zi_add _ _) (by decide) rfl (fun ls hl => ?_)
          refine lv_goto (tgt := 29) hx hb dX2_size_57 (by decide) ?_
          exact ih (t + 1) (by omega) (by omega) ls (lv_sub hl [0, 1, 2, 3] (by simp only [s_cnt, if_neg hc]; rfl))
        · have hc : bs t ≤ vv := by omega
          refine lv_iinc (v := zi ((((s_cnt bs vv t : Nat) : Int)) + (1))) (lv' := [(4, .int (zi ((((s_cnt bs vv t : Nat) : Int)) + (1)))), (5, .int (zi ((t : Int)))), (2, .long (zl (vv))), (0, .ref x0)]) hx hb dX2_size_51 hl (k := 1) rfl (zi_add _ _) (by decide) rfl (fun ls hl => ?_)
          refine lv_iinc (v := zi (((t : Int)) + (1))) (lv' := [(5, .int (zi (((t : Int)) + (1)))), (4, .int (zi ((((s_cnt bs vv t : Nat) : Int)) + (1)))), (2, .long (zl (vv))), (0, .ref x0)]) hx hb dX2_size_54 hl (k := 1) rfl (zi_add _ _) (by decide) rfl (fun ls hl => ?_)
          refine lv_goto (tgt := 29) hx hb dX2_size_57 (by decide) ?_
          exact ih (t + 1) (by omega) (by omega) ls (lv_sub hl [0, 1, 2, 3] (by simp only [s_cnt, if_pos hc]; rfl))
  exact key_29 _ 0 (Nat.zero_le _) (Nat.lt_succ_self _) ls (lv_sub hl [0, 1, 2, 3] rfl)
