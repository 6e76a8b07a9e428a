theorem q_nat {hs : Nat → Int} {k : Nat} (h : hs k < hs (k + 1)) : p_q hs (k + 1) = 3 * ((hs (k + 1) - hs k).toNat * (hs (k + 1) - hs k).toNat) := by
  have e := p_q_eq (hs := hs) (k := k + 1) (show hs k ≤ hs (k + 1) by omega)
  rw [Nat.add_sub_cancel] at e
  obtain ⟨d, hd⟩ : ∃ d : Nat, (d : Int) = hs (k + 1) - hs k := ⟨(hs (k + 1) - hs k).toNat, by omega⟩
  rw [← hd] at e ⊢
  rw [show ((d : Int)).toNat = d by omega]
  have e2 : (3 * (d : Int) * (d : Int)) = ((3 * (d * d) : Nat) : Int) := by
    rw [Int.natCast_mul, Int.natCast_mul, Int.mul_assoc]; rfl
  rw [e2] at e
  omega
theorem u_le {hs rs : Nat → Int} {wall low high : Int} {k : Nat} (hH : ∀ j, 0 ≤ hs j ∧ hs j ≤ 400) (hR : ∀ j, 0 ≤ rs j ∧ rs j ≤ 200) (hw : 0 ≤ wall) (h1 : hs k ≤ low) (h2 : low < high) (h3 : high ≤ hs (k + 1)) : p_u hs rs wall low high (k + 1) ≤ 40000 * (high - low).toNat * p_q hs (k + 1) := by
  have e := p_u_eq (k := k + 1) (rs := rs) (wall := wall) hH hR hw (show hs k ≤ low from h1) h2 h3
  have x := p_sc_bd (rs := rs) (hs := hs) (k := k + 1) (wall := wall) (h := low) hR hw (show hs k ≤ low from h1) (by omega)
  have y := p_sc_bd (rs := rs) (hs := hs) (k := k + 1) (wall := wall) (h := high) hR hw (show hs k ≤ high by omega) h3
  rw [Nat.add_sub_cancel] at x y
  rw [q_nat (by omega)]
  obtain ⟨d, hd⟩ : ∃ d : Nat, (d : Int) = hs (k + 1) - hs k := ⟨(hs (k + 1) - hs k).toNat, by omega⟩
  rw [← hd] at x y ⊢
  rw [show ((d : Int)).toNat = d by omega]
  obtain ⟨t, ht⟩ : ∃ t : Nat, (t : Int) = high - low := ⟨(high - low).toNat, by omega⟩
  rw [← ht] at e ⊢
  rw [show ((t : Int)).toNat = t by omega]
  obtain ⟨a, ha⟩ : ∃ a : Nat, (a : Int) = p_sc hs rs (k + 1) wall low := ⟨(p_sc hs rs (k + 1) wall low).toNat, by omega⟩
  obtain ⟨b, hb⟩ : ∃ b : Nat, (b : Int) = p_sc hs rs (k + 1) wall high := ⟨(p_sc hs rs (k + 1) wall high).toNat, by omega⟩
  rw [← ha, ← hb] at e
  rw [← ha] at x
  rw [← hb] at y
  have e2 : (t : Int) * ((a : Int) * (a : Int) + (a : Int) * (b : Int) + (b : Int) * (b : Int)) = ((t * (a * a + a * b + b * b) : Nat) : Int) := by push_cast; rfl
  rw [e2] at e
  have e3 : p_u hs rs wall low high (k + 1) = t * (a * a + a * b + b * b) := by omega
  rw [e3]
  have l1 : a * a ≤ 200 * d * (200 * d) := Nat.mul_le_mul (by omega) (by omega)
  have l2 : a * b ≤ 200 * d * (200 * d) := Nat.mul_le_mul (by omega) (by omega)
  have l3 : b * b ≤ 200 * d * (200 * d) := Nat.mul_le_mul (by omega) (by omega)
  have l4 : 200 * d * (200 * d) = 40000 * (d * d) := by
    rw [Nat.mul_mul_mul_comm]
  have l5 : a * a + a * b + b * b ≤ 120000 * (d * d) := by omega
  have l6 := Nat.mul_le_mul_left t l5
  have l7 : 40000 * t * (3 * (d * d)) = t * (120000 * (d * d)) := by
    rw [show 120000 * (d * d) = 40000 * (3 * (d * d)) by omega, Nat.mul_comm 40000 t, Nat.mul_assoc]
  omega
theorem u_full {hs rs : Nat → Int} {wall : Int} {k : Nat} (hH : ∀ j, 0 ≤ hs j ∧ hs j ≤ 400) (hR : ∀ j, 0 ≤ rs j ∧ rs j ≤ 200) (hw : 0 ≤ wall) (h : hs k < hs (k + 1)) : ∃ w, p_u hs rs wall (hs k) (hs (k + 1)) (k + 1) * 3 = w * p_q hs (k + 1) := by
  have e := p_u_eq (k := k + 1) (rs := rs) (wall := wall) (low := hs k) (high := hs (k + 1)) hH hR hw (Int.le_refl _) h (Int.le_refl _)
  rw [q_nat h]
  obtain ⟨d, hd⟩ : ∃ d : Nat, (d : Int) = hs (k + 1) - hs k := ⟨(hs (k + 1) - hs k).toNat, by omega⟩
  obtain ⟨r, hr⟩ : ∃ r : Nat, (r : Int) = max 0 (rs k - wall) := ⟨(max 0 (rs k - wall)).toNat, by omega⟩
  obtain ⟨t, ht⟩ : ∃ t : Nat, (t : Int) = max 0 (rs (k + 1) - wall) := ⟨(max 0 (rs (k + 1) - wall)).toNat, by omega⟩
  have x1 : p_sc hs rs (k + 1) wall (hs k) = (r : Int) * (d : Int) := by
    unfold p_sc
    rw [Nat.add_sub_cancel, Int.sub_self, Int.mul_zero, Int.add_zero, hr, hd]
  have x2 : p_sc hs rs (k + 1) wall (hs (k + 1)) = (t : Int) * (d : Int) := by
    unfold p_sc
    rw [Nat.add_sub_cancel, Int.sub_self, Int.mul_zero, Int.zero_add, ht, hd]
  rw [x1, x2, ← hd] at e
  rw [← hd, show ((d : Int)).toNat = d by omega]
  have e2 : (d : Int) * ((r : Int) * (d : Int) * ((r : Int) * (d : Int)) + (r : Int) * (d : Int) * ((t : Int) * (d : Int)) + (t : Int) * (d : Int) * ((t : Int) * (d : Int))) = ((d * (r * d * (r * d) + r * d * (t * d) + t * d * (t * d)) : Nat) : Int) := by push_cast; rfl
  rw [e2] at e
  have e3 : p_u hs rs wall (hs k) (hs (k + 1)) (k + 1) = d * (r * d * (r * d) + r * d * (t * d) + t * d * (t * d)) := by omega
  refine ⟨d * (r * r + r * t + t * t), ?_⟩
  rw [e3, Nat.mul_mul_mul_comm r d r d, Nat.mul_mul_mul_comm r d t d, Nat.mul_mul_mul_comm t d t d, ← Nat.add_mul, ← Nat.add_mul]
  simp only [Nat.mul_assoc, Nat.mul_comm, Nat.mul_left_comm]
theorem sum_zero {n : Nat} {hs rs : Nat → Int} {wall frm to : Int} (hst : p_srt n hs) : ∀ j, j < n → hs j ≤ frm → m_sum hs rs wall frm to j = (0, 1) := by
  intro j
  induction j with
  | zero => intro _ _; rfl
  | succ j ih =>
    intro hj hf
    have h1 := hst j hj
    rw [m_sum, if_neg (by unfold p_lo p_hi; rw [Nat.add_sub_cancel]; omega)]
    exact ih (by omega) (by omega)
theorem gd_V {x : Nat × Nat} {M V V' : Nat} (h : gd x M V) (hv : V ≤ V') : gd x M V' := ⟨h.1, h.2.1, Nat.le_trans h.2.2 (Nat.mul_le_mul_right _ hv)⟩
theorem gd_M {x : Nat × Nat} {M M' V : Nat} (h : gd x M V) (hm : M ∣ M') : gd x M' V := ⟨h.1, Nat.dvd_trans h.2.1 hm, h.2.2⟩
theorem gd_01 (M V : Nat) : gd (0, 1) M V := ⟨Nat.one_pos, Nat.one_dvd M, Nat.zero_le _⟩
theorem sum_gd {n : Nat} {hs rs : Nat → Int} {wall frm to : Int} (hst : p_srt n hs) (hH : ∀ j, 0 ≤ hs j ∧ hs j ≤ 400) (hR : ∀ j, 0 ≤ rs j ∧ rs j ≤ 200) (hw : 0 ≤ wall) : ∀ j, j < n → hs j ≤ to → ∃ e : Nat, 1 ≤ e ∧ (e : Int) ≤ max 1 (hs j - hs 0) ∧ gd (m_sum hs rs wall frm to j) (3 * (e * e)) (40000 * (hs j - hs 0).toNat) := by
  intro j
  induction j with
  | zero => intro _ _; exact ⟨1, Nat.le_refl _, by omega, gd_01 _ _⟩
  | succ j ih =>
    intro hj ht
    have h1 := hst j hj
    have h0 := hst.le (Nat.zero_le j) (by omega)
    obtain ⟨e, he1, he2, he3⟩ := ih (by omega) (by omega)
    rw [m_sum]
    by_cases ha : p_lo hs frm (j + 1) < p_hi hs to (j + 1)
    · rw [if_pos ha]
      have hlt := p_lohi ha
      have hq := p_q_pos hlt
      have hhi : p_hi hs to (j + 1) = hs (j + 1) := by unfold p_hi; omega
      by_cases hf : frm ≤ hs j
      · have hlo : p_lo hs frm (j + 1) = hs j := by unfold p_lo; rw [Nat.add_sub_cancel]; omega
        rw [hlo, hhi]
        obtain ⟨w, hw9⟩ := u_full (wall := wall) hH hR hw hlt
        have hu := u_le (wall := wall) hH hR hw (Int.le_refl _) hlt (Int.le_refl _)
        refine ⟨e, he1, by omega, gd_V (gd_add he3 hq (w := w * (e * e)) ?_ hu) (by omega)⟩
        rw [← Nat.mul_assoc, hw9, Nat.mul_right_comm]
      · have hlo : p_lo hs frm (j + 1) = frm := by unfold p_lo; rw [Nat.add_sub_cancel]; omega
        rw [hlo, hhi] at ha ⊢
        have hu := u_le (wall := wall) hH hR hw (show hs j ≤ frm by omega) ha (Int.le_refl _)
        rw [sum_zero hst j (by omega) (by omega)]
        refine ⟨(hs (j + 1) - hs j).toNat, by omega, by omega, gd_V (gd_add (gd_01 _ 0) hq (w := p_u hs rs wall frm (hs (j + 1)) (j + 1)) ?_ hu) (by omega)⟩
        rw [q_nat hlt]
    · rw [if_neg ha]
      exact ⟨e, he1, by omega, gd_V he3 (by omega)⟩
theorem sq_le {a v : Nat} (h : a + v = 200) : a * (a + v + v) ≤ 40000 := by
  have e4 : a * (a + v + v) + v * v = (a + v) * (a + v) := by
    simp only [Nat.mul_add, Nat.add_mul, Nat.mul_comm v a]
    omega
  have e5 : (a + v) * (a + v) = 40000 := by rw [h]
  omega
theorem prod_le {a b : Nat} (h : a + b ≤ 400) : a * b ≤ 40000 := by
  rcases Nat.le_total a b with q | q
  · exact Nat.le_trans (Nat.mul_le_mul_left a (show b ≤ a + (200 - a) + (200 - a) by omega)) (sq_le (by omega))
  · rw [Nat.mul_comm]
    exact Nat.le_trans (Nat.mul_le_mul_left b (show a ≤ b + (200 - b) + (200 - b) by omega)) (sq_le (by omega))
theorem sum_all {n : Nat} {hs rs : Nat → Int} {wall frm to : Int} (hst : p_srt n hs) (hH : ∀ j, 0 ≤ hs j ∧ hs j ≤ 400) (hR : ∀ j, 0 ≤ rs j ∧ rs j ≤ 200) (hw : 0 ≤ wall) : ∀ j, j < n → ∃ M, 0 < M ∧ M ≤ 4800000000 ∧ gd (m_sum hs rs wall frm to j) M 16000000 := by
  intro j
  induction j with
  | zero => intro _; exact ⟨1, Nat.one_pos, by decide, gd_01 _ _⟩
  | succ i ih =>
    intro hj
    have h1 := hst i hj
    have h0 := hst.le (Nat.zero_le i) (by omega)
    have b0 := hH 0
    have b1 := hH (i + 1)
    have bi := hH i
    by_cases hto : hs (i + 1) ≤ to
    · obtain ⟨e, he1, he2, he3⟩ := sum_gd (rs := rs) (wall := wall) (frm := frm) hst hH hR hw (i + 1) hj hto
      have he4 : e * e ≤ 400 * 400 := Nat.mul_le_mul (by omega) (by omega)
      have he5 : 0 < e * e := Nat.mul_pos he1 he1
      exact ⟨_, by omega, by omega, gd_V he3 (by omega)⟩
    · by_cases ha : p_lo hs frm (i + 1) < p_hi hs to (i + 1)
      · have hlt := p_lohi ha
        have hq := p_q_pos hlt
        have hti : hs i ≤ to := by unfold p_lo p_hi at ha; rw [Nat.add_sub_cancel] at ha; omega
        obtain ⟨e, he1, he2, he3⟩ := sum_gd (rs := rs) (wall := wall) (frm := frm) hst hH hR hw i (by omega) hti
        have hlo : hs i ≤ p_lo hs frm (i + 1) := by unfold p_lo; rw [Nat.add_sub_cancel]; omega
        have hhi : p_hi hs to (i + 1) ≤ hs (i + 1) := by unfold p_hi; omega
        have hu := u_le (wall := wall) hH hR hw hlo ha hhi
        rw [m_sum, if_pos ha]
        obtain ⟨d, hd⟩ : ∃ d : Nat, (d : Int) = hs (i + 1) - hs i := ⟨(hs (i + 1) - hs i).toNat, by omega⟩
        have hq9 : p_q hs (i + 1) = 3 * (d * d) := by rw [q_nat hlt, ← hd, show ((d : Int)).toNat = d by omega]
        have hp : e * d ≤ 40000 := by
          by_cases h1e : e = 1
          · subst h1e; omega
          · exact prod_le (by omega)
        have hp2 : e * d * (e * d) ≤ 40000 * 40000 := Nat.mul_le_mul hp hp
        have hp3 : 3 * (e * e) * (d * d) = 3 * (e * d * (e * d)) := by
          rw [Nat.mul_assoc, Nat.mul_mul_mul_comm e e d d]
        have hpos : 0 < 3 * (e * e) * (d * d) := Nat.mul_pos (Nat.mul_pos (by decide) (Nat.mul_pos he1 he1)) (Nat.mul_pos (by omega) (by omega))
        refine ⟨3 * (e * e) * (d * d), hpos, by omega, gd_V (gd_add (gd_M he3 ⟨d * d, rfl⟩) hq (w := p_u hs rs wall (p_lo hs frm (i + 1)) (p_hi hs to (i + 1)) (i + 1) * (e * e)) ?_ hu) (by omega)⟩
        rw [hq9]
        simp only [Nat.mul_assoc, Nat.mul_comm, Nat.mul_left_comm]
      · rw [m_sum, if_neg ha]
        exact ih (by omega)
theorem oks {n : Nat} {hs rs : Nat → Int} {wall frm to : Int} (hst : p_srt n hs) (hH : ∀ j, 0 ≤ hs j ∧ hs j ≤ 400) (hR : ∀ j, 0 ≤ rs j ∧ rs j ≤ 200) (hw : 0 ≤ wall) : p_oks n hs rs wall frm to ∧ m_oks n hs rs wall frm to := by
  have key : ∀ j, j + 1 < n → p_lo hs frm (j + 1) < p_hi hs to (j + 1) → 0 < (m_sum hs rs wall frm to j).2 ∧ (m_sum hs rs wall frm to j).2 ≤ 480000 ∧ (m_sum hs rs wall frm to j).1 ≤ 7680000000000 ∧ p_u hs rs wall (p_lo hs frm (j + 1)) (p_hi hs to (j + 1)) (j + 1) ≤ 7680000000000 ∧ 0 < p_q hs (j + 1) ∧ p_q hs (j + 1) ≤ 480000 := by
    intro j hj ha
    have hlt := p_lohi ha
    have hti : hs j ≤ to := by unfold p_lo p_hi at ha; rw [Nat.add_sub_cancel] at ha; omega
    have hlo : hs j ≤ p_lo hs frm (j + 1) := by unfold p_lo; rw [Nat.add_sub_cancel]; omega
    have hhi : p_hi hs to (j + 1) ≤ hs (j + 1) := by unfold p_hi; omega
    have b0 := hH 0
    have bj := hH j
    obtain ⟨e, he1, he2, he3⟩ := sum_gd (rs := rs) (wall := wall) (frm := frm) hst hH hR hw j (by omega) hti
    have he4 : e * e ≤ 400 * 400 := Nat.mul_le_mul (by omega) (by omega)
    have he5 : 0 < e * e := Nat.mul_pos he1 he1
    have h2 := Nat.le_of_dvd (by omega) he3.2.1
    have h3 : (m_sum hs rs wall frm to j).1 ≤ 16000000 * (m_sum hs rs wall frm to j).2 := Nat.le_trans he3.2.2 (Nat.mul_le_mul_right _ (by omega))
    have h4 := p_u_lt (k := j + 1) (rs := rs) (wall := wall) hH hR hw (show hs j ≤ _ from hlo) ha hhi
    have h5 := p_q_bd (k := j + 1) hH (show hs j < hs (j + 1) from hlt)
    exact ⟨he3.1, by omega, by omega, h4, h5.1, h5.2⟩
  refine ⟨fun j hj ha => ?_, fun j hj ha => ?_⟩
  · obtain ⟨k1, k2, k3, k4, k5, k6⟩ := key j hj ha
    rw [sum_eq]
    generalize m_sum hs rs wall frm to j = x at *
    generalize p_u hs rs wall (p_lo hs frm (j + 1)) (p_hi hs to (j + 1)) (j + 1) = u at *
    generalize p_q hs (j + 1) = q at *
    have g1 : q / Nat.gcd u q ≤ 480000 := Nat.le_trans (Nat.div_le_self _ _) k6
    have g2 : u / Nat.gcd u q ≤ 7680000000000 := Nat.le_trans (Nat.div_le_self _ _) k4
    have g3 : x.1 * (q / Nat.gcd u q) ≤ 7680000000000 * 480000 := Nat.mul_le_mul k3 g1
    have g4 : u / Nat.gcd u q * x.2 ≤ 7680000000000 * 480000 := Nat.mul_le_mul g2 k2
    have g5 : x.2 * (q / Nat.gcd u q) ≤ 480000 * 480000 := Nat.mul_le_mul k2 g1
    refine ⟨k1, ?_, ?_⟩
    · unfold fr_n; omega
    · unfold fr_d; omega
  · obtain ⟨k1, k2, k3, k4, k5, k6⟩ := key j hj ha
    generalize m_sum hs rs wall frm to j = x at *
    generalize p_u hs rs wall (p_lo hs frm (j + 1)) (p_hi hs to (j + 1)) (j + 1) = u at *
    generalize p_q hs (j + 1) = q at *
    have g1 : q / Nat.gcd x.2 q ≤ 480000 := Nat.le_trans (Nat.div_le_self _ _) k6
    have g2 : x.2 / Nat.gcd x.2 q ≤ 480000 := Nat.le_trans (Nat.div_le_self _ _) k2
    have g3 : x.1 * (q / Nat.gcd x.2 q) ≤ 7680000000000 * 480000 := Nat.mul_le_mul k3 g1
    have g4 : u * (x.2 / Nat.gcd x.2 q) ≤ 7680000000000 * 480000 := Nat.mul_le_mul k4 g2
    have g5 : x.2 / Nat.gcd x.2 q * q ≤ 480000 * 480000 := Nat.mul_le_mul g2 k6
    exact ⟨k1, by omega, by omega, by omega⟩
theorem small {n : Nat} {hs rs : Nat → Int} {wall frm to : Int} (hst : p_srt n hs) (hH : ∀ j, 0 ≤ hs j ∧ hs j ≤ 400) (hR : ∀ j, 0 ≤ rs j ∧ rs j ≤ 200) (hw : 0 ≤ wall) : p_small (m_sum hs rs wall frm to (n - 1)) := by
  by_cases h : n = 0
  · subst h; exact (show p_small (0, 1) from ⟨Nat.one_pos, by decide, Nat.zero_le _⟩)
  · obtain ⟨M, h1, h2, h3⟩ := sum_all (rs := rs) (wall := wall) (frm := frm) (to := to) hst hH hR hw (n - 1) (by omega)
    have h4 := Nat.le_of_dvd h1 h3.2.1
    have h5 := h3.2.2
    exact ⟨h3.1, by omega, by omega⟩
theorem encl_eq {x : Nat × Nat} (hx : 0 < x.2) {en : Int} (he : en = 0 ∨ en = 1) : p_encl x en = m_enc x en := by
  unfold p_encl m_enc
  rcases he with rfl | rfl
  · rw [if_pos rfl, if_pos rfl]
  · rw [if_neg (by decide), if_neg (by decide)]
    congr 1
    generalize x.1 * 314159266 = a
    generalize x.2 = b at hx
    have e1 : (a + b - 1) / b = a / b + if 0 < a % b then 1 else 0 := by
      have h1 := Nat.div_add_mod a b
      have h2 := Nat.mod_lt a hx
      split
      · rename_i h
        have : a + b - 1 = (a % b - 1) + b * (a / b + 1) := by rw [Nat.mul_add, Nat.mul_one]; omega
        rw [this, Nat.add_mul_div_left _ _ hx, Nat.div_eq_of_lt (by omega)]
        omega
      · rename_i h
        have : a + b - 1 = (b - 1) + b * (a / b) := by omega
        rw [this, Nat.add_mul_div_left _ _ hx, Nat.div_eq_of_lt (by omega)]
        omega
    rw [e1]
    generalize a / b = t
    by_cases h : 0 < a % b
    · rw [if_pos h, if_pos (Or.inl h)]
      omega
    · rw [if_neg h]
      split
      · rename_i h2
        rcases h2 with h2 | h2
        · exact absurd h2 h
        · omega
      · rename_i h2
        have : ¬ 0 < t % 100000000 := fun q => h2 (Or.inr q)
        omega
