/-! numbers: class and reference answer alike -/
def p_srt (n : Nat) (hs : Nat → Int) : Prop := ∀ k, k + 1 < n → hs k ≤ hs (k + 1)
theorem p_srt.le {n : Nat} {hs : Nat → Int} (h : p_srt n hs) {i : Nat} : ∀ {j : Nat}, i ≤ j → j < n → hs i ≤ hs j := by
  intro j
  induction j with
  | zero => intro h1 _; rw [show i = 0 by omega]; exact Int.le_refl _
  | succ j ih =>
    intro h1 h2
    by_cases e : i = j + 1
    · rw [e]; exact Int.le_refl _
    · exact Int.le_trans (ih (by omega) (by omega)) (h j h2)
theorem m_rad_hi {n : Nat} {hs rs : Nat → Int} {h : Int} (hst : p_srt n hs) : ∀ f k v, k + f = n → (f = 0 ∨ h < hs k) → m_rad n hs rs h f k v = v := by
  intro f
  induction f with
  | zero => intro k v _ _; rfl
  | succ f ih =>
    intro k v hk hc
    have h1 : h < hs k := by rcases hc with q | q; · omega
                             · exact q
    have h2 : m_rst n hs rs h k v = v := by
      unfold m_rst
      rw [if_pos (by omega), if_neg (by omega)]
    rw [m_rad, h2]
    refine ih (k + 1) v (by omega) ?_
    by_cases e : f = 0
    · exact Or.inl e
    · have := hst k (by omega)
      exact Or.inr (by omega)
theorem rad_eq {n : Nat} {hs rs : Nat → Int} {h : Int} (hst : p_srt n hs) (hR : ∀ j, 0 ≤ rs j ∧ rs j ≤ 200) : ∀ f k g, k + f = n → (f = 0 ∨ ¬ (0 < k ∧ hs (k - 1) < h ∧ h < hs k)) → p_rad hs rs h f k g = m_rad n hs rs h f k g := by
  intro f
  induction f with
  | zero => intro k g _ _; rfl
  | succ f ih =>
    intro k g hk hc
    have hc : ¬ (0 < k ∧ hs (k - 1) < h ∧ h < hs k) := by
      rcases hc with q | q
      · omega
      · exact q
    rw [p_rad, m_rad]
    by_cases he : hs k = h
    · rw [if_pos he]
      have h2 : m_rst n hs rs h k g = max g (rs k) := by
        unfold m_rst
        rw [if_pos (by omega)]
        split <;> omega
      rw [h2]
      exact ih (k + 1) _ (by omega) (by
        by_cases e : f = 0
        · exact Or.inl e
        · refine Or.inr (fun q => ?_)
          rw [Nat.add_sub_cancel] at q
          omega)
    · rw [if_neg he, if_neg hc]
      by_cases hs1 : k + 1 = n ∨ h ≤ hs k ∨ hs (k + 1) ≤ h
      · have h2 : m_rst n hs rs h k g = g := by
          unfold m_rst
          rw [if_pos hs1, if_neg (by omega)]
        rw [h2]
        exact ih (k + 1) _ (by omega) (by
          by_cases e : f = 0
          · exact Or.inl e
          · refine Or.inr (fun q => ?_)
            rw [Nat.add_sub_cancel] at q
            omega)
      · have h2 : m_rst n hs rs h k g = Int.tdiv (p_sc hs rs (k + 1) 0 h) (hs (k + 1) - hs k) := by
          unfold m_rst
          rw [if_neg hs1]
          congr 1
          have := m_sc (hs := hs) (rs := rs) (k := k) (wall := 0) (x := h)
          have a := hR k
          have b := hR (k + 1)
          rw [show max 0 (rs k - 0) = rs k by omega, show max 0 (rs (k + 1) - 0) = rs (k + 1) by omega] at this
          exact this
        rw [h2]
        obtain ⟨f', rfl⟩ : ∃ f', f = f' + 1 := ⟨f - 1, by omega⟩
        rw [p_rad, if_neg (by omega), if_pos (by rw [Nat.add_sub_cancel]; omega), Nat.add_sub_cancel]
        exact (m_rad_hi hst (f' + 1) (k + 1) _ (by omega) (Or.inr (by omega))).symm
theorem radius_eq {n : Nat} {hs rs : Nat → Int} (hst : p_srt n hs) (hR : ∀ j, 0 ≤ rs j ∧ rs j ≤ 200) (h : Int) : p_radius n hs rs h = m_rad n hs rs h n 0 (-1) :=
  rad_eq hst hR n 0 (-1) (by omega) (Or.inr (by omega))
/-! fractions -/
def red (a b : Nat) : Nat × Nat := (a / Nat.gcd a b, b / Nat.gcd a b)
theorem red_scale {a b c : Nat} (hc : 0 < c) : red (c * a) (c * b) = red a b := by
  unfold red
  rw [Nat.gcd_mul_left, Nat.mul_div_mul_left _ _ hc, Nat.mul_div_mul_left _ _ hc]
theorem fr_add_red {x : Nat × Nat} {u q : Nat} (hq : 0 < q) : fr_add x u q = red (x.1 * q + u * x.2) (x.2 * q) := by
  have hg : 0 < Nat.gcd u q := Nat.gcd_pos_of_pos_right u hq
  have e1 : Nat.gcd u q * (q / Nat.gcd u q) = q := Nat.mul_div_cancel' (Nat.gcd_dvd_right u q)
  have e2 : Nat.gcd u q * (u / Nat.gcd u q) = u := Nat.mul_div_cancel' (Nat.gcd_dvd_left u q)
  have e3 : Nat.gcd u q * fr_n x.1 x.2 u q = x.1 * q + u * x.2 := by
    unfold fr_n
    rw [Nat.mul_add, Nat.mul_left_comm, e1, ← Nat.mul_assoc, e2]
  have e4 : Nat.gcd u q * fr_d x.2 u q = x.2 * q := by
    unfold fr_d
    rw [Nat.mul_left_comm, e1]
  rw [← e3, ← e4, red_scale hg]
  rfl
theorem m_add_red {x : Nat × Nat} {u q : Nat} (hq : 0 < q) : m_add x u q = red (x.1 * q + u * x.2) (x.2 * q) := by
  have hg : 0 < Nat.gcd x.2 q := Nat.gcd_pos_of_pos_right x.2 hq
  have e1 : Nat.gcd x.2 q * (q / Nat.gcd x.2 q) = q := Nat.mul_div_cancel' (Nat.gcd_dvd_right x.2 q)
  have e2 : Nat.gcd x.2 q * (x.2 / Nat.gcd x.2 q) = x.2 := Nat.mul_div_cancel' (Nat.gcd_dvd_left x.2 q)
  have e3 : Nat.gcd x.2 q * (x.1 * (q / Nat.gcd x.2 q) + u * (x.2 / Nat.gcd x.2 q)) = x.1 * q + u * x.2 := by
    rw [Nat.mul_add, Nat.mul_left_comm, e1, Nat.mul_left_comm, e2]
  have e4 : Nat.gcd x.2 q * (x.2 / Nat.gcd x.2 q * q) = x.2 * q := by
    rw [← Nat.mul_assoc, e2]
  rw [← e3, ← e4, red_scale hg]
  rfl
theorem p_lohi {hs : Nat → Int} {frm to : Int} {k : Nat} (h : p_lo hs frm (k + 1) < p_hi hs to (k + 1)) : hs k < hs (k + 1) := by
  unfold p_lo p_hi at h
  rw [Nat.add_sub_cancel] at h
  omega
theorem p_q_pos {hs : Nat → Int} {k : Nat} (h : hs k < hs (k + 1)) : 0 < p_q hs (k + 1) := by
  unfold p_q
  rw [Nat.add_sub_cancel]
  have : 0 < 3 * (hs (k + 1) - hs k) * (hs (k + 1) - hs k) := Int.mul_pos (by omega) (by omega)
  omega
theorem sum_eq (hs rs : Nat → Int) (wall frm to : Int) : ∀ j, p_sum hs rs wall frm to j = m_sum hs rs wall frm to j := by
  intro j
  induction j with
  | zero => rfl
  | succ j ih =>
    rw [p_sum, m_sum, p_step, ih]
    split
    · rename_i h
      have hq := p_q_pos (p_lohi h)
      rw [fr_add_red hq, m_add_red hq]
    · rfl
theorem red_pos {a b : Nat} (hb : 0 < b) : 0 < (red a b).2 := Nat.div_pos (Nat.gcd_le_right a hb) (Nat.gcd_pos_of_pos_right a hb)
theorem red_dvd {a b M t : Nat} (hb : 0 < b) (h : a * M = t * b) : (red a b).2 ∣ M := by
  have hg : 0 < Nat.gcd a b := Nat.gcd_pos_of_pos_right a hb
  have e1 : Nat.gcd a b * (a / Nat.gcd a b) = a := Nat.mul_div_cancel' (Nat.gcd_dvd_left a b)
  have e2 : Nat.gcd a b * (b / Nat.gcd a b) = b := Nat.mul_div_cancel' (Nat.gcd_dvd_right a b)
  have h2 : a / Nat.gcd a b * M = t * (b / Nat.gcd a b) := by
    apply Nat.eq_of_mul_eq_mul_left hg
    rw [← Nat.mul_assoc, e1, h, Nat.mul_left_comm, e2]
  have hc : Nat.Coprime (b / Nat.gcd a b) (a / Nat.gcd a b) := by
    rw [Nat.Coprime, Nat.gcd_comm, Nat.gcd_div (Nat.gcd_dvd_left a b) (Nat.gcd_dvd_right a b), Nat.div_self hg]
  exact hc.dvd_of_dvd_mul_left ⟨t, by rw [h2, Nat.mul_comm]⟩
theorem red_le {a b V : Nat} (h : a ≤ V * b) (hb : 0 < b) : (red a b).1 ≤ V * (red a b).2 := by
  have hg : 0 < Nat.gcd a b := Nat.gcd_pos_of_pos_right a hb
  have e1 : Nat.gcd a b * (a / Nat.gcd a b) = a := Nat.mul_div_cancel' (Nat.gcd_dvd_left a b)
  have e2 : Nat.gcd a b * (b / Nat.gcd a b) = b := Nat.mul_div_cancel' (Nat.gcd_dvd_right a b)
  refine Nat.le_of_mul_le_mul_left ?_ hg
  show Nat.gcd a b * (a / Nat.gcd a b) ≤ Nat.gcd a b * (V * (b / Nat.gcd a b))
  rw [e1, Nat.mul_left_comm, e2]
  exact h
def gd (x : Nat × Nat) (M V : Nat) : Prop := 0 < x.2 ∧ x.2 ∣ M ∧ x.1 ≤ V * x.2
theorem gd_add {x : Nat × Nat} {M V u q w v : Nat} (h : gd x M V) (hq : 0 < q) (hw : u * M = w * q) (hv : u ≤ v * q) : gd (m_add x u q) M (V + v) := by
  obtain ⟨h1, ⟨c, hc⟩, h3⟩ := h
  rw [m_add_red hq]
  have hb : 0 < x.2 * q := Nat.mul_pos h1 hq
  refine ⟨red_pos hb, red_dvd (t := x.1 * c + w) hb ?_, red_le ?_ hb⟩
  · have e1 : x.1 * q * M = x.1 * c * (x.2 * q) := by
      rw [hc]
      simp only [Nat.mul_assoc, Nat.mul_comm, Nat.mul_left_comm]
    have e2 : u * x.2 * M = w * (x.2 * q) := by
      rw [Nat.mul_right_comm, hw]
      simp only [Nat.mul_assoc, Nat.mul_comm, Nat.mul_left_comm]
    rw [Nat.add_mul, Nat.add_mul, e1, e2]
  · have e1 : x.1 * q ≤ V * x.2 * q := Nat.mul_le_mul_right q h3
    have e2 : u * x.2 ≤ v * q * x.2 := Nat.mul_le_mul_right x.2 hv
    rw [Nat.add_mul, ← Nat.mul_assoc V, ← Nat.mul_assoc v, Nat.mul_right_comm v]
    omega
