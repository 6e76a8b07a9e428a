theorem p_cu_all {hs : Nat → Int} {h : Int} : ∀ k, (∀ i, i < k → hs i ≤ h) → p_cu hs h k = k := by
  intro k
  induction k with
  | zero => intro _; rfl
  | succ k ih =>
    intro hk
    rw [p_cu, ih (fun i hi => hk i (by omega)), if_pos (hk k (by omega))]
theorem cu_ct {n : Nat} {hs : Nat → Int} {h : Int} (hst : p_srt n hs) : ∀ k, k ≤ n → p_cu hs h k = m_ct hs h k := by
  intro k
  induction k with
  | zero => intro _; rfl
  | succ k ih =>
    intro hk
    rw [m_ct]
    by_cases hc : h < hs k
    · rw [if_pos hc, p_cu, if_neg (by omega), ih (by omega), Nat.add_zero]
    · rw [if_neg hc]
      exact p_cu_all (k + 1) (fun i hi => Int.le_trans (hst.le (show i ≤ k by omega) (by omega)) (by omega))
theorem m_ct_top {hs : Nat → Int} {h : Int} : ∀ k, 0 < m_ct hs h k → hs (m_ct hs h k - 1) ≤ h := by
  intro k
  induction k with
  | zero => intro q; exact absurd q (Nat.lt_irrefl 0)
  | succ k ih =>
    intro q
    rw [m_ct] at q ⊢
    split
    · rename_i hc
      rw [if_pos hc] at q
      exact ih q
    · rename_i hc
      rw [Nat.add_sub_cancel]
      omega
theorem m_ct_lt {hs : Nat → Int} {h : Int} {n : Nat} (h0 : 0 < n) (hc : h < hs (n - 1)) : m_ct hs h n < n := by
  obtain ⟨k, rfl⟩ : ∃ k, n = k + 1 := ⟨n - 1, by omega⟩
  rw [Nat.add_sub_cancel] at hc
  rw [m_ct, if_pos hc]
  have := m_ct_le hs h k
  omega
theorem m_ct_next {hs : Nat → Int} {h : Int} : ∀ n, m_ct hs h n < n → h < hs (m_ct hs h n) := by
  intro n
  induction n with
  | zero => intro q; omega
  | succ k ih =>
    intro q
    rw [m_ct] at q ⊢
    split
    · rename_i hc
      rw [if_pos hc] at q
      by_cases e : m_ct hs h k = k
      · rw [e]; exact hc
      · have := m_ct_le hs h k
        exact ih (by omega)
    · rename_i hc
      rw [if_neg hc] at q
      omega
theorem sc_div_nn {hs rs : Nat → Int} {k : Nat} {h : Int} (hR : ∀ j, 0 ≤ rs j ∧ rs j ≤ 200) (h1 : hs (k - 1) < h) (h2 : h < hs k) : 0 ≤ Int.tdiv (p_sc hs rs k 0 h) (hs k - hs (k - 1)) := by
  have e := p_sc_bd (hs := hs) (rs := rs) (k := k) (wall := 0) (h := h) hR (Int.le_refl _) (by omega) (by omega)
  exact Int.tdiv_nonneg e.1 (by omega)
theorem p_rad_nn {hs rs : Nat → Int} {h : Int} (hR : ∀ j, 0 ≤ rs j ∧ rs j ≤ 200) : ∀ f k g, (0 ≤ g ∨ ∃ i, k ≤ i ∧ i < k + f ∧ (hs i = h ∨ (0 < i ∧ hs (i - 1) < h ∧ h < hs i))) → 0 ≤ p_rad hs rs h f k g := by
  intro f
  induction f with
  | zero =>
    intro k g hc
    rcases hc with q | ⟨i, h1, h2, _⟩
    · exact q
    · omega
  | succ f ih =>
    intro k g hc
    rw [p_rad]
    have a := hR k
    by_cases he : hs k = h
    · rw [if_pos he]
      exact ih (k + 1) _ (Or.inl (by omega))
    · rw [if_neg he]
      by_cases hs1 : 0 < k ∧ hs (k - 1) < h ∧ h < hs k
      · rw [if_pos hs1]
        exact sc_div_nn hR hs1.2.1 hs1.2.2
      · rw [if_neg hs1]
        refine ih (k + 1) g ?_
        rcases hc with q | ⟨i, h1, h2, h3⟩
        · exact Or.inl q
        · refine Or.inr ⟨i, ?_, by omega, h3⟩
          by_cases e : i = k
          · subst e
            rcases h3 with h3 | h3
            · exact absurd h3 he
            · exact absurd h3 hs1
          · omega
theorem cut_rad {n : Nat} {hs rs : Nat → Int} {h : Int} (hst : p_srt n hs) (hR : ∀ j, 0 ≤ rs j ∧ rs j ≤ 200) (h0 : 0 < n) (h1 : hs 0 < h) (h2 : h < hs (n - 1)) : 0 ≤ p_radius n hs rs h ∧ p_radius n hs rs h ≤ 200 := by
  refine ⟨?_, ?_⟩
  · refine p_rad_nn hR n 0 (-1) (Or.inr ?_)
    have c1 := m_ct_lt h0 h2
    have c2 := m_ct_pos h1 n h0
    have c3 := m_ct_top n c2
    have c4 := m_ct_next n c1
    by_cases e : hs (m_ct hs h n - 1) = h
    · exact ⟨m_ct hs h n - 1, Nat.zero_le _, by omega, Or.inl e⟩
    · exact ⟨m_ct hs h n, Nat.zero_le _, by omega, Or.inr ⟨c2, by omega, c4⟩⟩
  · rw [radius_eq hst hR]
    exact (m_rad_bd hR n 0 (-1) (by decide)).2
theorem p_co_mono (rs : Nat → Int) (i : Nat) : ∀ f, p_co rs i ≤ p_co rs (i + f) := by
  intro f
  induction f with
  | zero => exact Nat.le_refl _
  | succ f ih =>
    rw [← Nat.add_assoc, p_co]
    omega
theorem p_fo_iff {rs : Nat → Int} {a : Int} : ∀ f i d : Nat, (d : Int) ≤ a → (0 ≤ p_fo rs a f i d ↔ a < (d : Int) + ((p_co rs (i + f) : Nat) : Int) - ((p_co rs i : Nat) : Int)) := by
  intro f
  induction f with
  | zero =>
    intro i d hd
    rw [p_fo, Nat.add_zero]
    omega
  | succ f ih =>
    intro i d hd
    rw [p_fo, show i + (f + 1) = (i + 1) + f by omega]
    have hm := p_co_mono rs (i + 1) f
    by_cases h0 : rs i = 0
    · have hc : p_co rs (i + 1) = p_co rs i := by rw [p_co, if_pos h0, Nat.add_zero]
      rw [if_pos h0, ih (i + 1) d hd, hc]
    · have hc : p_co rs (i + 1) = p_co rs i + 1 := by rw [p_co, if_neg h0]
      rw [if_neg h0]
      by_cases hda : (d : Int) = a
      · rw [if_pos hda]
        omega
      · rw [if_neg hda, ih (i + 1) (d + 1) (by omega), hc]
        omega
theorem drw_ok {n : Nat} {rs : Nat → Int} {k : Int} (hn : n ≤ 12) (h0 : 0 ≤ k) : (0 ≤ p_drw n rs k ∧ p_drw n rs k < n) ↔ k < ((n + p_co rs n : Nat) : Int) := by
  unfold p_drw
  by_cases hk : k < n
  · rw [if_pos hk]
    omega
  · rw [if_neg hk]
    have h1 := p_fo_iff (rs := rs) (a := k - n) n 0 0 (by omega)
    rw [Nat.zero_add, show p_co rs 0 = 0 from rfl] at h1
    have h2 := p_fo_bd rs (k - n) n 0 0
    rw [h1]
    omega
/-- the state of one profile: its cells, its number of corners, wall, cut or not, heights, radii -/
abbrev PR : Type := Nat × Nat × Nat × Nat × Int × Int × (Nat → Int) × (Nat → Int)
def Vd (n : Nat) (th wc : Int) (hs rs : Nat → Int) : Prop := n ≤ 12 ∧ (∀ j, 0 ≤ hs j ∧ hs j ≤ 400) ∧ (∀ j, 0 ≤ rs j ∧ rs j ≤ 200) ∧ (0 ≤ th ∧ th ≤ 50) ∧ (wc = 0 ∨ wc = 1) ∧ p_srt n hs
theorem zupd_bd {f : Nat → Int} {k : Nat} {v lo hi : Int} (h : ∀ j, lo ≤ f j ∧ f j ≤ hi) (hv : lo ≤ v ∧ v ≤ hi) : ∀ j, lo ≤ zupd f k v j ∧ zupd f k v j ≤ hi := by
  intro j
  unfold zupd
  split
  · exact hv
  · exact h j
section VD
variable {n : Nat} {th wc : Int} {hs rs : Nat → Int}
theorem Vd.corner {h u : Int} (v : Vd n th wc hs rs) (hh : 0 ≤ h ∧ h ≤ 400) (hu : 0 ≤ u ∧ u ≤ 200) (hn : n < 12) (hc : p_canf n hs rs h u = true) : Vd (n + 1) th wc (zupd hs (n) (h)) (zupd rs (n) (u)) := by
  obtain ⟨v1, v2, v3, v4, v5, v6⟩ := v
  refine ⟨by omega, zupd_bd v2 hh, zupd_bd v3 hu, v4, v5, fun k hk => ?_⟩
  rw [zupd_n (by omega)]
  by_cases e : k + 1 = n
  · rw [e, zupd_s]
    unfold p_canf at hc
    rw [if_neg (by omega)] at hc
    rw [show k = n - 1 by omega]
    by_cases e2 : h = hs (n - 1)
    · omega
    · rw [if_neg e2] at hc
      have := of_decide_eq_true hc
      omega
  · rw [zupd_n e]
    exact v6 k (by omega)
theorem Vd.wall {x : Int} (v : Vd n th wc hs rs) (hx : 0 ≤ x ∧ x ≤ 50) : Vd n x wc hs rs := ⟨v.1, v.2.1, v.2.2.1, hx, v.2.2.2.2.1, v.2.2.2.2.2⟩
theorem Vd.cutb {h : Int} (v : Vd n th wc hs rs) : Vd (p_cu hs h n) th 1 hs rs := by
  obtain ⟨v1, v2, v3, v4, v5, v6⟩ := v
  have := p_cu_le hs h n
  exact ⟨by omega, v2, v3, v4, Or.inr rfl, fun k hk => v6 k (by omega)⟩
theorem Vd.cuta {h : Int} (v : Vd n th wc hs rs) (h0 : 0 < n) (h1 : hs 0 < h) (h2 : h < hs (n - 1)) : Vd (p_cu hs h n + 1) th 1 (zupd hs (p_cu hs h n) (h)) (zupd rs (p_cu hs h n) (p_radius n hs rs (h))) := by
  obtain ⟨v1, v2, v3, v4, v5, v6⟩ := v
  have hcu := cu_ct (h := h) v6 n (Nat.le_refl _)
  have c1 := m_ct_lt h0 h2
  have c2 := m_ct_pos h1 n h0
  have c3 := m_ct_top n c2
  have b0 := v2 0
  have b1 := v2 (n - 1)
  rw [hcu]
  refine ⟨by omega, zupd_bd v2 (by omega), zupd_bd v3 (cut_rad v6 v3 h0 h1 h2), v4, Or.inr rfl, fun k hk => ?_⟩
  rw [zupd_n (by omega)]
  by_cases e : k + 1 = m_ct hs h n
  · rw [e, zupd_s, show k = m_ct hs h n - 1 by omega]
    exact c3
  · rw [zupd_n e]
    exact v6 k (by omega)
theorem Vd.fresh : Vd 0 0 0 (fun _ => 0) (fun _ => 0) := ⟨Nat.zero_le _, fun _ => (by decide : (0 : Int) ≤ 0 ∧ (0 : Int) ≤ 400), fun _ => (by decide : (0 : Int) ≤ 0 ∧ (0 : Int) ≤ 200), ⟨Int.le_refl _, by decide⟩, Or.inl rfl, fun k hk => absurd hk (Nat.not_lt_zero _)⟩
end VD
