theorem pool_split {pool : List PR} {j : Nat} (h : j < pool.length) : ∃ pre r post, pool = pre ++ r :: post ∧ pre.length = j :=
  ⟨pool.take j, pool[j], pool.drop (j + 1), by rw [List.getElem_cons_drop, List.take_append_drop], by rw [List.length_take]; omega⟩

section CS9
variable {p : Program} {l : Launch} {e : Env} {s : State} {m : MethodId} {below : List Frame} {meth : Method} {c : Code} {H : Heap} {locs : List Loc} {cells slots : Nat} {Q : State → Prop} {ls : Array Slot} {A : Nat → Prop} {b9 L9 i9 : Nat} {scr : Nat → Int32} {dC : Nat → ClassId} {dI : Nat → Nat → Nat} {ws : va_W}
set_option maxHeartbeats 4000000 in
set_option maxRecDepth 100000 in
theorem case_profile {x0 pa ba ax ay sp ss vs fr m0 a1 a2 a3 a4 a5 a6 a7 a8 a9 a10 a11 ou : Nat} {cA cQ cZ cL : ClassId} {pn bn ln sn : Nat} {pf : Nat → Option Nat} {bs xs ys spf ssf vf sf hh rr cf wf of : Nat → Int} {a b tw ab be : Int} {pool : List PR} (hl0 : l.stackTraces = false) (C : LC p s m c b9 L9 scr A (dC, dI) (tysL cA cQ cZ cL)) (hi : i9 + 4 ≤ L9) (hcl : cells + 3 ≤ 600000 ∧ slots + 29 ≤ 7000000) (hl : lv_has ls 8 [(0, .ref b9), (1, .ref x0), (2, .ref m0), (3, .ref ou), (4, .int (zi (i9 : Int)))]) (hP : va_P (dC, dI) vwCl (cX x0 pa ba ax ay sp ss vs fr m0 a1 a2 a3 a4 a5 a6 a7 a8 a9 a10 a11 ou cA cQ cZ cL pn bn ln sn pf bs xs ys spf ssf vf sf hh rr cf wf of a b tw ab be ++ flat cA pool) H) (hD : va_D A (cX x0 pa ba ax ay sp ss vs fr m0 a1 a2 a3 a4 a5 a6 a7 a8 a9 a10 a11 ou cA cQ cZ cL pn bn ln sn pf bs xs ys spf ssf vf sf hh rr cf wf of a b tw ab be ++ flat cA pool)) (hS : va_S A s.heap H locs) (hI : Inv pool pn bn ln sn pf bs xs ys spf ssf vf sf hh rr cf wf)
    (kk : ∀ (k : Int) (z : Int) (ws2 : va_W) (H1 : Heap) (locs1 : List Loc) (ls1 : Array Slot), Fin9 x0 pa ba ax ay sp ss vs fr m0 a1 a2 a3 a4 a5 a6 a7 a8 a9 a10 a11 ou cA cQ cZ cL k z ws2 → va_P (dC, dI) vwCl ws2 H1 → va_D A ws2 → va_S A s.heap H1 locs1 → lv_has ls1 8 [(0, .ref b9), (1, .ref x0), (2, .ref m0), (3, .ref ou), (4, .int (zi (i9 : Int)))] → W p l e room_1 s m #[Value.ref b9] below meth c H1 locs1 (cells + 3) (slots + 29) Q (F0 m 1411 ls1 [])) : W p l e room_1 s m #[Value.ref b9] below meth c H locs (cells) (slots) Q (F0 m 132 ls []) := by
  have b1 := zi_bd (scr (i9 + 1))
  have b2 := zi_bd (scr (i9 + 2))
  have b3 := zi_bd (scr (i9 + 3))
  have hmp := hI.1.2.1
  by_cases c9 : pn < 6
  · have hO := o_profile_y l dC dI x0 pa ba ax ay sp ss vs fr m0 a1 a2 a3 a4 a5 a6 a7 a8 a9 a10 a11 ou cA cQ cZ cL pn bn ln sn pf bs xs ys spf ssf vf sf hh rr cf wf of a b tw ab be pool  hI c9
    exact seg_profile C hi hcl (by decide) hl hP hD hS hO kk
  · have hO := o_profile_S l hl0 dC dI x0 pa ba ax ay sp ss vs fr m0 a1 a2 a3 a4 a5 a6 a7 a8 a9 a10 a11 ou cA cQ cZ cL pn bn ln sn pf bs xs ys spf ssf vf sf hh rr cf wf of a b tw ab be pool  hI (by omega)
    exact seg_profile C hi hcl (by decide) hl hP hD hS hO kk
set_option maxHeartbeats 4000000 in
set_option maxRecDepth 100000 in
theorem case_corner {x0 pa ba ax ay sp ss vs fr m0 a1 a2 a3 a4 a5 a6 a7 a8 a9 a10 a11 ou : Nat} {cA cQ cZ cL : ClassId} {pn bn ln sn : Nat} {pf : Nat → Option Nat} {bs xs ys spf ssf vf sf hh rr cf wf of : Nat → Int} {a b tw ab be : Int} {pool : List PR} (hl0 : l.stackTraces = false) (C : LC p s m c b9 L9 scr A (dC, dI) (tysL cA cQ cZ cL)) (hi : i9 + 4 ≤ L9) (hcl : cells + 3 ≤ 600000 ∧ slots + 29 ≤ 7000000) (hl : lv_has ls 8 [(0, .ref b9), (1, .ref x0), (2, .ref m0), (3, .ref ou), (4, .int (zi (i9 : Int)))]) (hP : va_P (dC, dI) vwCl (cX x0 pa ba ax ay sp ss vs fr m0 a1 a2 a3 a4 a5 a6 a7 a8 a9 a10 a11 ou cA cQ cZ cL pn bn ln sn pf bs xs ys spf ssf vf sf hh rr cf wf of a b tw ab be ++ flat cA pool) H) (hD : va_D A (cX x0 pa ba ax ay sp ss vs fr m0 a1 a2 a3 a4 a5 a6 a7 a8 a9 a10 a11 ou cA cQ cZ cL pn bn ln sn pf bs xs ys spf ssf vf sf hh rr cf wf of a b tw ab be ++ flat cA pool)) (hS : va_S A s.heap H locs) (hI : Inv pool pn bn ln sn pf bs xs ys spf ssf vf sf hh rr cf wf)
    (kk : ∀ (k : Int) (z : Int) (ws2 : va_W) (H1 : Heap) (locs1 : List Loc) (ls1 : Array Slot), Fin9 x0 pa ba ax ay sp ss vs fr m0 a1 a2 a3 a4 a5 a6 a7 a8 a9 a10 a11 ou cA cQ cZ cL k z ws2 → va_P (dC, dI) vwCl ws2 H1 → va_D A ws2 → va_S A s.heap H1 locs1 → lv_has ls1 8 [(0, .ref b9), (1, .ref x0), (2, .ref m0), (3, .ref ou), (4, .int (zi (i9 : Int)))] → W p l e room_1 s m #[Value.ref b9] below meth c H1 locs1 (cells + 3) (slots + 29) Q (F0 m 1411 ls1 [])) : W p l e room_1 s m #[Value.ref b9] below meth c H locs (cells) (slots) Q (F0 m 176 ls []) := by
  have b1 := zi_bd (scr (i9 + 1))
  have b2 := zi_bd (scr (i9 + 2))
  have b3 := zi_bd (scr (i9 + 3))
  have hmp := hI.1.2.1
  by_cases c9 : 0 ≤ (scr (i9 + 1)).toInt ∧ (scr (i9 + 1)).toInt < (pn : Int)
  · obtain ⟨j, hvj⟩ : ∃ j : Nat, (scr (i9 + 1)).toInt = (j : Int) := ⟨((scr (i9 + 1)).toInt).toNat, by omega⟩
    obtain ⟨pre, r, post, hpool, hj⟩ := pool_split (pool := pool) (j := j) (by have := hI.1.1; omega)
    obtain ⟨h0, h1, h2, n, th, wc, hs, rs⟩ := r
    subst hpool
    obtain ⟨⟨-, -, -, -, -, hn, -, -, -, hw, -⟩, -, -, -⟩ := hI.at_
    have hn : n ≤ 12 := hn
    have hw : wc = 0 ∨ wc = 1 := hw
    by_cases c8 : 0 ≤ (scr (i9 + 2)).toInt ∧ (scr (i9 + 2)).toInt ≤ 400 ∧ 0 ≤ (scr (i9 + 3)).toInt ∧ (scr (i9 + 3)).toInt ≤ 200
    · by_cases c7 : wc = 1 ∨ 12 ≤ n
      · have hO := o_corner_S l hl0 dC dI x0 pa ba ax ay sp ss vs fr m0 a1 a2 a3 a4 a5 a6 a7 a8 a9 a10 a11 ou cA cQ cZ cL pn bn ln sn pf bs xs ys spf ssf vf sf hh rr cf wf of a b tw ab be pre post h0 h1 h2 n th wc hs rs j ((scr (i9 + 2)).toInt) ((scr (i9 + 3)).toInt) hI hj ⟨c8.1, c8.2.1⟩ c8.2.2 c7
        rw [← hvj] at hO
        exact seg_corner C hi hcl (by decide) (Or.inl rfl) hl hP hD hS hO kk
      · have hx_n : p_canf n hs rs ((scr (i9 + 2)).toInt) ((scr (i9 + 3)).toInt) = false → W p l e room_1 s m #[Value.ref b9] below meth c H locs (cells) (slots) Q (F0 m 176 ls []) := by
          intro hcf
          have hO := o_corner_n l dC dI x0 pa ba ax ay sp ss vs fr m0 a1 a2 a3 a4 a5 a6 a7 a8 a9 a10 a11 ou cA cQ cZ cL pn bn ln sn pf bs xs ys spf ssf vf sf hh rr cf wf of a b tw ab be pre post h0 h1 h2 n th wc hs rs j ((scr (i9 + 2)).toInt) ((scr (i9 + 3)).toInt) hI hj ⟨c8.1, c8.2.1⟩ c8.2.2 (by omega) hcf
          rw [← hvj] at hO
          exact seg_corner C hi hcl (by decide) (Or.inl rfl) hl hP hD hS hO kk
        have hx_y : p_canf n hs rs ((scr (i9 + 2)).toInt) ((scr (i9 + 3)).toInt) = true → W p l e room_1 s m #[Value.ref b9] below meth c H locs (cells) (slots) Q (F0 m 176 ls []) := by
          intro hcf
          have hO := o_corner_y l dC dI x0 pa ba ax ay sp ss vs fr m0 a1 a2 a3 a4 a5 a6 a7 a8 a9 a10 a11 ou cA cQ cZ cL pn bn ln sn pf bs xs ys spf ssf vf sf hh rr cf wf of a b tw ab be pre post h0 h1 h2 n th wc hs rs j ((scr (i9 + 2)).toInt) ((scr (i9 + 3)).toInt) hI hj ⟨c8.1, c8.2.1⟩ c8.2.2 (by omega) hcf
          rw [← hvj] at hO
          exact seg_corner C hi hcl (by decide) (Or.inr rfl) hl hP hD hS hO kk
        cases hcf : p_canf n hs rs ((scr (i9 + 2)).toInt) ((scr (i9 + 3)).toInt)
        · exact hx_n hcf
        · exact hx_y hcf
    · have hO := o_corner_A l hl0 dC dI x0 pa ba ax ay sp ss vs fr m0 a1 a2 a3 a4 a5 a6 a7 a8 a9 a10 a11 ou cA cQ cZ cL pn bn ln sn pf bs xs ys spf ssf vf sf hh rr cf wf of a b tw ab be pre post h0 h1 h2 n th wc hs rs j ((scr (i9 + 2)).toInt) ((scr (i9 + 3)).toInt) hI hj b2 b3 c8
      rw [← hvj] at hO
      exact seg_corner C hi hcl (by decide) (Or.inl rfl) hl hP hD hS hO kk
  · have hO := o_corner_p l hl0 dC dI x0 pa ba ax ay sp ss vs fr m0 a1 a2 a3 a4 a5 a6 a7 a8 a9 a10 a11 ou cA cQ cZ cL pn bn ln sn pf bs xs ys spf ssf vf sf hh rr cf wf of a b tw ab be pool ((scr (i9 + 1)).toInt) ((scr (i9 + 2)).toInt) ((scr (i9 + 3)).toInt) hI b1 b2 b3 c9
    exact seg_corner C hi hcl (by decide) (Or.inl rfl) hl hP hD hS hO kk
set_option maxHeartbeats 4000000 in
set_option maxRecDepth 100000 in
theorem case_at {x0 pa ba ax ay sp ss vs fr m0 a1 a2 a3 a4 a5 a6 a7 a8 a9 a10 a11 ou : Nat} {cA cQ cZ cL : ClassId} {pn bn ln sn : Nat} {pf : Nat → Option Nat} {bs xs ys spf ssf vf sf hh rr cf wf of : Nat → Int} {a b tw ab be : Int} {pool : List PR} (hl0 : l.stackTraces = false) (C : LC p s m c b9 L9 scr A (dC, dI) (tysL cA cQ cZ cL)) (hi : i9 + 4 ≤ L9) (hcl : cells + 3 ≤ 600000 ∧ slots + 29 ≤ 7000000) (hl : lv_has ls 8 [(0, .ref b9), (1, .ref x0), (2, .ref m0), (3, .ref ou), (4, .int (zi (i9 : Int)))]) (hP : va_P (dC, dI) vwCl (cX x0 pa ba ax ay sp ss vs fr m0 a1 a2 a3 a4 a5 a6 a7 a8 a9 a10 a11 ou cA cQ cZ cL pn bn ln sn pf bs xs ys spf ssf vf sf hh rr cf wf of a b tw ab be ++ flat cA pool) H) (hD : va_D A (cX x0 pa ba ax ay sp ss vs fr m0 a1 a2 a3 a4 a5 a6 a7 a8 a9 a10 a11 ou cA cQ cZ cL pn bn ln sn pf bs xs ys spf ssf vf sf hh rr cf wf of a b tw ab be ++ flat cA pool)) (hS : va_S A s.heap H locs) (hI : Inv pool pn bn ln sn pf bs xs ys spf ssf vf sf hh rr cf wf)
    (kk : ∀ (k : Int) (z : Int) (ws2 : va_W) (H1 : Heap) (locs1 : List Loc) (ls1 : Array Slot), Fin9 x0 pa ba ax ay sp ss vs fr m0 a1 a2 a3 a4 a5 a6 a7 a8 a9 a10 a11 ou cA cQ cZ cL k z ws2 → va_P (dC, dI) vwCl ws2 H1 → va_D A ws2 → va_S A s.heap H1 locs1 → lv_has ls1 8 [(0, .ref b9), (1, .ref x0), (2, .ref m0), (3, .ref ou), (4, .int (zi (i9 : Int)))] → W p l e room_1 s m #[Value.ref b9] below meth c H1 locs1 (cells + 3) (slots + 29) Q (F0 m 1411 ls1 [])) : W p l e room_1 s m #[Value.ref b9] below meth c H locs (cells) (slots) Q (F0 m 263 ls []) := by
  have b1 := zi_bd (scr (i9 + 1))
  have b2 := zi_bd (scr (i9 + 2))
  have b3 := zi_bd (scr (i9 + 3))
  have hmp := hI.1.2.1
  by_cases c9 : 0 ≤ (scr (i9 + 1)).toInt ∧ (scr (i9 + 1)).toInt < (pn : Int)
  · obtain ⟨j, hvj⟩ : ∃ j : Nat, (scr (i9 + 1)).toInt = (j : Int) := ⟨((scr (i9 + 1)).toInt).toNat, by omega⟩
    obtain ⟨pre, r, post, hpool, hj⟩ := pool_split (pool := pool) (j := j) (by have := hI.1.1; omega)
    obtain ⟨h0, h1, h2, n, th, wc, hs, rs⟩ := r
    subst hpool
    obtain ⟨⟨-, -, -, -, -, hn, -, -, -, hw, -⟩, -, -, -⟩ := hI.at_
    have hn : n ≤ 12 := hn
    have hw : wc = 0 ∨ wc = 1 := hw
    by_cases c8 : (scr (i9 + 3)).toInt = 0 ∨ (scr (i9 + 3)).toInt = 1
    · by_cases c7 : (scr (i9 + 2)).toInt = -1 ∨ (0 ≤ (scr (i9 + 2)).toInt ∧ (scr (i9 + 2)).toInt < (n : Int))
      · have hO := o_at_y l dC dI x0 pa ba ax ay sp ss vs fr m0 a1 a2 a3 a4 a5 a6 a7 a8 a9 a10 a11 ou cA cQ cZ cL pn bn ln sn pf bs xs ys spf ssf vf sf hh rr cf wf of a b tw ab be pre post h0 h1 h2 n th wc hs rs j ((scr (i9 + 2)).toInt) ((scr (i9 + 3)).toInt) hI hj b2 b3 c8 c7
        rw [← hvj] at hO
        exact seg_at C hi hcl (by decide) hl hP hD hS hO kk
      · have hO := o_at_k l hl0 dC dI x0 pa ba ax ay sp ss vs fr m0 a1 a2 a3 a4 a5 a6 a7 a8 a9 a10 a11 ou cA cQ cZ cL pn bn ln sn pf bs xs ys spf ssf vf sf hh rr cf wf of a b tw ab be pre post h0 h1 h2 n th wc hs rs j ((scr (i9 + 2)).toInt) ((scr (i9 + 3)).toInt) hI hj b2 b3 c8 (by omega)
        rw [← hvj] at hO
        exact seg_at C hi hcl (by decide) hl hP hD hS hO kk
    · have hO := o_at_w l hl0 dC dI x0 pa ba ax ay sp ss vs fr m0 a1 a2 a3 a4 a5 a6 a7 a8 a9 a10 a11 ou cA cQ cZ cL pn bn ln sn pf bs xs ys spf ssf vf sf hh rr cf wf of a b tw ab be pre post h0 h1 h2 n th wc hs rs j ((scr (i9 + 2)).toInt) ((scr (i9 + 3)).toInt) hI hj b2 b3 c8
      rw [← hvj] at hO
      exact seg_at C hi hcl (by decide) hl hP hD hS hO kk
  · have hO := o_at_p l hl0 dC dI x0 pa ba ax ay sp ss vs fr m0 a1 a2 a3 a4 a5 a6 a7 a8 a9 a10 a11 ou cA cQ cZ cL pn bn ln sn pf bs xs ys spf ssf vf sf hh rr cf wf of a b tw ab be pool ((scr (i9 + 1)).toInt) ((scr (i9 + 2)).toInt) ((scr (i9 + 3)).toInt) hI b1 c9
    exact seg_at C hi hcl (by decide) hl hP hD hS hO kk
set_option maxHeartbeats 4000000 in
set_option maxRecDepth 100000 in
theorem case_radius {x0 pa ba ax ay sp ss vs fr m0 a1 a2 a3 a4 a5 a6 a7 a8 a9 a10 a11 ou : Nat} {cA cQ cZ cL : ClassId} {pn bn ln sn : Nat} {pf : Nat → Option Nat} {bs xs ys spf ssf vf sf hh rr cf wf of : Nat → Int} {a b tw ab be : Int} {pool : List PR} (hl0 : l.stackTraces = false) (C : LC p s m c b9 L9 scr A (dC, dI) (tysL cA cQ cZ cL)) (hi : i9 + 4 ≤ L9) (hcl : cells + 3 ≤ 600000 ∧ slots + 29 ≤ 7000000) (hl : lv_has ls 8 [(0, .ref b9), (1, .ref x0), (2, .ref m0), (3, .ref ou), (4, .int (zi (i9 : Int)))]) (hP : va_P (dC, dI) vwCl (cX x0 pa ba ax ay sp ss vs fr m0 a1 a2 a3 a4 a5 a6 a7 a8 a9 a10 a11 ou cA cQ cZ cL pn bn ln sn pf bs xs ys spf ssf vf sf hh rr cf wf of a b tw ab be ++ flat cA pool) H) (hD : va_D A (cX x0 pa ba ax ay sp ss vs fr m0 a1 a2 a3 a4 a5 a6 a7 a8 a9 a10 a11 ou cA cQ cZ cL pn bn ln sn pf bs xs ys spf ssf vf sf hh rr cf wf of a b tw ab be ++ flat cA pool)) (hS : va_S A s.heap H locs) (hI : Inv pool pn bn ln sn pf bs xs ys spf ssf vf sf hh rr cf wf)
    (kk : ∀ (k : Int) (z : Int) (ws2 : va_W) (H1 : Heap) (locs1 : List Loc) (ls1 : Array Slot), Fin9 x0 pa ba ax ay sp ss vs fr m0 a1 a2 a3 a4 a5 a6 a7 a8 a9 a10 a11 ou cA cQ cZ cL k z ws2 → va_P (dC, dI) vwCl ws2 H1 → va_D A ws2 → va_S A s.heap H1 locs1 → lv_has ls1 8 [(0, .ref b9), (1, .ref x0), (2, .ref m0), (3, .ref ou), (4, .int (zi (i9 : Int)))] → W p l e room_1 s m #[Value.ref b9] below meth c H1 locs1 (cells + 3) (slots + 29) Q (F0 m 1411 ls1 [])) : W p l e room_1 s m #[Value.ref b9] below meth c H locs (cells) (slots) Q (F0 m 343 ls []) := by
  have b1 := zi_bd (scr (i9 + 1))
  have b2 := zi_bd (scr (i9 + 2))
  have b3 := zi_bd (scr (i9 + 3))
  have hmp := hI.1.2.1
  by_cases c9 : 0 ≤ (scr (i9 + 1)).toInt ∧ (scr (i9 + 1)).toInt < (pn : Int)
  · obtain ⟨j, hvj⟩ : ∃ j : Nat, (scr (i9 + 1)).toInt = (j : Int) := ⟨((scr (i9 + 1)).toInt).toNat, by omega⟩
    obtain ⟨pre, r, post, hpool, hj⟩ := pool_split (pool := pool) (j := j) (by have := hI.1.1; omega)
    obtain ⟨h0, h1, h2, n, th, wc, hs, rs⟩ := r
    subst hpool
    obtain ⟨⟨-, -, -, -, -, hn, -, -, -, hw, -⟩, -, -, -⟩ := hI.at_
    have hn : n ≤ 12 := hn
    have hw : wc = 0 ∨ wc = 1 := hw
    have hO := o_radius_y l dC dI x0 pa ba ax ay sp ss vs fr m0 a1 a2 a3 a4 a5 a6 a7 a8 a9 a10 a11 ou cA cQ cZ cL pn bn ln sn pf bs xs ys spf ssf vf sf hh rr cf wf of a b tw ab be pre post h0 h1 h2 n th wc hs rs j ((scr (i9 + 2)).toInt) hI hj b2
    rw [← hvj] at hO
    exact seg_radius C hi hcl (by decide) hl hP hD hS hO kk
  · have hO := o_radius_p l hl0 dC dI x0 pa ba ax ay sp ss vs fr m0 a1 a2 a3 a4 a5 a6 a7 a8 a9 a10 a11 ou cA cQ cZ cL pn bn ln sn pf bs xs ys spf ssf vf sf hh rr cf wf of a b tw ab be pool ((scr (i9 + 1)).toInt) ((scr (i9 + 2)).toInt) hI b1 c9
    exact seg_radius C hi hcl (by decide) hl hP hD hS hO kk
set_option maxHeartbeats 4000000 in
set_option maxRecDepth 100000 in
theorem case_volume {x0 pa ba ax ay sp ss vs fr m0 a1 a2 a3 a4 a5 a6 a7 a8 a9 a10 a11 ou : Nat} {cA cQ cZ cL : ClassId} {pn bn ln sn : Nat} {pf : Nat → Option Nat} {bs xs ys spf ssf vf sf hh rr cf wf of : Nat → Int} {a b tw ab be : Int} {pool : List PR} (hl0 : l.stackTraces = false) (C : LC p s m c b9 L9 scr A (dC, dI) (tysL cA cQ cZ cL)) (hi : i9 + 4 ≤ L9) (hcl : cells + 3 ≤ 600000 ∧ slots + 29 ≤ 7000000) (hl : lv_has ls 8 [(0, .ref b9), (1, .ref x0), (2, .ref m0), (3, .ref ou), (4, .int (zi (i9 : Int)))]) (hP : va_P (dC, dI) vwCl (cX x0 pa ba ax ay sp ss vs fr m0 a1 a2 a3 a4 a5 a6 a7 a8 a9 a10 a11 ou cA cQ cZ cL pn bn ln sn pf bs xs ys spf ssf vf sf hh rr cf wf of a b tw ab be ++ flat cA pool) H) (hD : va_D A (cX x0 pa ba ax ay sp ss vs fr m0 a1 a2 a3 a4 a5 a6 a7 a8 a9 a10 a11 ou cA cQ cZ cL pn bn ln sn pf bs xs ys spf ssf vf sf hh rr cf wf of a b tw ab be ++ flat cA pool)) (hS : va_S A s.heap H locs) (hI : Inv pool pn bn ln sn pf bs xs ys spf ssf vf sf hh rr cf wf)
    (kk : ∀ (k : Int) (z : Int) (ws2 : va_W) (H1 : Heap) (locs1 : List Loc) (ls1 : Array Slot), Fin9 x0 pa ba ax ay sp ss vs fr m0 a1 a2 a3 a4 a5 a6 a7 a8 a9 a10 a11 ou cA cQ cZ cL k z ws2 → va_P (dC, dI) vwCl ws2 H1 → va_D A ws2 → va_S A s.heap H1 locs1 → lv_has ls1 8 [(0, .ref b9), (1, .ref x0), (2, .ref m0), (3, .ref ou), (4, .int (zi (i9 : Int)))] → W p l e room_1 s m #[Value.ref b9] below meth c H1 locs1 (cells + 3) (slots + 29) Q (F0 m 1411 ls1 [])) : W p l e room_1 s m #[Value.ref b9] below meth c H locs (cells) (slots) Q (F0 m 411 ls []) := by
  have b1 := zi_bd (scr (i9 + 1))
  have b2 := zi_bd (scr (i9 + 2))
  have b3 := zi_bd (scr (i9 + 3))
  have hmp := hI.1.2.1
  by_cases c9 : 0 ≤ (scr (i9 + 1)).toInt ∧ (scr (i9 + 1)).toInt < (pn : Int)
  · obtain ⟨j, hvj⟩ : ∃ j : Nat, (scr (i9 + 1)).toInt = (j : Int) := ⟨((scr (i9 + 1)).toInt).toNat, by omega⟩
    obtain ⟨pre, r, post, hpool, hj⟩ := pool_split (pool := pool) (j := j) (by have := hI.1.1; omega)
    obtain ⟨h0, h1, h2, n, th, wc, hs, rs⟩ := r
    subst hpool
    obtain ⟨⟨-, -, -, -, -, hn, -, -, -, hw, -⟩, -, -, -⟩ := hI.at_
    have hn : n ≤ 12 := hn
    have hw : wc = 0 ∨ wc = 1 := hw
    by_cases c8 : (scr (i9 + 3)).toInt = 0 ∨ (scr (i9 + 3)).toInt = 1
    · have hO := o_volume_y l dC dI x0 pa ba ax ay sp ss vs fr m0 a1 a2 a3 a4 a5 a6 a7 a8 a9 a10 a11 ou cA cQ cZ cL pn bn ln sn pf bs xs ys spf ssf vf sf hh rr cf wf of a b tw ab be pre post h0 h1 h2 n th wc hs rs j ((scr (i9 + 2)).toInt) ((scr (i9 + 3)).toInt) hI hj b2 c8
      rw [← hvj] at hO
      exact seg_volume C hi hcl (by decide) hl hP hD hS hO kk
    · have hO := o_volume_w l hl0 dC dI x0 pa ba ax ay sp ss vs fr m0 a1 a2 a3 a4 a5 a6 a7 a8 a9 a10 a11 ou cA cQ cZ cL pn bn ln sn pf bs xs ys spf ssf vf sf hh rr cf wf of a b tw ab be pre post h0 h1 h2 n th wc hs rs j ((scr (i9 + 2)).toInt) ((scr (i9 + 3)).toInt) hI hj b2 b3 c8
      rw [← hvj] at hO
      exact seg_volume C hi hcl (by decide) hl hP hD hS hO kk
  · have hO := o_volume_p l hl0 dC dI x0 pa ba ax ay sp ss vs fr m0 a1 a2 a3 a4 a5 a6 a7 a8 a9 a10 a11 ou cA cQ cZ cL pn bn ln sn pf bs xs ys spf ssf vf sf hh rr cf wf of a b tw ab be pool ((scr (i9 + 1)).toInt) ((scr (i9 + 2)).toInt) ((scr (i9 + 3)).toInt) hI b1 b2 b3 c9
    exact seg_volume C hi hcl (by decide) hl hP hD hS hO kk
set_option maxHeartbeats 4000000 in
set_option maxRecDepth 100000 in
theorem case_holds {x0 pa ba ax ay sp ss vs fr m0 a1 a2 a3 a4 a5 a6 a7 a8 a9 a10 a11 ou : Nat} {cA cQ cZ cL : ClassId} {pn bn ln sn : Nat} {pf : Nat → Option Nat} {bs xs ys spf ssf vf sf hh rr cf wf of : Nat → Int} {a b tw ab be : Int} {pool : List PR} (hl0 : l.stackTraces = false) (C : LC p s m c b9 L9 scr A (dC, dI) (tysL cA cQ cZ cL)) (hi : i9 + 4 ≤ L9) (hcl : cells + 3 ≤ 600000 ∧ slots + 29 ≤ 7000000) (hl : lv_has ls 8 [(0, .ref b9), (1, .ref x0), (2, .ref m0), (3, .ref ou), (4, .int (zi (i9 : Int)))]) (hP : va_P (dC, dI) vwCl (cX x0 pa ba ax ay sp ss vs fr m0 a1 a2 a3 a4 a5 a6 a7 a8 a9 a10 a11 ou cA cQ cZ cL pn bn ln sn pf bs xs ys spf ssf vf sf hh rr cf wf of a b tw ab be ++ flat cA pool) H) (hD : va_D A (cX x0 pa ba ax ay sp ss vs fr m0 a1 a2 a3 a4 a5 a6 a7 a8 a9 a10 a11 ou cA cQ cZ cL pn bn ln sn pf bs xs ys spf ssf vf sf hh rr cf wf of a b tw ab be ++ flat cA pool)) (hS : va_S A s.heap H locs) (hI : Inv pool pn bn ln sn pf bs xs ys spf ssf vf sf hh rr cf wf)
    (kk : ∀ (k : Int) (z : Int) (ws2 : va_W) (H1 : Heap) (locs1 : List Loc) (ls1 : Array Slot), Fin9 x0 pa ba ax ay sp ss vs fr m0 a1 a2 a3 a4 a5 a6 a7 a8 a9 a10 a11 ou cA cQ cZ cL k z ws2 → va_P (dC, dI) vwCl ws2 H1 → va_D A ws2 → va_S A s.heap H1 locs1 → lv_has ls1 8 [(0, .ref b9), (1, .ref x0), (2, .ref m0), (3, .ref ou), (4, .int (zi (i9 : Int)))] → W p l e room_1 s m #[Value.ref b9] below meth c H1 locs1 (cells + 3) (slots + 29) Q (F0 m 1411 ls1 [])) : W p l e room_1 s m #[Value.ref b9] below meth c H locs (cells) (slots) Q (F0 m 490 ls []) := by
  have b1 := zi_bd (scr (i9 + 1))
  have b2 := zi_bd (scr (i9 + 2))
  have b3 := zi_bd (scr (i9 + 3))
  have hmp := hI.1.2.1
  by_cases c9 : 0 ≤ (scr (i9 + 1)).toInt ∧ (scr (i9 + 1)).toInt < (pn : Int)
  · obtain ⟨j, hvj⟩ : ∃ j : Nat, (scr (i9 + 1)).toInt = (j : Int) := ⟨((scr (i9 + 1)).toInt).toNat, by omega⟩
    obtain ⟨pre, r, post, hpool, hj⟩ := pool_split (pool := pool) (j := j) (by have := hI.1.1; omega)
    obtain ⟨h0, h1, h2, n, th, wc, hs, rs⟩ := r
    subst hpool
    obtain ⟨⟨-, -, -, -, -, hn, -, -, -, hw, -⟩, -, -, -⟩ := hI.at_
    have hn : n ≤ 12 := hn
    have hw : wc = 0 ∨ wc = 1 := hw
    by_cases c8 : (scr (i9 + 3)).toInt = 0 ∨ (scr (i9 + 3)).toInt = 1
    · have hO := o_holds_y l dC dI x0 pa ba ax ay sp ss vs fr m0 a1 a2 a3 a4 a5 a6 a7 a8 a9 a10 a11 ou cA cQ cZ cL pn bn ln sn pf bs xs ys spf ssf vf sf hh rr cf wf of a b tw ab be pre post h0 h1 h2 n th wc hs rs j ((scr (i9 + 2)).toInt) ((scr (i9 + 3)).toInt) hI hj b2 c8
      rw [← hvj] at hO
      exact seg_holds C hi hcl (by decide) hl hP hD hS hO kk
    · have hO := o_holds_w l hl0 dC dI x0 pa ba ax ay sp ss vs fr m0 a1 a2 a3 a4 a5 a6 a7 a8 a9 a10 a11 ou cA cQ cZ cL pn bn ln sn pf bs xs ys spf ssf vf sf hh rr cf wf of a b tw ab be pre post h0 h1 h2 n th wc hs rs j ((scr (i9 + 2)).toInt) ((scr (i9 + 3)).toInt) hI hj b2 b3 c8
      rw [← hvj] at hO
      exact seg_holds C hi hcl (by decide) hl hP hD hS hO kk
  · have hO := o_holds_p l hl0 dC dI x0 pa ba ax ay sp ss vs fr m0 a1 a2 a3 a4 a5 a6 a7 a8 a9 a10 a11 ou cA cQ cZ cL pn bn ln sn pf bs xs ys spf ssf vf sf hh rr cf wf of a b tw ab be pool ((scr (i9 + 1)).toInt) ((scr (i9 + 2)).toInt) ((scr (i9 + 3)).toInt) hI b1 b2 b3 c9
    exact seg_holds C hi hcl (by decide) hl hP hD hS hO kk
set_option maxHeartbeats 4000000 in
set_option maxRecDepth 100000 in
theorem case_enclosed {x0 pa ba ax ay sp ss vs fr m0 a1 a2 a3 a4 a5 a6 a7 a8 a9 a10 a11 ou : Nat} {cA cQ cZ cL : ClassId} {pn bn ln sn : Nat} {pf : Nat → Option Nat} {bs xs ys spf ssf vf sf hh rr cf wf of : Nat → Int} {a b tw ab be : Int} {pool : List PR} (hl0 : l.stackTraces = false) (C : LC p s m c b9 L9 scr A (dC, dI) (tysL cA cQ cZ cL)) (hi : i9 + 4 ≤ L9) (hcl : cells + 3 ≤ 600000 ∧ slots + 29 ≤ 7000000) (hl : lv_has ls 8 [(0, .ref b9), (1, .ref x0), (2, .ref m0), (3, .ref ou), (4, .int (zi (i9 : Int)))]) (hP : va_P (dC, dI) vwCl (cX x0 pa ba ax ay sp ss vs fr m0 a1 a2 a3 a4 a5 a6 a7 a8 a9 a10 a11 ou cA cQ cZ cL pn bn ln sn pf bs xs ys spf ssf vf sf hh rr cf wf of a b tw ab be ++ flat cA pool) H) (hD : va_D A (cX x0 pa ba ax ay sp ss vs fr m0 a1 a2 a3 a4 a5 a6 a7 a8 a9 a10 a11 ou cA cQ cZ cL pn bn ln sn pf bs xs ys spf ssf vf sf hh rr cf wf of a b tw ab be ++ flat cA pool)) (hS : va_S A s.heap H locs) (hI : Inv pool pn bn ln sn pf bs xs ys spf ssf vf sf hh rr cf wf)
    (kk : ∀ (k : Int) (z : Int) (ws2 : va_W) (H1 : Heap) (locs1 : List Loc) (ls1 : Array Slot), Fin9 x0 pa ba ax ay sp ss vs fr m0 a1 a2 a3 a4 a5 a6 a7 a8 a9 a10 a11 ou cA cQ cZ cL k z ws2 → va_P (dC, dI) vwCl ws2 H1 → va_D A ws2 → va_S A s.heap H1 locs1 → lv_has ls1 8 [(0, .ref b9), (1, .ref x0), (2, .ref m0), (3, .ref ou), (4, .int (zi (i9 : Int)))] → W p l e room_1 s m #[Value.ref b9] below meth c H1 locs1 (cells + 3) (slots + 29) Q (F0 m 1411 ls1 [])) : W p l e room_1 s m #[Value.ref b9] below meth c H locs (cells) (slots) Q (F0 m 569 ls []) := by
  have b1 := zi_bd (scr (i9 + 1))
  have b2 := zi_bd (scr (i9 + 2))
  have b3 := zi_bd (scr (i9 + 3))
  have hmp := hI.1.2.1
  by_cases c9 : 0 ≤ (scr (i9 + 1)).toInt ∧ (scr (i9 + 1)).toInt < (pn : Int)
  · obtain ⟨j, hvj⟩ : ∃ j : Nat, (scr (i9 + 1)).toInt = (j : Int) := ⟨((scr (i9 + 1)).toInt).toNat, by omega⟩
    obtain ⟨pre, r, post, hpool, hj⟩ := pool_split (pool := pool) (j := j) (by have := hI.1.1; omega)
    obtain ⟨h0, h1, h2, n, th, wc, hs, rs⟩ := r
    subst hpool
    obtain ⟨⟨-, -, -, -, -, hn, -, -, -, hw, -⟩, -, -, -⟩ := hI.at_
    have hn : n ≤ 12 := hn
    have hw : wc = 0 ∨ wc = 1 := hw
    by_cases c8 : (scr (i9 + 2)).toInt = 0 ∨ (scr (i9 + 2)).toInt = 1
    · have hO := o_enclosed_y l dC dI x0 pa ba ax ay sp ss vs fr m0 a1 a2 a3 a4 a5 a6 a7 a8 a9 a10 a11 ou cA cQ cZ cL pn bn ln sn pf bs xs ys spf ssf vf sf hh rr cf wf of a b tw ab be pre post h0 h1 h2 n th wc hs rs j ((scr (i9 + 2)).toInt) hI hj c8
      rw [← hvj] at hO
      exact seg_enclosed C hi hcl (by decide) hl hP hD hS hO kk
    · have hO := o_enclosed_w l hl0 dC dI x0 pa ba ax ay sp ss vs fr m0 a1 a2 a3 a4 a5 a6 a7 a8 a9 a10 a11 ou cA cQ cZ cL pn bn ln sn pf bs xs ys spf ssf vf sf hh rr cf wf of a b tw ab be pre post h0 h1 h2 n th wc hs rs j ((scr (i9 + 2)).toInt) hI hj b2 c8
      rw [← hvj] at hO
      exact seg_enclosed C hi hcl (by decide) hl hP hD hS hO kk
  · have hO := o_enclosed_p l hl0 dC dI x0 pa ba ax ay sp ss vs fr m0 a1 a2 a3 a4 a5 a6 a7 a8 a9 a10 a11 ou cA cQ cZ cL pn bn ln sn pf bs xs ys spf ssf vf sf hh rr cf wf of a b tw ab be pool ((scr (i9 + 1)).toInt) ((scr (i9 + 2)).toInt) hI b1 b2 c9
    exact seg_enclosed C hi hcl (by decide) hl hP hD hS hO kk
set_option maxHeartbeats 4000000 in
set_option maxRecDepth 100000 in
theorem case_wall {x0 pa ba ax ay sp ss vs fr m0 a1 a2 a3 a4 a5 a6 a7 a8 a9 a10 a11 ou : Nat} {cA cQ cZ cL : ClassId} {pn bn ln sn : Nat} {pf : Nat → Option Nat} {bs xs ys spf ssf vf sf hh rr cf wf of : Nat → Int} {a b tw ab be : Int} {pool : List PR} (hl0 : l.stackTraces = false) (C : LC p s m c b9 L9 scr A (dC, dI) (tysL cA cQ cZ cL)) (hi : i9 + 4 ≤ L9) (hcl : cells + 3 ≤ 600000 ∧ slots + 29 ≤ 7000000) (hl : lv_has ls 8 [(0, .ref b9), (1, .ref x0), (2, .ref m0), (3, .ref ou), (4, .int (zi (i9 : Int)))]) (hP : va_P (dC, dI) vwCl (cX x0 pa ba ax ay sp ss vs fr m0 a1 a2 a3 a4 a5 a6 a7 a8 a9 a10 a11 ou cA cQ cZ cL pn bn ln sn pf bs xs ys spf ssf vf sf hh rr cf wf of a b tw ab be ++ flat cA pool) H) (hD : va_D A (cX x0 pa ba ax ay sp ss vs fr m0 a1 a2 a3 a4 a5 a6 a7 a8 a9 a10 a11 ou cA cQ cZ cL pn bn ln sn pf bs xs ys spf ssf vf sf hh rr cf wf of a b tw ab be ++ flat cA pool)) (hS : va_S A s.heap H locs) (hI : Inv pool pn bn ln sn pf bs xs ys spf ssf vf sf hh rr cf wf)
    (kk : ∀ (k : Int) (z : Int) (ws2 : va_W) (H1 : Heap) (locs1 : List Loc) (ls1 : Array Slot), Fin9 x0 pa ba ax ay sp ss vs fr m0 a1 a2 a3 a4 a5 a6 a7 a8 a9 a10 a11 ou cA cQ cZ cL k z ws2 → va_P (dC, dI) vwCl ws2 H1 → va_D A ws2 → va_S A s.heap H1 locs1 → lv_has ls1 8 [(0, .ref b9), (1, .ref x0), (2, .ref m0), (3, .ref ou), (4, .int (zi (i9 : Int)))] → W p l e room_1 s m #[Value.ref b9] below meth c H1 locs1 (cells + 3) (slots + 29) Q (F0 m 1411 ls1 [])) : W p l e room_1 s m #[Value.ref b9] below meth c H locs (cells) (slots) Q (F0 m 636 ls []) := by
  have b1 := zi_bd (scr (i9 + 1))
  have b2 := zi_bd (scr (i9 + 2))
  have b3 := zi_bd (scr (i9 + 3))
  have hmp := hI.1.2.1
  by_cases c9 : 0 ≤ (scr (i9 + 1)).toInt ∧ (scr (i9 + 1)).toInt < (pn : Int)
  · obtain ⟨j, hvj⟩ : ∃ j : Nat, (scr (i9 + 1)).toInt = (j : Int) := ⟨((scr (i9 + 1)).toInt).toNat, by omega⟩
    obtain ⟨pre, r, post, hpool, hj⟩ := pool_split (pool := pool) (j := j) (by have := hI.1.1; omega)
    obtain ⟨h0, h1, h2, n, th, wc, hs, rs⟩ := r
    subst hpool
    obtain ⟨⟨-, -, -, -, -, hn, -, -, -, hw, -⟩, -, -, -⟩ := hI.at_
    have hn : n ≤ 12 := hn
    have hw : wc = 0 ∨ wc = 1 := hw
    by_cases c8 : 0 ≤ (scr (i9 + 2)).toInt ∧ (scr (i9 + 2)).toInt ≤ 50
    · have hO := o_wall_y l dC dI x0 pa ba ax ay sp ss vs fr m0 a1 a2 a3 a4 a5 a6 a7 a8 a9 a10 a11 ou cA cQ cZ cL pn bn ln sn pf bs xs ys spf ssf vf sf hh rr cf wf of a b tw ab be pre post h0 h1 h2 n th wc hs rs j ((scr (i9 + 2)).toInt) hI hj c8
      rw [← hvj] at hO
      exact seg_wall C hi hcl (by decide) hl hP hD hS hO kk
    · have hO := o_wall_A l hl0 dC dI x0 pa ba ax ay sp ss vs fr m0 a1 a2 a3 a4 a5 a6 a7 a8 a9 a10 a11 ou cA cQ cZ cL pn bn ln sn pf bs xs ys spf ssf vf sf hh rr cf wf of a b tw ab be pre post h0 h1 h2 n th wc hs rs j ((scr (i9 + 2)).toInt) hI hj b2 c8
      rw [← hvj] at hO
      exact seg_wall C hi hcl (by decide) hl hP hD hS hO kk
  · have hO := o_wall_p l hl0 dC dI x0 pa ba ax ay sp ss vs fr m0 a1 a2 a3 a4 a5 a6 a7 a8 a9 a10 a11 ou cA cQ cZ cL pn bn ln sn pf bs xs ys spf ssf vf sf hh rr cf wf of a b tw ab be pool ((scr (i9 + 1)).toInt) ((scr (i9 + 2)).toInt) hI b1 b2 c9
    exact seg_wall C hi hcl (by decide) hl hP hD hS hO kk
set_option maxHeartbeats 4000000 in
set_option maxRecDepth 100000 in
theorem case_unlike {x0 pa ba ax ay sp ss vs fr m0 a1 a2 a3 a4 a5 a6 a7 a8 a9 a10 a11 ou : Nat} {cA cQ cZ cL : ClassId} {pn bn ln sn : Nat} {pf : Nat → Option Nat} {bs xs ys spf ssf vf sf hh rr cf wf of : Nat → Int} {a b tw ab be : Int} {pool : List PR} (hl0 : l.stackTraces = false) (C : LC p s m c b9 L9 scr A (dC, dI) (tysL cA cQ cZ cL)) (hi : i9 + 4 ≤ L9) (hcl : cells + 3 ≤ 600000 ∧ slots + 29 ≤ 7000000) (hl : lv_has ls 8 [(0, .ref b9), (1, .ref x0), (2, .ref m0), (3, .ref ou), (4, .int (zi (i9 : Int)))]) (hP : va_P (dC, dI) vwCl (cX x0 pa ba ax ay sp ss vs fr m0 a1 a2 a3 a4 a5 a6 a7 a8 a9 a10 a11 ou cA cQ cZ cL pn bn ln sn pf bs xs ys spf ssf vf sf hh rr cf wf of a b tw ab be ++ flat cA pool) H) (hD : va_D A (cX x0 pa ba ax ay sp ss vs fr m0 a1 a2 a3 a4 a5 a6 a7 a8 a9 a10 a11 ou cA cQ cZ cL pn bn ln sn pf bs xs ys spf ssf vf sf hh rr cf wf of a b tw ab be ++ flat cA pool)) (hS : va_S A s.heap H locs) (hI : Inv pool pn bn ln sn pf bs xs ys spf ssf vf sf hh rr cf wf)
    (kk : ∀ (k : Int) (z : Int) (ws2 : va_W) (H1 : Heap) (locs1 : List Loc) (ls1 : Array Slot), Fin9 x0 pa ba ax ay sp ss vs fr m0 a1 a2 a3 a4 a5 a6 a7 a8 a9 a10 a11 ou cA cQ cZ cL k z ws2 → va_P (dC, dI) vwCl ws2 H1 → va_D A ws2 → va_S A s.heap H1 locs1 → lv_has ls1 8 [(0, .ref b9), (1, .ref x0), (2, .ref m0), (3, .ref ou), (4, .int (zi (i9 : Int)))] → W p l e room_1 s m #[Value.ref b9] below meth c H1 locs1 (cells + 3) (slots + 29) Q (F0 m 1411 ls1 [])) : W p l e room_1 s m #[Value.ref b9] below meth c H locs (cells) (slots) Q (F0 m 704 ls []) := by
  have b1 := zi_bd (scr (i9 + 1))
  have b2 := zi_bd (scr (i9 + 2))
  have b3 := zi_bd (scr (i9 + 3))
  have hmp := hI.1.2.1
  by_cases c9 : 0 ≤ (scr (i9 + 1)).toInt ∧ (scr (i9 + 1)).toInt < (pn : Int)
  · by_cases c8 : 0 ≤ (scr (i9 + 2)).toInt ∧ (scr (i9 + 2)).toInt < (pn : Int)
    · by_cases c7 : (scr (i9 + 1)).toInt = (scr (i9 + 2)).toInt
      · obtain ⟨j, hvj⟩ : ∃ j : Nat, (scr (i9 + 1)).toInt = (j : Int) := ⟨((scr (i9 + 1)).toInt).toNat, by omega⟩
        obtain ⟨pre, r, post, hpool, hj⟩ := pool_split (pool := pool) (j := j) (by have := hI.1.1; omega)
        obtain ⟨h0, h1, h2, n, th, wc, hs, rs⟩ := r
        subst hpool
        obtain ⟨⟨-, -, -, -, -, hn, -, -, -, hw, -⟩, -, -, -⟩ := hI.at_
        have hn : n ≤ 12 := hn
        have hw : wc = 0 ∨ wc = 1 := hw
        have hv2 : (scr (i9 + 2)).toInt = (j : Int) := by omega
        have hO := o_unlike_s l dC dI x0 pa ba ax ay sp ss vs fr m0 a1 a2 a3 a4 a5 a6 a7 a8 a9 a10 a11 ou cA cQ cZ cL pn bn ln sn pf bs xs ys spf ssf vf sf hh rr cf wf of a b tw ab be pre post h0 h1 h2 n th wc hs rs j  hI hj 
        exact seg_unlike (k := 0) (bv := p_unl (fun h => m_rad n hs rs h n 0 (-1)) (fun h => m_rad n hs rs h n 0 (-1)) (401)) C hi hcl (by decide) hl hP hD hS (by rw [hvj, hv2]; exact hO) kk
      · by_cases c6 : (scr (i9 + 1)).toInt < (scr (i9 + 2)).toInt
        · obtain ⟨j, hvj⟩ : ∃ j : Nat, (scr (i9 + 1)).toInt = (j : Int) := ⟨((scr (i9 + 1)).toInt).toNat, by omega⟩
          obtain ⟨q, hvq⟩ : ∃ q : Nat, (scr (i9 + 2)).toInt = (q : Int) := ⟨((scr (i9 + 2)).toInt).toNat, by omega⟩
          obtain ⟨pre, r, rest, hpool, hj⟩ := pool_split (pool := pool) (j := j) (by have := hI.1.1; omega)
          have hlen : pool.length = j + (rest.length + 1) := by rw [hpool, List.length_append, List.length_cons, hj]
          obtain ⟨mid, t, post, hrest, hm⟩ := pool_split (pool := rest) (j := q - j - 1) (by have := hI.1.1; omega)
          subst hrest
          subst hpool
          obtain ⟨h0, h1, h2, n, th, wc, hs, rs⟩ := r
          obtain ⟨g0, g1, g2, n', th', wc', hs', rs'⟩ := t
          have hO := o_unlike_d l dC dI x0 pa ba ax ay sp ss vs fr m0 a1 a2 a3 a4 a5 a6 a7 a8 a9 a10 a11 ou cA cQ cZ cL pn bn ln sn pf bs xs ys spf ssf vf sf hh rr cf wf of a b tw ab be pre mid post h0 h1 h2 n th wc hs rs g0 g1 g2 n' th' wc' hs' rs' j q hI hj (by rw [List.length_append, List.length_cons]; omega)
          rw [← hvj, ← hvq] at hO
          exact seg_unlike C hi hcl (by decide) hl hP hD hS hO kk
        · obtain ⟨j, hvj⟩ : ∃ j : Nat, (scr (i9 + 2)).toInt = (j : Int) := ⟨((scr (i9 + 2)).toInt).toNat, by omega⟩
          obtain ⟨q, hvq⟩ : ∃ q : Nat, (scr (i9 + 1)).toInt = (q : Int) := ⟨((scr (i9 + 1)).toInt).toNat, by omega⟩
          obtain ⟨pre, r, rest, hpool, hj⟩ := pool_split (pool := pool) (j := j) (by have := hI.1.1; omega)
          have hlen : pool.length = j + (rest.length + 1) := by rw [hpool, List.length_append, List.length_cons, hj]
          obtain ⟨mid, t, post, hrest, hm⟩ := pool_split (pool := rest) (j := q - j - 1) (by have := hI.1.1; omega)
          subst hrest
          subst hpool
          obtain ⟨h0, h1, h2, n, th, wc, hs, rs⟩ := r
          obtain ⟨g0, g1, g2, n', th', wc', hs', rs'⟩ := t
          have hO := o_unlike_e l dC dI x0 pa ba ax ay sp ss vs fr m0 a1 a2 a3 a4 a5 a6 a7 a8 a9 a10 a11 ou cA cQ cZ cL pn bn ln sn pf bs xs ys spf ssf vf sf hh rr cf wf of a b tw ab be pre mid post h0 h1 h2 n th wc hs rs g0 g1 g2 n' th' wc' hs' rs' j q hI hj (by rw [List.length_append, List.length_cons]; omega)
          rw [← hvj, ← hvq] at hO
          exact seg_unlike C hi hcl (by decide) hl hP hD hS hO kk
    · obtain ⟨j, hvj⟩ : ∃ j : Nat, (scr (i9 + 1)).toInt = (j : Int) := ⟨((scr (i9 + 1)).toInt).toNat, by omega⟩
      obtain ⟨pre, r, post, hpool, hj⟩ := pool_split (pool := pool) (j := j) (by have := hI.1.1; omega)
      obtain ⟨h0, h1, h2, n, th, wc, hs, rs⟩ := r
      subst hpool
      obtain ⟨⟨-, -, -, -, -, hn, -, -, -, hw, -⟩, -, -, -⟩ := hI.at_
      have hn : n ≤ 12 := hn
      have hw : wc = 0 ∨ wc = 1 := hw
      have hO := o_unlike_q l hl0 dC dI x0 pa ba ax ay sp ss vs fr m0 a1 a2 a3 a4 a5 a6 a7 a8 a9 a10 a11 ou cA cQ cZ cL pn bn ln sn pf bs xs ys spf ssf vf sf hh rr cf wf of a b tw ab be pre post h0 h1 h2 n th wc hs rs j ((scr (i9 + 2)).toInt) hI hj b2 c8
      rw [← hvj] at hO
      exact seg_unlike C hi hcl (by decide) hl hP hD hS hO kk
  · have hO := o_unlike_p l hl0 dC dI x0 pa ba ax ay sp ss vs fr m0 a1 a2 a3 a4 a5 a6 a7 a8 a9 a10 a11 ou cA cQ cZ cL pn bn ln sn pf bs xs ys spf ssf vf sf hh rr cf wf of a b tw ab be pool ((scr (i9 + 1)).toInt) ((scr (i9 + 2)).toInt) hI b1 b2 c9
    exact seg_unlike C hi hcl (by decide) hl hP hD hS hO kk
set_option maxHeartbeats 4000000 in
set_option maxRecDepth 100000 in
theorem case_cut {x0 pa ba ax ay sp ss vs fr m0 a1 a2 a3 a4 a5 a6 a7 a8 a9 a10 a11 ou : Nat} {cA cQ cZ cL : ClassId} {pn bn ln sn : Nat} {pf : Nat → Option Nat} {bs xs ys spf ssf vf sf hh rr cf wf of : Nat → Int} {a b tw ab be : Int} {pool : List PR} (hl0 : l.stackTraces = false) (C : LC p s m c b9 L9 scr A (dC, dI) (tysL cA cQ cZ cL)) (hi : i9 + 4 ≤ L9) (hcl : cells + 3 ≤ 600000 ∧ slots + 29 ≤ 7000000) (hl : lv_has ls 8 [(0, .ref b9), (1, .ref x0), (2, .ref m0), (3, .ref ou), (4, .int (zi (i9 : Int)))]) (hP : va_P (dC, dI) vwCl (cX x0 pa ba ax ay sp ss vs fr m0 a1 a2 a3 a4 a5 a6 a7 a8 a9 a10 a11 ou cA cQ cZ cL pn bn ln sn pf bs xs ys spf ssf vf sf hh rr cf wf of a b tw ab be ++ flat cA pool) H) (hD : va_D A (cX x0 pa ba ax ay sp ss vs fr m0 a1 a2 a3 a4 a5 a6 a7 a8 a9 a10 a11 ou cA cQ cZ cL pn bn ln sn pf bs xs ys spf ssf vf sf hh rr cf wf of a b tw ab be ++ flat cA pool)) (hS : va_S A s.heap H locs) (hI : Inv pool pn bn ln sn pf bs xs ys spf ssf vf sf hh rr cf wf)
    (kk : ∀ (k : Int) (z : Int) (ws2 : va_W) (H1 : Heap) (locs1 : List Loc) (ls1 : Array Slot), Fin9 x0 pa ba ax ay sp ss vs fr m0 a1 a2 a3 a4 a5 a6 a7 a8 a9 a10 a11 ou cA cQ cZ cL k z ws2 → va_P (dC, dI) vwCl ws2 H1 → va_D A ws2 → va_S A s.heap H1 locs1 → lv_has ls1 8 [(0, .ref b9), (1, .ref x0), (2, .ref m0), (3, .ref ou), (4, .int (zi (i9 : Int)))] → W p l e room_1 s m #[Value.ref b9] below meth c H1 locs1 (cells + 3) (slots + 29) Q (F0 m 1411 ls1 [])) : W p l e room_1 s m #[Value.ref b9] below meth c H locs (cells) (slots) Q (F0 m 772 ls []) := by
  have b1 := zi_bd (scr (i9 + 1))
  have b2 := zi_bd (scr (i9 + 2))
  have b3 := zi_bd (scr (i9 + 3))
  have hmp := hI.1.2.1
  by_cases c9 : 0 ≤ (scr (i9 + 1)).toInt ∧ (scr (i9 + 1)).toInt < (pn : Int)
  · obtain ⟨j, hvj⟩ : ∃ j : Nat, (scr (i9 + 1)).toInt = (j : Int) := ⟨((scr (i9 + 1)).toInt).toNat, by omega⟩
    obtain ⟨pre, r, post, hpool, hj⟩ := pool_split (pool := pool) (j := j) (by have := hI.1.1; omega)
    obtain ⟨h0, h1, h2, n, th, wc, hs, rs⟩ := r
    subst hpool
    obtain ⟨⟨-, -, -, -, -, hn, -, -, -, hw, -⟩, -, -, -⟩ := hI.at_
    have hn : n ≤ 12 := hn
    have hw : wc = 0 ∨ wc = 1 := hw
    by_cases c8 : wc = 1 ∨ n = 0 ∨ (scr (i9 + 2)).toInt ≤ hs 0 ∨ hs (n - 1) ≤ (scr (i9 + 2)).toInt
    · have hO := o_cut_n l dC dI x0 pa ba ax ay sp ss vs fr m0 a1 a2 a3 a4 a5 a6 a7 a8 a9 a10 a11 ou cA cQ cZ cL pn bn ln sn pf bs xs ys spf ssf vf sf hh rr cf wf of a b tw ab be pre post h0 h1 h2 n th wc hs rs j ((scr (i9 + 2)).toInt) hI hj b2 c8
      rw [← hvj] at hO
      exact seg_cut C hi hcl (by decide) (Or.inl rfl) hl hP hD hS hO kk
    · by_cases c7 : hs (m_ct hs ((scr (i9 + 2)).toInt) n - 1) < (scr (i9 + 2)).toInt
      · have hO := o_cut_a l dC dI x0 pa ba ax ay sp ss vs fr m0 a1 a2 a3 a4 a5 a6 a7 a8 a9 a10 a11 ou cA cQ cZ cL pn bn ln sn pf bs xs ys spf ssf vf sf hh rr cf wf of a b tw ab be pre post h0 h1 h2 n th wc hs rs j ((scr (i9 + 2)).toInt) hI hj b2 ⟨by omega, by omega, by omega, by omega⟩ c7
        rw [← hvj] at hO
        exact seg_cut C hi hcl (by decide) (Or.inr rfl) hl hP hD hS hO kk
      · have hO := o_cut_b l dC dI x0 pa ba ax ay sp ss vs fr m0 a1 a2 a3 a4 a5 a6 a7 a8 a9 a10 a11 ou cA cQ cZ cL pn bn ln sn pf bs xs ys spf ssf vf sf hh rr cf wf of a b tw ab be pre post h0 h1 h2 n th wc hs rs j ((scr (i9 + 2)).toInt) hI hj b2 ⟨by omega, by omega, by omega, by omega⟩ (by omega)
        rw [← hvj] at hO
        exact seg_cut C hi hcl (by decide) (Or.inr rfl) hl hP hD hS hO kk
  · have hO := o_cut_p l hl0 dC dI x0 pa ba ax ay sp ss vs fr m0 a1 a2 a3 a4 a5 a6 a7 a8 a9 a10 a11 ou cA cQ cZ cL pn bn ln sn pf bs xs ys spf ssf vf sf hh rr cf wf of a b tw ab be pool ((scr (i9 + 1)).toInt) ((scr (i9 + 2)).toInt) hI b1 b2 c9
    exact seg_cut C hi hcl (by decide) (Or.inl rfl) hl hP hD hS hO kk
set_option maxHeartbeats 4000000 in
set_option maxRecDepth 100000 in
theorem case_drawn {x0 pa ba ax ay sp ss vs fr m0 a1 a2 a3 a4 a5 a6 a7 a8 a9 a10 a11 ou : Nat} {cA cQ cZ cL : ClassId} {pn bn ln sn : Nat} {pf : Nat → Option Nat} {bs xs ys spf ssf vf sf hh rr cf wf of : Nat → Int} {a b tw ab be : Int} {pool : List PR} (hl0 : l.stackTraces = false) (C : LC p s m c b9 L9 scr A (dC, dI) (tysL cA cQ cZ cL)) (hi : i9 + 4 ≤ L9) (hcl : cells + 3 ≤ 600000 ∧ slots + 29 ≤ 7000000) (hl : lv_has ls 8 [(0, .ref b9), (1, .ref x0), (2, .ref m0), (3, .ref ou), (4, .int (zi (i9 : Int)))]) (hP : va_P (dC, dI) vwCl (cX x0 pa ba ax ay sp ss vs fr m0 a1 a2 a3 a4 a5 a6 a7 a8 a9 a10 a11 ou cA cQ cZ cL pn bn ln sn pf bs xs ys spf ssf vf sf hh rr cf wf of a b tw ab be ++ flat cA pool) H) (hD : va_D A (cX x0 pa ba ax ay sp ss vs fr m0 a1 a2 a3 a4 a5 a6 a7 a8 a9 a10 a11 ou cA cQ cZ cL pn bn ln sn pf bs xs ys spf ssf vf sf hh rr cf wf of a b tw ab be ++ flat cA pool)) (hS : va_S A s.heap H locs) (hI : Inv pool pn bn ln sn pf bs xs ys spf ssf vf sf hh rr cf wf)
    (kk : ∀ (k : Int) (z : Int) (ws2 : va_W) (H1 : Heap) (locs1 : List Loc) (ls1 : Array Slot), Fin9 x0 pa ba ax ay sp ss vs fr m0 a1 a2 a3 a4 a5 a6 a7 a8 a9 a10 a11 ou cA cQ cZ cL k z ws2 → va_P (dC, dI) vwCl ws2 H1 → va_D A ws2 → va_S A s.heap H1 locs1 → lv_has ls1 8 [(0, .ref b9), (1, .ref x0), (2, .ref m0), (3, .ref ou), (4, .int (zi (i9 : Int)))] → W p l e room_1 s m #[Value.ref b9] below meth c H1 locs1 (cells + 3) (slots + 29) Q (F0 m 1411 ls1 [])) : W p l e room_1 s m #[Value.ref b9] below meth c H locs (cells) (slots) Q (F0 m 847 ls []) := by
  have b1 := zi_bd (scr (i9 + 1))
  have b2 := zi_bd (scr (i9 + 2))
  have b3 := zi_bd (scr (i9 + 3))
  have hmp := hI.1.2.1
  by_cases c9 : 0 ≤ (scr (i9 + 1)).toInt ∧ (scr (i9 + 1)).toInt < (pn : Int)
  · obtain ⟨j, hvj⟩ : ∃ j : Nat, (scr (i9 + 1)).toInt = (j : Int) := ⟨((scr (i9 + 1)).toInt).toNat, by omega⟩
    obtain ⟨pre, r, post, hpool, hj⟩ := pool_split (pool := pool) (j := j) (by have := hI.1.1; omega)
    obtain ⟨h0, h1, h2, n, th, wc, hs, rs⟩ := r
    subst hpool
    obtain ⟨⟨-, -, -, -, -, hn, -, -, -, hw, -⟩, -, -, -⟩ := hI.at_
    have hn : n ≤ 12 := hn
    have hw : wc = 0 ∨ wc = 1 := hw
    by_cases c8 : (scr (i9 + 3)).toInt = 0 ∨ (scr (i9 + 3)).toInt = 1
    · by_cases c7 : (scr (i9 + 2)).toInt = -1 ∨ (0 ≤ (scr (i9 + 2)).toInt ∧ (scr (i9 + 2)).toInt < ((n + p_co rs n : Nat) : Int))
      · have hO := o_drawn_y l dC dI x0 pa ba ax ay sp ss vs fr m0 a1 a2 a3 a4 a5 a6 a7 a8 a9 a10 a11 ou cA cQ cZ cL pn bn ln sn pf bs xs ys spf ssf vf sf hh rr cf wf of a b tw ab be pre post h0 h1 h2 n th wc hs rs j ((scr (i9 + 2)).toInt) ((scr (i9 + 3)).toInt) hI hj b2 b3 c8 c7
        rw [← hvj] at hO
        exact seg_drawn C hi hcl (by decide) hl hP hD hS hO kk
      · have hO := o_drawn_k l hl0 dC dI x0 pa ba ax ay sp ss vs fr m0 a1 a2 a3 a4 a5 a6 a7 a8 a9 a10 a11 ou cA cQ cZ cL pn bn ln sn pf bs xs ys spf ssf vf sf hh rr cf wf of a b tw ab be pre post h0 h1 h2 n th wc hs rs j ((scr (i9 + 2)).toInt) ((scr (i9 + 3)).toInt) hI hj b2 b3 c8 c7
        rw [← hvj] at hO
        exact seg_drawn C hi hcl (by decide) hl hP hD hS hO kk
    · have hO := o_drawn_w l hl0 dC dI x0 pa ba ax ay sp ss vs fr m0 a1 a2 a3 a4 a5 a6 a7 a8 a9 a10 a11 ou cA cQ cZ cL pn bn ln sn pf bs xs ys spf ssf vf sf hh rr cf wf of a b tw ab be pre post h0 h1 h2 n th wc hs rs j ((scr (i9 + 2)).toInt) ((scr (i9 + 3)).toInt) hI hj b2 b3 c8
      rw [← hvj] at hO
      exact seg_drawn C hi hcl (by decide) hl hP hD hS hO kk
  · have hO := o_drawn_p l hl0 dC dI x0 pa ba ax ay sp ss vs fr m0 a1 a2 a3 a4 a5 a6 a7 a8 a9 a10 a11 ou cA cQ cZ cL pn bn ln sn pf bs xs ys spf ssf vf sf hh rr cf wf of a b tw ab be pool ((scr (i9 + 1)).toInt) ((scr (i9 + 2)).toInt) ((scr (i9 + 3)).toInt) hI b1 c9
    exact seg_drawn C hi hcl (by decide) hl hP hD hS hO kk
set_option maxHeartbeats 4000000 in
set_option maxRecDepth 100000 in
theorem case_bound {x0 pa ba ax ay sp ss vs fr m0 a1 a2 a3 a4 a5 a6 a7 a8 a9 a10 a11 ou : Nat} {cA cQ cZ cL : ClassId} {pn bn ln sn : Nat} {pf : Nat → Option Nat} {bs xs ys spf ssf vf sf hh rr cf wf of : Nat → Int} {a b tw ab be : Int} {pool : List PR} (hl0 : l.stackTraces = false) (C : LC p s m c b9 L9 scr A (dC, dI) (tysL cA cQ cZ cL)) (hi : i9 + 4 ≤ L9) (hcl : cells + 3 ≤ 600000 ∧ slots + 29 ≤ 7000000) (hl : lv_has ls 8 [(0, .ref b9), (1, .ref x0), (2, .ref m0), (3, .ref ou), (4, .int (zi (i9 : Int)))]) (hP : va_P (dC, dI) vwCl (cX x0 pa ba ax ay sp ss vs fr m0 a1 a2 a3 a4 a5 a6 a7 a8 a9 a10 a11 ou cA cQ cZ cL pn bn ln sn pf bs xs ys spf ssf vf sf hh rr cf wf of a b tw ab be ++ flat cA pool) H) (hD : va_D A (cX x0 pa ba ax ay sp ss vs fr m0 a1 a2 a3 a4 a5 a6 a7 a8 a9 a10 a11 ou cA cQ cZ cL pn bn ln sn pf bs xs ys spf ssf vf sf hh rr cf wf of a b tw ab be ++ flat cA pool)) (hS : va_S A s.heap H locs) (hI : Inv pool pn bn ln sn pf bs xs ys spf ssf vf sf hh rr cf wf)
    (kk : ∀ (k : Int) (z : Int) (ws2 : va_W) (H1 : Heap) (locs1 : List Loc) (ls1 : Array Slot), Fin9 x0 pa ba ax ay sp ss vs fr m0 a1 a2 a3 a4 a5 a6 a7 a8 a9 a10 a11 ou cA cQ cZ cL k z ws2 → va_P (dC, dI) vwCl ws2 H1 → va_D A ws2 → va_S A s.heap H1 locs1 → lv_has ls1 8 [(0, .ref b9), (1, .ref x0), (2, .ref m0), (3, .ref ou), (4, .int (zi (i9 : Int)))] → W p l e room_1 s m #[Value.ref b9] below meth c H1 locs1 (cells + 3) (slots + 29) Q (F0 m 1411 ls1 [])) : W p l e room_1 s m #[Value.ref b9] below meth c H locs (cells) (slots) Q (F0 m 927 ls []) := by
  have b1 := zi_bd (scr (i9 + 1))
  have b2 := zi_bd (scr (i9 + 2))
  have b3 := zi_bd (scr (i9 + 3))
  have hmp := hI.1.2.1
  have hbn := hI.2.1.1
  by_cases c9 : 0 ≤ (scr (i9 + 1)).toInt ∧ (scr (i9 + 1)).toInt ≤ 1000000000
  · by_cases c8 : bn < 10
    · have hO := o_bound_y l dC dI x0 pa ba ax ay sp ss vs fr m0 a1 a2 a3 a4 a5 a6 a7 a8 a9 a10 a11 ou cA cQ cZ cL pn bn ln sn pf bs xs ys spf ssf vf sf hh rr cf wf of a b tw ab be pool ((scr (i9 + 1)).toInt) hI c9 c8
      exact seg_bound C hi hcl (by decide) hl hP hD hS hO kk
    · have hO := o_bound_S l hl0 dC dI x0 pa ba ax ay sp ss vs fr m0 a1 a2 a3 a4 a5 a6 a7 a8 a9 a10 a11 ou cA cQ cZ cL pn bn ln sn pf bs xs ys spf ssf vf sf hh rr cf wf of a b tw ab be pool ((scr (i9 + 1)).toInt) hI b1 c9 (by omega)
      exact seg_bound C hi hcl (by decide) hl hP hD hS hO kk
  · have hO := o_bound_A l hl0 dC dI x0 pa ba ax ay sp ss vs fr m0 a1 a2 a3 a4 a5 a6 a7 a8 a9 a10 a11 ou cA cQ cZ cL pn bn ln sn pf bs xs ys spf ssf vf sf hh rr cf wf of a b tw ab be pool ((scr (i9 + 1)).toInt) hI b1 c9
    exact seg_bound C hi hcl (by decide) hl hP hD hS hO kk
set_option maxHeartbeats 4000000 in
set_option maxRecDepth 100000 in
theorem case_size {x0 pa ba ax ay sp ss vs fr m0 a1 a2 a3 a4 a5 a6 a7 a8 a9 a10 a11 ou : Nat} {cA cQ cZ cL : ClassId} {pn bn ln sn : Nat} {pf : Nat → Option Nat} {bs xs ys spf ssf vf sf hh rr cf wf of : Nat → Int} {a b tw ab be : Int} {pool : List PR} (hl0 : l.stackTraces = false) (C : LC p s m c b9 L9 scr A (dC, dI) (tysL cA cQ cZ cL)) (hi : i9 + 4 ≤ L9) (hcl : cells + 3 ≤ 600000 ∧ slots + 29 ≤ 7000000) (hl : lv_has ls 8 [(0, .ref b9), (1, .ref x0), (2, .ref m0), (3, .ref ou), (4, .int (zi (i9 : Int)))]) (hP : va_P (dC, dI) vwCl (cX x0 pa ba ax ay sp ss vs fr m0 a1 a2 a3 a4 a5 a6 a7 a8 a9 a10 a11 ou cA cQ cZ cL pn bn ln sn pf bs xs ys spf ssf vf sf hh rr cf wf of a b tw ab be ++ flat cA pool) H) (hD : va_D A (cX x0 pa ba ax ay sp ss vs fr m0 a1 a2 a3 a4 a5 a6 a7 a8 a9 a10 a11 ou cA cQ cZ cL pn bn ln sn pf bs xs ys spf ssf vf sf hh rr cf wf of a b tw ab be ++ flat cA pool)) (hS : va_S A s.heap H locs) (hI : Inv pool pn bn ln sn pf bs xs ys spf ssf vf sf hh rr cf wf)
    (kk : ∀ (k : Int) (z : Int) (ws2 : va_W) (H1 : Heap) (locs1 : List Loc) (ls1 : Array Slot), Fin9 x0 pa ba ax ay sp ss vs fr m0 a1 a2 a3 a4 a5 a6 a7 a8 a9 a10 a11 ou cA cQ cZ cL k z ws2 → va_P (dC, dI) vwCl ws2 H1 → va_D A ws2 → va_S A s.heap H1 locs1 → lv_has ls1 8 [(0, .ref b9), (1, .ref x0), (2, .ref m0), (3, .ref ou), (4, .int (zi (i9 : Int)))] → W p l e room_1 s m #[Value.ref b9] below meth c H1 locs1 (cells + 3) (slots + 29) Q (F0 m 1411 ls1 [])) : W p l e room_1 s m #[Value.ref b9] below meth c H locs (cells) (slots) Q (F0 m 983 ls []) := by
  have b1 := zi_bd (scr (i9 + 1))
  have b2 := zi_bd (scr (i9 + 2))
  have b3 := zi_bd (scr (i9 + 3))
  have hmp := hI.1.2.1
  by_cases c9 : 0 ≤ (scr (i9 + 1)).toInt ∧ (scr (i9 + 1)).toInt < (pn : Int)
  · obtain ⟨j, hvj⟩ : ∃ j : Nat, (scr (i9 + 1)).toInt = (j : Int) := ⟨((scr (i9 + 1)).toInt).toNat, by omega⟩
    obtain ⟨pre, r, post, hpool, hj⟩ := pool_split (pool := pool) (j := j) (by have := hI.1.1; omega)
    obtain ⟨h0, h1, h2, n, th, wc, hs, rs⟩ := r
    subst hpool
    obtain ⟨⟨-, -, -, -, -, hn, -, -, -, hw, -⟩, -, -, -⟩ := hI.at_
    have hn : n ≤ 12 := hn
    have hw : wc = 0 ∨ wc = 1 := hw
    have hO := o_size_y l dC dI x0 pa ba ax ay sp ss vs fr m0 a1 a2 a3 a4 a5 a6 a7 a8 a9 a10 a11 ou cA cQ cZ cL pn bn ln sn pf bs xs ys spf ssf vf sf hh rr cf wf of a b tw ab be pre post h0 h1 h2 n th wc hs rs j  hI hj 
    rw [← hvj] at hO
    exact seg_size C hi hcl (by decide) hl hP hD hS hO kk
  · have hO := o_size_p l hl0 dC dI x0 pa ba ax ay sp ss vs fr m0 a1 a2 a3 a4 a5 a6 a7 a8 a9 a10 a11 ou cA cQ cZ cL pn bn ln sn pf bs xs ys spf ssf vf sf hh rr cf wf of a b tw ab be pool ((scr (i9 + 1)).toInt) hI b1 c9
    exact seg_size C hi hcl (by decide) hl hP hD hS hO kk
set_option maxHeartbeats 4000000 in
set_option maxRecDepth 100000 in
theorem case_rim {x0 pa ba ax ay sp ss vs fr m0 a1 a2 a3 a4 a5 a6 a7 a8 a9 a10 a11 ou : Nat} {cA cQ cZ cL : ClassId} {pn bn ln sn : Nat} {pf : Nat → Option Nat} {bs xs ys spf ssf vf sf hh rr cf wf of : Nat → Int} {a b tw ab be : Int} {pool : List PR} (hl0 : l.stackTraces = false) (C : LC p s m c b9 L9 scr A (dC, dI) (tysL cA cQ cZ cL)) (hi : i9 + 4 ≤ L9) (hcl : cells + 3 ≤ 600000 ∧ slots + 29 ≤ 7000000) (hl : lv_has ls 8 [(0, .ref b9), (1, .ref x0), (2, .ref m0), (3, .ref ou), (4, .int (zi (i9 : Int)))]) (hP : va_P (dC, dI) vwCl (cX x0 pa ba ax ay sp ss vs fr m0 a1 a2 a3 a4 a5 a6 a7 a8 a9 a10 a11 ou cA cQ cZ cL pn bn ln sn pf bs xs ys spf ssf vf sf hh rr cf wf of a b tw ab be ++ flat cA pool) H) (hD : va_D A (cX x0 pa ba ax ay sp ss vs fr m0 a1 a2 a3 a4 a5 a6 a7 a8 a9 a10 a11 ou cA cQ cZ cL pn bn ln sn pf bs xs ys spf ssf vf sf hh rr cf wf of a b tw ab be ++ flat cA pool)) (hS : va_S A s.heap H locs) (hI : Inv pool pn bn ln sn pf bs xs ys spf ssf vf sf hh rr cf wf)
    (kk : ∀ (k : Int) (z : Int) (ws2 : va_W) (H1 : Heap) (locs1 : List Loc) (ls1 : Array Slot), Fin9 x0 pa ba ax ay sp ss vs fr m0 a1 a2 a3 a4 a5 a6 a7 a8 a9 a10 a11 ou cA cQ cZ cL k z ws2 → va_P (dC, dI) vwCl ws2 H1 → va_D A ws2 → va_S A s.heap H1 locs1 → lv_has ls1 8 [(0, .ref b9), (1, .ref x0), (2, .ref m0), (3, .ref ou), (4, .int (zi (i9 : Int)))] → W p l e room_1 s m #[Value.ref b9] below meth c H1 locs1 (cells + 3) (slots + 29) Q (F0 m 1411 ls1 [])) : W p l e room_1 s m #[Value.ref b9] below meth c H locs (cells) (slots) Q (F0 m 1039 ls []) := by
  have b1 := zi_bd (scr (i9 + 1))
  have b2 := zi_bd (scr (i9 + 2))
  have b3 := zi_bd (scr (i9 + 3))
  have hmp := hI.1.2.1
  have hln := hI.2.2.1.1
  by_cases c9 : -200 ≤ (scr (i9 + 1)).toInt ∧ (scr (i9 + 1)).toInt ≤ 200 ∧ -200 ≤ (scr (i9 + 2)).toInt ∧ (scr (i9 + 2)).toInt ≤ 200
  · by_cases c8 : ln < 20
    · have hO := o_rim_y l dC dI x0 pa ba ax ay sp ss vs fr m0 a1 a2 a3 a4 a5 a6 a7 a8 a9 a10 a11 ou cA cQ cZ cL pn bn ln sn pf bs xs ys spf ssf vf sf hh rr cf wf of a b tw ab be pool ((scr (i9 + 1)).toInt) ((scr (i9 + 2)).toInt) hI c9 c8
      exact seg_rim C hi hcl (by decide) hl hP hD hS hO kk
    · have hO := o_rim_S l hl0 dC dI x0 pa ba ax ay sp ss vs fr m0 a1 a2 a3 a4 a5 a6 a7 a8 a9 a10 a11 ou cA cQ cZ cL pn bn ln sn pf bs xs ys spf ssf vf sf hh rr cf wf of a b tw ab be pool ((scr (i9 + 1)).toInt) ((scr (i9 + 2)).toInt) hI b1 b2 c9 (by omega)
      exact seg_rim C hi hcl (by decide) hl hP hD hS hO kk
  · have hO := o_rim_A l hl0 dC dI x0 pa ba ax ay sp ss vs fr m0 a1 a2 a3 a4 a5 a6 a7 a8 a9 a10 a11 ou cA cQ cZ cL pn bn ln sn pf bs xs ys spf ssf vf sf hh rr cf wf of a b tw ab be pool ((scr (i9 + 1)).toInt) ((scr (i9 + 2)).toInt) hI b1 b2 c9
    exact seg_rim C hi hcl (by decide) hl hP hD hS hO kk
set_option maxHeartbeats 4000000 in
set_option maxRecDepth 100000 in
theorem case_clear {x0 pa ba ax ay sp ss vs fr m0 a1 a2 a3 a4 a5 a6 a7 a8 a9 a10 a11 ou : Nat} {cA cQ cZ cL : ClassId} {pn bn ln sn : Nat} {pf : Nat → Option Nat} {bs xs ys spf ssf vf sf hh rr cf wf of : Nat → Int} {a b tw ab be : Int} {pool : List PR} (hl0 : l.stackTraces = false) (C : LC p s m c b9 L9 scr A (dC, dI) (tysL cA cQ cZ cL)) (hi : i9 + 4 ≤ L9) (hcl : cells + 3 ≤ 600000 ∧ slots + 29 ≤ 7000000) (hl : lv_has ls 8 [(0, .ref b9), (1, .ref x0), (2, .ref m0), (3, .ref ou), (4, .int (zi (i9 : Int)))]) (hP : va_P (dC, dI) vwCl (cX x0 pa ba ax ay sp ss vs fr m0 a1 a2 a3 a4 a5 a6 a7 a8 a9 a10 a11 ou cA cQ cZ cL pn bn ln sn pf bs xs ys spf ssf vf sf hh rr cf wf of a b tw ab be ++ flat cA pool) H) (hD : va_D A (cX x0 pa ba ax ay sp ss vs fr m0 a1 a2 a3 a4 a5 a6 a7 a8 a9 a10 a11 ou cA cQ cZ cL pn bn ln sn pf bs xs ys spf ssf vf sf hh rr cf wf of a b tw ab be ++ flat cA pool)) (hS : va_S A s.heap H locs) (hI : Inv pool pn bn ln sn pf bs xs ys spf ssf vf sf hh rr cf wf)
    (kk : ∀ (k : Int) (z : Int) (ws2 : va_W) (H1 : Heap) (locs1 : List Loc) (ls1 : Array Slot), Fin9 x0 pa ba ax ay sp ss vs fr m0 a1 a2 a3 a4 a5 a6 a7 a8 a9 a10 a11 ou cA cQ cZ cL k z ws2 → va_P (dC, dI) vwCl ws2 H1 → va_D A ws2 → va_S A s.heap H1 locs1 → lv_has ls1 8 [(0, .ref b9), (1, .ref x0), (2, .ref m0), (3, .ref ou), (4, .int (zi (i9 : Int)))] → W p l e room_1 s m #[Value.ref b9] below meth c H1 locs1 (cells + 3) (slots + 29) Q (F0 m 1411 ls1 [])) : W p l e room_1 s m #[Value.ref b9] below meth c H locs (cells) (slots) Q (F0 m 1107 ls []) := by
  obtain ⟨hx, hb, hml, hown, hg, hX, hbl, hbA, hA, hK, hXA, hL⟩ := C
  have hln := hI.2.2.1.1
  refine lv_aload_n hx hb dL_law_1107 rfl (lv_at hl 1 rfl) ?_
  refine lwV (n := 0) (As := []) (rest := []) (wc := [(x0, .inr (2, [.ref pa, .int (zi ((pn : Nat) : Int)), .ref ba, .int (zi ((bn : Nat) : Int)), .ref ax, .ref ay, .int (zi ((ln : Nat) : Int)), .ref sp, .ref ss, .int (zi ((sn : Nat) : Int)), .ref vs, .ref fr]))]) (wr := [(pa, .inl (cQ, 6, .inr (.inr (.inr (.inr (pf)))))), (ba, .inl (cA, 10, .inl (zA (bs)))), (ax, .inl (cA, 20, .inl (zA (xs)))), (ay, .inl (cA, 20, .inl (zA (ys)))), (sp, .inl (cA, 60, .inl (zA (spf)))), (ss, .inl (cA, 60, .inl (zA (ssf)))), (vs, .inl (cA, 60, .inl (zA (vf)))), (fr, .inr (0, [.long (zl (a)), .long (zl (b))])), (m0, .inr (3, [.int (zi (tw)), .int (zi ((pn : Nat) : Int)), .ref a1, .ref a2, .ref a3, .ref a4, .ref a5, .ref a6, .int (zi ((bn : Nat) : Int)), .ref a7, .ref a8, .int (zi ((ln : Nat) : Int)), .ref a9, .ref a10, .int (zi ((sn : Nat) : Int)), .ref a11, .long (zl (ab)), .long (zl (be))])), (a1, .inl (cA, 6, .inl (zA (sf)))), (a2, .inl (cA, 72, .inl (zA (hh)))), (a3, .inl (cA, 72, .inl (zA (rr)))), (a4, .inl (cZ, 6, .inl (zA (cf)))), (a5, .inl (cA, 6, .inl (zA (wf)))), (a6, .inl (cA, 10, .inl (zA (bs)))), (a7, .inl (cA, 20, .inl (zA (xs)))), (a8, .inl (cA, 20, .inl (zA (ys)))), (a9, .inl (cA, 60, .inl (zA (spf)))), (a10, .inl (cA, 60, .inl (zA (ssf)))), (a11, .inl (cA, 60, .inl (zA (vf)))), (ou, .inl (cL, 1, .inr (.inl (zB (of)))))] ++ flat cA pool) hx hb hml hown hg (c_clear l dC dI H.size x0 pa ba ax ay sp ss vs fr pn bn ln sn) (gwV wl_L_136 wm_X2_clear we_X2_clear wi_X2 wc_X2_clear) rfl rfl (by decide +kernel) ⟨(Nat.le_of_ble_eq_true rfl), (Nat.le_of_ble_eq_true rfl)⟩ (hK.sub [] rfl) hP hD hS hA (permT (permE2 22 rfl [0, 1, 2, 3, 4, 5, 6, 7, 8, 9, 10, 11, 12, 13, 14, 15, 16, 17, 18, 19, 20, 21] (by decide) rfl)) rfl 0 rfl rfl rfl rfl hl.1 rfl (Nat.le_of_ble_eq_true rfl) dL_law_1108 ⟨by show cells ≤ 601024; omega, by show slots ≤ 7293033; omega⟩ (fun H1 locs1 hP hD hS => ?_)
  refine lv_aload_n hx hb dL_law_1111 rfl (lv_at hl 2 rfl) ?_
  refine lwV (n := 0) (As := []) (rest := [.int (zi ((ln : Nat) : Int))]) (wc := [(m0, .inr (3, [.int (zi (tw)), .int (zi ((pn : Nat) : Int)), .ref a1, .ref a2, .ref a3, .ref a4, .ref a5, .ref a6, .int (zi ((bn : Nat) : Int)), .ref a7, .ref a8, .int (zi ((ln : Nat) : Int)), .ref a9, .ref a10, .int (zi ((sn : Nat) : Int)), .ref a11, .long (zl (ab)), .long (zl (be))]))]) (wr := [(x0, .inr (2, [.ref pa, .int (zi ((pn : Nat) : Int)), .ref ba, .int (zi ((bn : Nat) : Int)), .ref ax, .ref ay, .int (zi ((0 : Nat) : Int)), .ref sp, .ref ss, .int (zi ((sn : Nat) : Int)), .ref vs, .ref fr])), (pa, .inl (cQ, 6, .inr (.inr (.inr (.inr (pf)))))), (ba, .inl (cA, 10, .inl (zA (bs)))), (ax, .inl (cA, 20, .inl (zA (xs)))), (ay, .inl (cA, 20, .inl (zA (ys)))), (sp, .inl (cA, 60, .inl (zA (spf)))), (ss, .inl (cA, 60, .inl (zA (ssf)))), (vs, .inl (cA, 60, .inl (zA (vf)))), (fr, .inr (0, [.long (zl (a)), .long (zl (b))])), (a1, .inl (cA, 6, .inl (zA (sf)))), (a2, .inl (cA, 72, .inl (zA (hh)))), (a3, .inl (cA, 72, .inl (zA (rr)))), (a4, .inl (cZ, 6, .inl (zA (cf)))), (a5, .inl (cA, 6, .inl (zA (wf)))), (a6, .inl (cA, 10, .inl (zA (bs)))), (a7, .inl (cA, 20, .inl (zA (xs)))), (a8, .inl (cA, 20, .inl (zA (ys)))), (a9, .inl (cA, 60, .inl (zA (spf)))), (a10, .inl (cA, 60, .inl (zA (ssf)))), (a11, .inl (cA, 60, .inl (zA (vf)))), (ou, .inl (cL, 1, .inr (.inl (zB (of)))))] ++ flat cA pool) hx hb hml hown hg (k_clear l dC dI H1.size m0 a1 a2 a3 a4 a5 a6 a7 a8 a9 a10 a11 tw ab be pn bn ln sn) (gwV wl_L_139 wm_X3_clear we_X3_clear wi_X3 wc_X3_clear) rfl rfl (by decide +kernel) ⟨(Nat.le_of_ble_eq_true rfl), (Nat.le_of_ble_eq_true rfl)⟩ (hK.sub [] rfl) hP hD hS hA (permM (permE2 22 rfl [9, 0, 1, 2, 3, 4, 5, 6, 7, 8, 10, 11, 12, 13, 14, 15, 16, 17, 18, 19, 20, 21] (by decide) rfl)) rfl 0 rfl rfl rfl rfl hl.1 rfl (Nat.le_of_ble_eq_true rfl) dL_law_1112 ⟨by show cells ≤ 601024; omega, by show slots ≤ 7293033; omega⟩ (fun H2 locs2 hP hD hS => ?_)
  refine zz_icmp_eq (tgt := 1411) hx hb (by omega) (by omega) dL_law_1115 (by decide) (fun _ => ?_) (fun q => absurd rfl q)
  refine W.widen (show cells ≤ cells + 3 by omega) (show slots ≤ slots + 29 by omega) (kk 0 (of 0) _ H2 locs2 ls ⟨pool, pn, bn, 0, sn, pf, bs, xs, ys, spf, ssf, vf, sf, hh, rr, cf, wf, of, a, b, ab, be, ⟨hI.1, hI.2.1, ⟨Nat.zero_le _, hI.2.2.1.2⟩, hI.2.2.2⟩, fun _ => rfl, permB (permE2 22 rfl [1, 2, 3, 4, 5, 6, 7, 8, 9, 0, 10, 11, 12, 13, 14, 15, 16, 17, 18, 19, 20, 21] (by decide) rfl)⟩ hP hD hS hl)
set_option maxHeartbeats 4000000 in
set_option maxRecDepth 100000 in
theorem case_circle {x0 pa ba ax ay sp ss vs fr m0 a1 a2 a3 a4 a5 a6 a7 a8 a9 a10 a11 ou : Nat} {cA cQ cZ cL : ClassId} {pn bn ln sn : Nat} {pf : Nat → Option Nat} {bs xs ys spf ssf vf sf hh rr cf wf of : Nat → Int} {a b tw ab be : Int} {pool : List PR} (hl0 : l.stackTraces = false) (C : LC p s m c b9 L9 scr A (dC, dI) (tysL cA cQ cZ cL)) (hi : i9 + 4 ≤ L9) (hcl : cells + 3 ≤ 600000 ∧ slots + 29 ≤ 7000000) (hl : lv_has ls 8 [(0, .ref b9), (1, .ref x0), (2, .ref m0), (3, .ref ou), (4, .int (zi (i9 : Int)))]) (hP : va_P (dC, dI) vwCl (cX x0 pa ba ax ay sp ss vs fr m0 a1 a2 a3 a4 a5 a6 a7 a8 a9 a10 a11 ou cA cQ cZ cL pn bn ln sn pf bs xs ys spf ssf vf sf hh rr cf wf of a b tw ab be ++ flat cA pool) H) (hD : va_D A (cX x0 pa ba ax ay sp ss vs fr m0 a1 a2 a3 a4 a5 a6 a7 a8 a9 a10 a11 ou cA cQ cZ cL pn bn ln sn pf bs xs ys spf ssf vf sf hh rr cf wf of a b tw ab be ++ flat cA pool)) (hS : va_S A s.heap H locs) (hI : Inv pool pn bn ln sn pf bs xs ys spf ssf vf sf hh rr cf wf)
    (kk : ∀ (k : Int) (z : Int) (ws2 : va_W) (H1 : Heap) (locs1 : List Loc) (ls1 : Array Slot), Fin9 x0 pa ba ax ay sp ss vs fr m0 a1 a2 a3 a4 a5 a6 a7 a8 a9 a10 a11 ou cA cQ cZ cL k z ws2 → va_P (dC, dI) vwCl ws2 H1 → va_D A ws2 → va_S A s.heap H1 locs1 → lv_has ls1 8 [(0, .ref b9), (1, .ref x0), (2, .ref m0), (3, .ref ou), (4, .int (zi (i9 : Int)))] → W p l e room_1 s m #[Value.ref b9] below meth c H1 locs1 (cells + 3) (slots + 29) Q (F0 m 1411 ls1 [])) : W p l e room_1 s m #[Value.ref b9] below meth c H locs (cells) (slots) Q (F0 m 1120 ls []) := by
  have b1 := zi_bd (scr (i9 + 1))
  have b2 := zi_bd (scr (i9 + 2))
  have b3 := zi_bd (scr (i9 + 3))
  have hmp := hI.1.2.1
  by_cases c9 : (scr (i9 + 1)).toInt = 0 ∨ (scr (i9 + 1)).toInt = 1
  · by_cases c8 : 3 ≤ ln
    · have hO := o_circle_y l dC dI x0 pa ba ax ay sp ss vs fr m0 a1 a2 a3 a4 a5 a6 a7 a8 a9 a10 a11 ou cA cQ cZ cL pn bn ln sn pf bs xs ys spf ssf vf sf hh rr cf wf of a b tw ab be pool ((scr (i9 + 1)).toInt) hI c9 c8
      exact seg_circle C hi hcl (by decide) hl hP hD hS hO kk
    · have hO := o_circle_S l hl0 dC dI x0 pa ba ax ay sp ss vs fr m0 a1 a2 a3 a4 a5 a6 a7 a8 a9 a10 a11 ou cA cQ cZ cL pn bn ln sn pf bs xs ys spf ssf vf sf hh rr cf wf of a b tw ab be pool ((scr (i9 + 1)).toInt) hI b1 c9 c8
      exact seg_circle C hi hcl (by decide) hl hP hD hS hO kk
  · have hO := o_circle_I l hl0 dC dI x0 pa ba ax ay sp ss vs fr m0 a1 a2 a3 a4 a5 a6 a7 a8 a9 a10 a11 ou cA cQ cZ cL pn bn ln sn pf bs xs ys spf ssf vf sf hh rr cf wf of a b tw ab be pool ((scr (i9 + 1)).toInt) hI b1 c9
    exact seg_circle C hi hcl (by decide) hl hP hD hS hO kk
set_option maxHeartbeats 4000000 in
set_option maxRecDepth 100000 in
theorem case_curve {x0 pa ba ax ay sp ss vs fr m0 a1 a2 a3 a4 a5 a6 a7 a8 a9 a10 a11 ou : Nat} {cA cQ cZ cL : ClassId} {pn bn ln sn : Nat} {pf : Nat → Option Nat} {bs xs ys spf ssf vf sf hh rr cf wf of : Nat → Int} {a b tw ab be : Int} {pool : List PR} (hl0 : l.stackTraces = false) (C : LC p s m c b9 L9 scr A (dC, dI) (tysL cA cQ cZ cL)) (hi : i9 + 4 ≤ L9) (hcl : cells + 3 ≤ 600000 ∧ slots + 29 ≤ 7000000) (hl : lv_has ls 8 [(0, .ref b9), (1, .ref x0), (2, .ref m0), (3, .ref ou), (4, .int (zi (i9 : Int)))]) (hP : va_P (dC, dI) vwCl (cX x0 pa ba ax ay sp ss vs fr m0 a1 a2 a3 a4 a5 a6 a7 a8 a9 a10 a11 ou cA cQ cZ cL pn bn ln sn pf bs xs ys spf ssf vf sf hh rr cf wf of a b tw ab be ++ flat cA pool) H) (hD : va_D A (cX x0 pa ba ax ay sp ss vs fr m0 a1 a2 a3 a4 a5 a6 a7 a8 a9 a10 a11 ou cA cQ cZ cL pn bn ln sn pf bs xs ys spf ssf vf sf hh rr cf wf of a b tw ab be ++ flat cA pool)) (hS : va_S A s.heap H locs) (hI : Inv pool pn bn ln sn pf bs xs ys spf ssf vf sf hh rr cf wf)
    (kk : ∀ (k : Int) (z : Int) (ws2 : va_W) (H1 : Heap) (locs1 : List Loc) (ls1 : Array Slot), Fin9 x0 pa ba ax ay sp ss vs fr m0 a1 a2 a3 a4 a5 a6 a7 a8 a9 a10 a11 ou cA cQ cZ cL k z ws2 → va_P (dC, dI) vwCl ws2 H1 → va_D A ws2 → va_S A s.heap H1 locs1 → lv_has ls1 8 [(0, .ref b9), (1, .ref x0), (2, .ref m0), (3, .ref ou), (4, .int (zi (i9 : Int)))] → W p l e room_1 s m #[Value.ref b9] below meth c H1 locs1 (cells + 3) (slots + 29) Q (F0 m 1411 ls1 [])) : W p l e room_1 s m #[Value.ref b9] below meth c H locs (cells) (slots) Q (F0 m 1175 ls []) := by
  have b1 := zi_bd (scr (i9 + 1))
  have b2 := zi_bd (scr (i9 + 2))
  have b3 := zi_bd (scr (i9 + 3))
  have hmp := hI.1.2.1
  by_cases c9 : 3 ≤ ln
  · have hO := o_curve_y l dC dI x0 pa ba ax ay sp ss vs fr m0 a1 a2 a3 a4 a5 a6 a7 a8 a9 a10 a11 ou cA cQ cZ cL pn bn ln sn pf bs xs ys spf ssf vf sf hh rr cf wf of a b tw ab be pool  hI c9
    exact seg_curve C hi hcl (by decide) hl hP hD hS hO kk
  · have hO := o_curve_S l hl0 dC dI x0 pa ba ax ay sp ss vs fr m0 a1 a2 a3 a4 a5 a6 a7 a8 a9 a10 a11 ou cA cQ cZ cL pn bn ln sn pf bs xs ys spf ssf vf sf hh rr cf wf of a b tw ab be pool  hI c9
    exact seg_curve C hi hcl (by decide) hl hP hD hS hO kk
set_option maxHeartbeats 4000000 in
set_option maxRecDepth 100000 in
theorem case_sherd {x0 pa ba ax ay sp ss vs fr m0 a1 a2 a3 a4 a5 a6 a7 a8 a9 a10 a11 ou : Nat} {cA cQ cZ cL : ClassId} {pn bn ln sn : Nat} {pf : Nat → Option Nat} {bs xs ys spf ssf vf sf hh rr cf wf of : Nat → Int} {a b tw ab be : Int} {pool : List PR} (hl0 : l.stackTraces = false) (C : LC p s m c b9 L9 scr A (dC, dI) (tysL cA cQ cZ cL)) (hi : i9 + 4 ≤ L9) (hcl : cells + 3 ≤ 600000 ∧ slots + 29 ≤ 7000000) (hl : lv_has ls 8 [(0, .ref b9), (1, .ref x0), (2, .ref m0), (3, .ref ou), (4, .int (zi (i9 : Int)))]) (hP : va_P (dC, dI) vwCl (cX x0 pa ba ax ay sp ss vs fr m0 a1 a2 a3 a4 a5 a6 a7 a8 a9 a10 a11 ou cA cQ cZ cL pn bn ln sn pf bs xs ys spf ssf vf sf hh rr cf wf of a b tw ab be ++ flat cA pool) H) (hD : va_D A (cX x0 pa ba ax ay sp ss vs fr m0 a1 a2 a3 a4 a5 a6 a7 a8 a9 a10 a11 ou cA cQ cZ cL pn bn ln sn pf bs xs ys spf ssf vf sf hh rr cf wf of a b tw ab be ++ flat cA pool)) (hS : va_S A s.heap H locs) (hI : Inv pool pn bn ln sn pf bs xs ys spf ssf vf sf hh rr cf wf)
    (kk : ∀ (k : Int) (z : Int) (ws2 : va_W) (H1 : Heap) (locs1 : List Loc) (ls1 : Array Slot), Fin9 x0 pa ba ax ay sp ss vs fr m0 a1 a2 a3 a4 a5 a6 a7 a8 a9 a10 a11 ou cA cQ cZ cL k z ws2 → va_P (dC, dI) vwCl ws2 H1 → va_D A ws2 → va_S A s.heap H1 locs1 → lv_has ls1 8 [(0, .ref b9), (1, .ref x0), (2, .ref m0), (3, .ref ou), (4, .int (zi (i9 : Int)))] → W p l e room_1 s m #[Value.ref b9] below meth c H1 locs1 (cells + 3) (slots + 29) Q (F0 m 1411 ls1 [])) : W p l e room_1 s m #[Value.ref b9] below meth c H locs (cells) (slots) Q (F0 m 1219 ls []) := by
  have b1 := zi_bd (scr (i9 + 1))
  have b2 := zi_bd (scr (i9 + 2))
  have b3 := zi_bd (scr (i9 + 3))
  have hmp := hI.1.2.1
  have hsn := hI.2.2.2.1
  by_cases c9 : 0 ≤ (scr (i9 + 1)).toInt ∧ (scr (i9 + 1)).toInt < (pn : Int)
  · by_cases c8 : 1 ≤ (scr (i9 + 2)).toInt ∧ (scr (i9 + 2)).toInt ≤ 1000
    · by_cases c7 : sn < 60
      · have hO := o_sherd_y l dC dI x0 pa ba ax ay sp ss vs fr m0 a1 a2 a3 a4 a5 a6 a7 a8 a9 a10 a11 ou cA cQ cZ cL pn bn ln sn pf bs xs ys spf ssf vf sf hh rr cf wf of a b tw ab be pool ((scr (i9 + 1)).toInt) ((scr (i9 + 2)).toInt) hI c9 c8 c7
        exact seg_sherd C hi hcl (by decide) hl hP hD hS hO kk
      · have hO := o_sherd_S l hl0 dC dI x0 pa ba ax ay sp ss vs fr m0 a1 a2 a3 a4 a5 a6 a7 a8 a9 a10 a11 ou cA cQ cZ cL pn bn ln sn pf bs xs ys spf ssf vf sf hh rr cf wf of a b tw ab be pool ((scr (i9 + 1)).toInt) ((scr (i9 + 2)).toInt) hI b1 b2 c9 c8 (by omega)
        exact seg_sherd C hi hcl (by decide) hl hP hD hS hO kk
    · have hO := o_sherd_A l hl0 dC dI x0 pa ba ax ay sp ss vs fr m0 a1 a2 a3 a4 a5 a6 a7 a8 a9 a10 a11 ou cA cQ cZ cL pn bn ln sn pf bs xs ys spf ssf vf sf hh rr cf wf of a b tw ab be pool ((scr (i9 + 1)).toInt) ((scr (i9 + 2)).toInt) hI b1 b2 c9 c8
      exact seg_sherd C hi hcl (by decide) hl hP hD hS hO kk
  · have hO := o_sherd_p l hl0 dC dI x0 pa ba ax ay sp ss vs fr m0 a1 a2 a3 a4 a5 a6 a7 a8 a9 a10 a11 ou cA cQ cZ cL pn bn ln sn pf bs xs ys spf ssf vf sf hh rr cf wf of a b tw ab be pool ((scr (i9 + 1)).toInt) ((scr (i9 + 2)).toInt) hI b1 b2 c9
    exact seg_sherd C hi hcl (by decide) hl hP hD hS hO kk
set_option maxHeartbeats 4000000 in
set_option maxRecDepth 100000 in
theorem case_vessels {x0 pa ba ax ay sp ss vs fr m0 a1 a2 a3 a4 a5 a6 a7 a8 a9 a10 a11 ou : Nat} {cA cQ cZ cL : ClassId} {pn bn ln sn : Nat} {pf : Nat → Option Nat} {bs xs ys spf ssf vf sf hh rr cf wf of : Nat → Int} {a b tw ab be : Int} {pool : List PR} (hl0 : l.stackTraces = false) (C : LC p s m c b9 L9 scr A (dC, dI) (tysL cA cQ cZ cL)) (hi : i9 + 4 ≤ L9) (hcl : cells + 3 ≤ 600000 ∧ slots + 29 ≤ 7000000) (hl : lv_has ls 8 [(0, .ref b9), (1, .ref x0), (2, .ref m0), (3, .ref ou), (4, .int (zi (i9 : Int)))]) (hP : va_P (dC, dI) vwCl (cX x0 pa ba ax ay sp ss vs fr m0 a1 a2 a3 a4 a5 a6 a7 a8 a9 a10 a11 ou cA cQ cZ cL pn bn ln sn pf bs xs ys spf ssf vf sf hh rr cf wf of a b tw ab be ++ flat cA pool) H) (hD : va_D A (cX x0 pa ba ax ay sp ss vs fr m0 a1 a2 a3 a4 a5 a6 a7 a8 a9 a10 a11 ou cA cQ cZ cL pn bn ln sn pf bs xs ys spf ssf vf sf hh rr cf wf of a b tw ab be ++ flat cA pool)) (hS : va_S A s.heap H locs) (hI : Inv pool pn bn ln sn pf bs xs ys spf ssf vf sf hh rr cf wf)
    (kk : ∀ (k : Int) (z : Int) (ws2 : va_W) (H1 : Heap) (locs1 : List Loc) (ls1 : Array Slot), Fin9 x0 pa ba ax ay sp ss vs fr m0 a1 a2 a3 a4 a5 a6 a7 a8 a9 a10 a11 ou cA cQ cZ cL k z ws2 → va_P (dC, dI) vwCl ws2 H1 → va_D A ws2 → va_S A s.heap H1 locs1 → lv_has ls1 8 [(0, .ref b9), (1, .ref x0), (2, .ref m0), (3, .ref ou), (4, .int (zi (i9 : Int)))] → W p l e room_1 s m #[Value.ref b9] below meth c H1 locs1 (cells + 3) (slots + 29) Q (F0 m 1411 ls1 [])) : W p l e room_1 s m #[Value.ref b9] below meth c H locs (cells) (slots) Q (F0 m 1287 ls []) := by
  have b1 := zi_bd (scr (i9 + 1))
  have b2 := zi_bd (scr (i9 + 2))
  have b3 := zi_bd (scr (i9 + 3))
  have hmp := hI.1.2.1
  by_cases c9 : 0 ≤ (scr (i9 + 1)).toInt ∧ (scr (i9 + 1)).toInt < (pn : Int)
  · by_cases c8 : (scr (i9 + 2)).toInt = 0
    · have hO := o_vessels_0 l dC dI x0 pa ba ax ay sp ss vs fr m0 a1 a2 a3 a4 a5 a6 a7 a8 a9 a10 a11 ou cA cQ cZ cL pn bn ln sn pf bs xs ys spf ssf vf sf hh rr cf wf of a b tw ab be pool ((scr (i9 + 1)).toInt) ((scr (i9 + 2)).toInt) hI c9 c8
      exact seg_vessels C hi hcl (by decide) hl hP hD hS hO kk
    · by_cases c7 : (scr (i9 + 2)).toInt = 1
      · have hO := o_vessels_1 l dC dI x0 pa ba ax ay sp ss vs fr m0 a1 a2 a3 a4 a5 a6 a7 a8 a9 a10 a11 ou cA cQ cZ cL pn bn ln sn pf bs xs ys spf ssf vf sf hh rr cf wf of a b tw ab be pool ((scr (i9 + 1)).toInt) ((scr (i9 + 2)).toInt) hI c9 c7
        exact seg_vessels C hi hcl (by decide) hl hP hD hS hO kk
      · have hO := o_vessels_w l hl0 dC dI x0 pa ba ax ay sp ss vs fr m0 a1 a2 a3 a4 a5 a6 a7 a8 a9 a10 a11 ou cA cQ cZ cL pn bn ln sn pf bs xs ys spf ssf vf sf hh rr cf wf of a b tw ab be pool ((scr (i9 + 1)).toInt) ((scr (i9 + 2)).toInt) hI b1 b2 c9 (by omega)
        exact seg_vessels C hi hcl (by decide) hl hP hD hS hO kk
  · have hO := o_vessels_p l hl0 dC dI x0 pa ba ax ay sp ss vs fr m0 a1 a2 a3 a4 a5 a6 a7 a8 a9 a10 a11 ou cA cQ cZ cL pn bn ln sn pf bs xs ys spf ssf vf sf hh rr cf wf of a b tw ab be pool ((scr (i9 + 1)).toInt) ((scr (i9 + 2)).toInt) hI b1 b2 c9
    exact seg_vessels C hi hcl (by decide) hl hP hD hS hO kk
set_option maxHeartbeats 4000000 in
set_option maxRecDepth 100000 in
theorem case_count {x0 pa ba ax ay sp ss vs fr m0 a1 a2 a3 a4 a5 a6 a7 a8 a9 a10 a11 ou : Nat} {cA cQ cZ cL : ClassId} {pn bn ln sn : Nat} {pf : Nat → Option Nat} {bs xs ys spf ssf vf sf hh rr cf wf of : Nat → Int} {a b tw ab be : Int} {pool : List PR} (hl0 : l.stackTraces = false) (C : LC p s m c b9 L9 scr A (dC, dI) (tysL cA cQ cZ cL)) (hi : i9 + 4 ≤ L9) (hcl : cells + 3 ≤ 600000 ∧ slots + 29 ≤ 7000000) (hl : lv_has ls 8 [(0, .ref b9), (1, .ref x0), (2, .ref m0), (3, .ref ou), (4, .int (zi (i9 : Int)))]) (hP : va_P (dC, dI) vwCl (cX x0 pa ba ax ay sp ss vs fr m0 a1 a2 a3 a4 a5 a6 a7 a8 a9 a10 a11 ou cA cQ cZ cL pn bn ln sn pf bs xs ys spf ssf vf sf hh rr cf wf of a b tw ab be ++ flat cA pool) H) (hD : va_D A (cX x0 pa ba ax ay sp ss vs fr m0 a1 a2 a3 a4 a5 a6 a7 a8 a9 a10 a11 ou cA cQ cZ cL pn bn ln sn pf bs xs ys spf ssf vf sf hh rr cf wf of a b tw ab be ++ flat cA pool)) (hS : va_S A s.heap H locs) (hI : Inv pool pn bn ln sn pf bs xs ys spf ssf vf sf hh rr cf wf)
    (kk : ∀ (k : Int) (z : Int) (ws2 : va_W) (H1 : Heap) (locs1 : List Loc) (ls1 : Array Slot), Fin9 x0 pa ba ax ay sp ss vs fr m0 a1 a2 a3 a4 a5 a6 a7 a8 a9 a10 a11 ou cA cQ cZ cL k z ws2 → va_P (dC, dI) vwCl ws2 H1 → va_D A ws2 → va_S A s.heap H1 locs1 → lv_has ls1 8 [(0, .ref b9), (1, .ref x0), (2, .ref m0), (3, .ref ou), (4, .int (zi (i9 : Int)))] → W p l e room_1 s m #[Value.ref b9] below meth c H1 locs1 (cells + 3) (slots + 29) Q (F0 m 1411 ls1 [])) : W p l e room_1 s m #[Value.ref b9] below meth c H locs (cells) (slots) Q (F0 m 1355 ls []) := by
  have b1 := zi_bd (scr (i9 + 1))
  have b2 := zi_bd (scr (i9 + 2))
  have b3 := zi_bd (scr (i9 + 3))
  have hmp := hI.1.2.1
  by_cases c9 : 0 ≤ (scr (i9 + 1)).toInt ∧ (scr (i9 + 1)).toInt ≤ 3
  · have hO := o_count_y l dC dI x0 pa ba ax ay sp ss vs fr m0 a1 a2 a3 a4 a5 a6 a7 a8 a9 a10 a11 ou cA cQ cZ cL pn bn ln sn pf bs xs ys spf ssf vf sf hh rr cf wf of a b tw ab be pool ((scr (i9 + 1)).toInt) hI c9
    exact seg_count C hi hcl (by decide) hl hP hD hS hO kk
  · have hO := o_count_I l hl0 dC dI x0 pa ba ax ay sp ss vs fr m0 a1 a2 a3 a4 a5 a6 a7 a8 a9 a10 a11 ou cA cQ cZ cL pn bn ln sn pf bs xs ys spf ssf vf sf hh rr cf wf of a b tw ab be pool ((scr (i9 + 1)).toInt) hI b1 c9
    exact seg_count C hi hcl (by decide) hl hP hD hS hO kk
end CS9
