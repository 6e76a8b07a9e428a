section LP
variable {p : Program} {l : Launch} {e : Env} {s : State} {m : MethodId} {below : List Frame} {meth : Method} {c : Code} {H : Heap} {locs : List Loc} {cells slots : Nat} {Q : State → Prop} {ls : Array Slot} {A : Nat → Prop} {b9 L9 i9 : Nat} {scr : Nat → Int32} {dC : Nat → ClassId} {dI : Nat → Nat → Nat} {ws : va_W}
set_option maxHeartbeats 4000000 in
set_option maxRecDepth 100000 in
/-- THE LAW'S LOOP -/
theorem law_loop {x0 pa ba ax ay sp ss vs fr m0 a1 a2 a3 a4 a5 a6 a7 a8 a9 a10 a11 ou : Nat} {cA cQ cZ cL : ClassId} (hl0 : l.stackTraces = false) (C : LC p s m c b9 L9 scr (fun q : Nat => s.heap.size ≤ q) (dC, dI) (tysL cA cQ cZ cL)) (hr : meth.sig.returnType = ret) (hlocks : meth.locks = false) :
    ∀ (n t : Nat), L9 + 1 ≤ 4 * t + n → 4 * t ≤ L9 → ∀ (k z : Int) (ws : va_W) (H : Heap) (locs : List Loc) (ls : Array Slot), Fin9 x0 pa ba ax ay sp ss vs fr m0 a1 a2 a3 a4 a5 a6 a7 a8 a9 a10 a11 ou cA cQ cZ cL k z ws → va_P (dC, dI) vwCl ws H → va_D (fun q : Nat => s.heap.size ≤ q) ws → va_S (fun q : Nat => s.heap.size ≤ q) s.heap H locs → lv_has ls 8 [(0, .ref b9), (1, .ref x0), (2, .ref m0), (3, .ref ou), (4, .int (zi ((4 * t : Nat) : Int)))] → W p l e room_1 s m #[Value.ref b9] below meth c H locs (30 + 3 * t) (1000 + 29 * t) (lw_Z below #[Value.ref b9] s) (F0 m 23 ls []) := by
  obtain ⟨hx, hb, hml, hown, hg, hX, hbl, hbA, hA, hK, hXA, hL⟩ := id C
  intro n
  induction n with
  | zero => intro t h1 h2; exact absurd h1 (by omega)
  | succ n ih =>
    intro t h1 h2 k z ws H locs ls hFin hP0 hD0 hS hl
    obtain ⟨pool, pn, bn, ln, sn, pf, bs, xs, ys, spf, ssf, vf, sf, hh, rr, cf, wf, of, a, b, ab, be, hInv, hz, hperm⟩ := id hFin
    have hP := va_Pp hperm hP0
    have hD := va_Dp hperm hD0
    refine lv_iload hx hb dL_law_23 (lv_at hl 4 rfl) ?_
    refine lv_aload_n hx hb dL_law_25 rfl (lv_at hl 0 rfl) ?_
    refine va_slen hx hb hX hbl hbA hS dL_law_26 ?_
    rw [show Int32.ofNat L9 = zi (L9 : Int) from (zi_nat L9).symm]
    refine lv_iconst (v := zi (4)) hx hb dL_law_27 rfl ?_
    refine zz_isub hx hb dL_law_28 ?_
    refine zz_icmp_gt (tgt := 1417) hx hb (by omega) (by omega) dL_law_29 (by decide) (fun q => ?_) (fun q => ?_)
    · refine lv_iconst (v := 1) hx hb dL_law_1417 (by decide) ?_
      refine va_forget (fun q hq => hS.2.2 q hq) ?_
      refine W.widen (show 30 + 3 * t ≤ 601024 by omega) (show 1000 + 29 * t ≤ 7293033 by omega) ?_
      exact lw_ret hx hb hr hlocks dL_law_1418
    have hi : 4 * t + 4 ≤ L9 := by omega
    have hcl : 30 + 3 * t + 3 ≤ 600000 ∧ 1000 + 29 * t + 29 ≤ 7000000 := ⟨by omega, by omega⟩
    have kk : ∀ (k : Int) (z : Int) (ws2 : va_W) (H1 : Heap) (locs1 : List Loc) (ls1 : Array Slot), Fin9 x0 pa ba ax ay sp ss vs fr m0 a1 a2 a3 a4 a5 a6 a7 a8 a9 a10 a11 ou cA cQ cZ cL k z ws2 → va_P (dC, dI) vwCl ws2 H1 → va_D (fun q : Nat => s.heap.size ≤ q) ws2 → va_S (fun q : Nat => s.heap.size ≤ q) s.heap H1 locs1 → lv_has ls1 8 [(0, .ref b9), (1, .ref x0), (2, .ref m0), (3, .ref ou), (4, .int (zi ((4 * t : Nat) : Int)))] → W p l e room_1 s m #[Value.ref b9] below meth c H1 locs1 (30 + 3 * t + 3) (1000 + 29 * t + 29) (lw_Z below #[Value.ref b9] s) (F0 m 1411 ls1 []) := by
      intro k2 z2 ws2 H1 locs1 ls1 hF hP hD hS hl
      rw [show 30 + 3 * t + 3 = 30 + 3 * (t + 1) by omega, show 1000 + 29 * t + 29 = 1000 + 29 * (t + 1) by omega]
      refine lv_iinc (v := zi ((4 * (t + 1) : Nat) : Int)) (lv' := [(4, .int (zi ((4 * (t + 1) : Nat) : Int))), (0, .ref b9), (1, .ref x0), (2, .ref m0), (3, .ref ou)]) hx hb dL_law_1411 hl (k := 4) rfl (by rw [show ((4 * (t + 1) : Nat) : Int) = ((4 * t : Nat) : Int) + 4 by omega]; exact zi_add _ _) (by decide) rfl (fun ls hl => ?_)
      refine lv_goto (tgt := 23) hx hb dL_law_1414 (by decide) ?_
      exact ih (t + 1) (by omega) (by omega) k2 z2 ws2 H1 locs1 ls hF hP hD hS (lv_sub hl [1, 2, 3, 4, 0] rfl)
    refine lv_aload_n hx hb dL_law_32 rfl (lv_at hl 0 rfl) ?_
    refine lv_iload hx hb dL_law_33 (lv_at hl 4 rfl) ?_
    refine zz_sld hx hb hX hbl hbA hS (4 * t) rfl (by omega) (by omega) dL_law_35 ?_
    refine lv_bipush (v := 31) hx hb dL_law_36 (by decide) ?_
    refine lv_iand hx hb dL_law_38 ?_
    refine lv_topi (fun x ex => ?_)
    by_cases hs_ : x.toInt < 0 ∨ 19 < x.toInt
    · refine lv_tableOut (tgt := 1411) hx hb dL_law_39 hs_ (by decide) ?_
      exact W.widen (show 30 + 3 * t ≤ 30 + 3 * t + 3 by omega) (show 1000 + 29 * t ≤ 1000 + 29 * t + 29 by omega) (kk k z ws H locs ls hFin hP0 hD0 hS hl)
    rcases (show x.toInt = 0 ∨ x.toInt = 1 ∨ x.toInt = 2 ∨ x.toInt = 3 ∨ x.toInt = 4 ∨ x.toInt = 5 ∨ x.toInt = 6 ∨ x.toInt = 7 ∨ x.toInt = 8 ∨ x.toInt = 9 ∨ x.toInt = 10 ∨ x.toInt = 11 ∨ x.toInt = 12 ∨ x.toInt = 13 ∨ x.toInt = 14 ∨ x.toInt = 15 ∨ x.toInt = 16 ∨ x.toInt = 17 ∨ x.toInt = 18 ∨ x.toInt = 19 by omega) with hq_ | hq_ | hq_ | hq_ | hq_ | hq_ | hq_ | hq_ | hq_ | hq_ | hq_ | hq_ | hq_ | hq_ | hq_ | hq_ | hq_ | hq_ | hq_ | hq_
    · refine lv_tableIn (tgt := 132) hx hb dL_law_39 (by rw [hq_]; decide) (by rw [hq_]; decide) (by rw [hq_]; rfl) (by decide) ?_
      exact case_profile hl0 C hi hcl hl hP hD hS hInv kk
    · refine lv_tableIn (tgt := 176) hx hb dL_law_39 (by rw [hq_]; decide) (by rw [hq_]; decide) (by rw [hq_]; rfl) (by decide) ?_
      exact case_corner hl0 C hi hcl hl hP hD hS hInv kk
    · refine lv_tableIn (tgt := 263) hx hb dL_law_39 (by rw [hq_]; decide) (by rw [hq_]; decide) (by rw [hq_]; rfl) (by decide) ?_
      exact case_at hl0 C hi hcl hl hP hD hS hInv kk
    · refine lv_tableIn (tgt := 343) hx hb dL_law_39 (by rw [hq_]; decide) (by rw [hq_]; decide) (by rw [hq_]; rfl) (by decide) ?_
      exact case_radius hl0 C hi hcl hl hP hD hS hInv kk
    · refine lv_tableIn (tgt := 411) hx hb dL_law_39 (by rw [hq_]; decide) (by rw [hq_]; decide) (by rw [hq_]; rfl) (by decide) ?_
      exact case_volume hl0 C hi hcl hl hP hD hS hInv kk
    · refine lv_tableIn (tgt := 490) hx hb dL_law_39 (by rw [hq_]; decide) (by rw [hq_]; decide) (by rw [hq_]; rfl) (by decide) ?_
      exact case_holds hl0 C hi hcl hl hP hD hS hInv kk
    · refine lv_tableIn (tgt := 569) hx hb dL_law_39 (by rw [hq_]; decide) (by rw [hq_]; decide) (by rw [hq_]; rfl) (by decide) ?_
      exact case_enclosed hl0 C hi hcl hl hP hD hS hInv kk
    · refine lv_tableIn (tgt := 636) hx hb dL_law_39 (by rw [hq_]; decide) (by rw [hq_]; decide) (by rw [hq_]; rfl) (by decide) ?_
      exact case_wall hl0 C hi hcl hl hP hD hS hInv kk
    · refine lv_tableIn (tgt := 704) hx hb dL_law_39 (by rw [hq_]; decide) (by rw [hq_]; decide) (by rw [hq_]; rfl) (by decide) ?_
      exact case_unlike hl0 C hi hcl hl hP hD hS hInv kk
    · refine lv_tableIn (tgt := 772) hx hb dL_law_39 (by rw [hq_]; decide) (by rw [hq_]; decide) (by rw [hq_]; rfl) (by decide) ?_
      exact case_cut hl0 C hi hcl hl hP hD hS hInv kk
    · refine lv_tableIn (tgt := 847) hx hb dL_law_39 (by rw [hq_]; decide) (by rw [hq_]; decide) (by rw [hq_]; rfl) (by decide) ?_
      exact case_drawn hl0 C hi hcl hl hP hD hS hInv kk
    · refine lv_tableIn (tgt := 927) hx hb dL_law_39 (by rw [hq_]; decide) (by rw [hq_]; decide) (by rw [hq_]; rfl) (by decide) ?_
      exact case_bound hl0 C hi hcl hl hP hD hS hInv kk
    · refine lv_tableIn (tgt := 983) hx hb dL_law_39 (by rw [hq_]; decide) (by rw [hq_]; decide) (by rw [hq_]; rfl) (by decide) ?_
      exact case_size hl0 C hi hcl hl hP hD hS hInv kk
    · refine lv_tableIn (tgt := 1039) hx hb dL_law_39 (by rw [hq_]; decide) (by rw [hq_]; decide) (by rw [hq_]; rfl) (by decide) ?_
      exact case_rim hl0 C hi hcl hl hP hD hS hInv kk
    · refine lv_tableIn (tgt := 1107) hx hb dL_law_39 (by rw [hq_]; decide) (by rw [hq_]; decide) (by rw [hq_]; rfl) (by decide) ?_
      exact case_clear hl0 C hi hcl hl hP hD hS hInv kk
    · refine lv_tableIn (tgt := 1120) hx hb dL_law_39 (by rw [hq_]; decide) (by rw [hq_]; decide) (by rw [hq_]; rfl) (by decide) ?_
      exact case_circle hl0 C hi hcl hl hP hD hS hInv kk
    · refine lv_tableIn (tgt := 1175) hx hb dL_law_39 (by rw [hq_]; decide) (by rw [hq_]; decide) (by rw [hq_]; rfl) (by decide) ?_
      exact case_curve hl0 C hi hcl hl hP hD hS hInv kk
    · refine lv_tableIn (tgt := 1219) hx hb dL_law_39 (by rw [hq_]; decide) (by rw [hq_]; decide) (by rw [hq_]; rfl) (by decide) ?_
      exact case_sherd hl0 C hi hcl hl hP hD hS hInv kk
    · refine lv_tableIn (tgt := 1287) hx hb dL_law_39 (by rw [hq_]; decide) (by rw [hq_]; decide) (by rw [hq_]; rfl) (by decide) ?_
      exact case_vessels hl0 C hi hcl hl hP hD hS hInv kk
    · refine lv_tableIn (tgt := 1355) hx hb dL_law_39 (by rw [hq_]; decide) (by rw [hq_]; decide) (by rw [hq_]; rfl) (by decide) ?_
      exact case_count hl0 C hi hcl hl hP hD hS hInv kk
end LP
