/-! the law's world -/
theorem permE2 {E Y : va_W} (k : Nat) (h0 : E.length = k) (is : List Nat) (h1 : is.Perm (List.range k)) (h2 : is.map (fun i => E[i]?) = Y.map some) : E.Perm Y := permE is (by rw [h0]; exact h1) h2
def pcell (cA : ClassId) (r : PR) : va_W := [(r.1, .inr (1, [.ref r.2.1, .ref r.2.2.1, .int (zi ((r.2.2.2.1 : Nat) : Int)), .int (zi (r.2.2.2.2.1)), .int (zi (r.2.2.2.2.2.1))])), (r.2.1, .inl (cA, 12, .inl (zA (r.2.2.2.2.2.2.1)))), (r.2.2.1, .inl (cA, 12, .inl (zA (r.2.2.2.2.2.2.2))))]
def flat (cA : ClassId) (pool : List PR) : va_W := pool.flatMap (pcell cA)
abbrev cX (x0 pa ba ax ay sp ss vs fr m0 a1 a2 a3 a4 a5 a6 a7 a8 a9 a10 a11 ou : Nat) (cA cQ cZ cL : ClassId) (pn bn ln sn : Nat) (pf : Nat → Option Nat) (bs xs ys spf ssf vf sf hh rr cf wf of : Nat → Int) (a b tw ab be : Int) : va_W := [(x0, .inr (2, [.ref pa, .int (zi ((pn : Nat) : Int)), .ref ba, .int (zi ((bn : Nat) : Int)), .ref ax, .ref ay, .int (zi ((ln : Nat) : Int)), .ref sp, .ref ss, .int (zi ((sn : Nat) : Int)), .ref vs, .ref fr])), (pa, .inl (cQ, 6, .inr (.inr (.inr (.inr (pf)))))), (ba, .inl (cA, 10, .inl (zA (bs)))), (ax, .inl (cA, 20, .inl (zA (xs)))), (ay, .inl (cA, 20, .inl (zA (ys)))), (sp, .inl (cA, 60, .inl (zA (spf)))), (ss, .inl (cA, 60, .inl (zA (ssf)))), (vs, .inl (cA, 60, .inl (zA (vf)))), (fr, .inr (0, [.long (zl (a)), .long (zl (b))])), (m0, .inr (3, [.int (zi (tw)), .int (zi ((pn : Nat) : Int)), .ref a1, .ref a2, .ref a3, .ref a4, .ref a5, .ref a6, .int (zi ((bn : Nat) : Int)), .ref a7, .ref a8, .int (zi ((ln : Nat) : Int)), .ref a9, .ref a10, .int (zi ((sn : Nat) : Int)), .ref a11, .long (zl (ab)), .long (zl (be))])), (a1, .inl (cA, 6, .inl (zA (sf)))), (a2, .inl (cA, 72, .inl (zA (hh)))), (a3, .inl (cA, 72, .inl (zA (rr)))), (a4, .inl (cZ, 6, .inl (zA (cf)))), (a5, .inl (cA, 6, .inl (zA (wf)))), (a6, .inl (cA, 10, .inl (zA (bs)))), (a7, .inl (cA, 20, .inl (zA (xs)))), (a8, .inl (cA, 20, .inl (zA (ys)))), (a9, .inl (cA, 60, .inl (zA (spf)))), (a10, .inl (cA, 60, .inl (zA (ssf)))), (a11, .inl (cA, 60, .inl (zA (vf)))), (ou, .inl (cL, 1, .inr (.inl (zB (of)))))]
theorem focus {cA : ClassId} {X : va_W} {pre post : List PR} {r : PR} : (X ++ flat cA (pre ++ r :: post)).Perm ((X ++ pcell cA r) ++ flat cA (pre ++ post)) := by
  unfold flat
  rw [List.flatMap_append, List.flatMap_cons, List.flatMap_append, List.append_assoc]
  exact List.Perm.append_left X (List.perm_append_comm_assoc _ _ _)
theorem focus2 {cA : ClassId} {X : va_W} {pre mid post : List PR} {r t : PR} : (X ++ flat cA (pre ++ r :: (mid ++ t :: post))).Perm (((X ++ pcell cA r) ++ pcell cA t) ++ flat cA (pre ++ (mid ++ post))) := by
  refine List.Perm.trans focus ?_
  have := focus (cA := cA) (X := X ++ pcell cA r) (pre := pre ++ mid) (post := post) (r := t)
  rw [List.append_assoc pre mid (t :: post), List.append_assoc pre mid post] at this
  exact this
def Rl (sf hh rr cf wf : Nat → Int) (j : Nat) (r : PR) : Prop := sf j = ((r.2.2.2.1 : Nat) : Int) ∧ wf j = r.2.2.2.2.1 ∧ cf j = r.2.2.2.2.2.1 ∧ (∀ k, k < 12 → hh (12 * j + k) = r.2.2.2.2.2.2.1 k) ∧ (∀ k, k < 12 → rr (12 * j + k) = r.2.2.2.2.2.2.2 k) ∧ Vd r.2.2.2.1 r.2.2.2.2.1 r.2.2.2.2.2.1 r.2.2.2.2.2.2.1 r.2.2.2.2.2.2.2
def Inv (pool : List PR) (pn bn ln sn : Nat) (pf : Nat → Option Nat) (bs xs ys spf ssf vf sf hh rr cf wf : Nat → Int) : Prop :=
  (pn = pool.length ∧ pn ≤ 6 ∧ (∀ j, pf j = (pool[j]?).map Prod.fst) ∧ (∀ (j : Nat) (r : PR), pool[j]? = some r → Rl sf hh rr cf wf j r) ∧ (∀ j, pn ≤ j → j < 6 → sf j = 0 ∧ wf j = 0 ∧ cf j = 0 ∧ (∀ k, k < 12 → hh (12 * j + k) = 0) ∧ (∀ k, k < 12 → rr (12 * j + k) = 0))) ∧
  (bn ≤ 10 ∧ (∀ j, 0 ≤ bs j ∧ bs j ≤ 1000000000)) ∧ (ln ≤ 20 ∧ (∀ j, -200 ≤ xs j ∧ xs j ≤ 200) ∧ (∀ j, -200 ≤ ys j ∧ ys j ≤ 200)) ∧ (sn ≤ 60 ∧ (∀ j, 0 ≤ spf j ∧ spf j ≤ 5) ∧ (∀ j, 0 ≤ ssf j ∧ ssf j ≤ 1000) ∧ (∀ j, 0 ≤ vf j ∧ vf j ≤ 1000))
def Fin9 (x0 pa ba ax ay sp ss vs fr m0 a1 a2 a3 a4 a5 a6 a7 a8 a9 a10 a11 ou : Nat) (cA cQ cZ cL : ClassId) (tw z : Int) (ws : va_W) : Prop := ∃ (pool : List PR) (pn bn ln sn : Nat) (pf : Nat → Option Nat) (bs xs ys spf ssf vf sf hh rr cf wf of : Nat → Int) (a b ab be : Int), Inv pool pn bn ln sn pf bs xs ys spf ssf vf sf hh rr cf wf ∧ (tw = 0 → of 0 = z) ∧ ws.Perm (cX x0 pa ba ax ay sp ss vs fr m0 a1 a2 a3 a4 a5 a6 a7 a8 a9 a10 a11 ou cA cQ cZ cL pn bn ln sn pf bs xs ys spf ssf vf sf hh rr cf wf of a b tw ab be ++ flat cA pool)
abbrev tysL (cA cQ cZ cL : ClassId) : List (ClassId × FieldType) := [(cQ, .object "PotVolumes$Profile"), (cA, .int), (cZ, .boolean), (cL, .long)]
def HelpC (l : Launch) (D : va_G) (ty : List (ClassId × FieldType)) (y : MethodName) (cw : Cond) (As : List Value) (k : Int) (ws : va_W) (G : va_W → Prop) : Prop :=
  ∃ (rm : Room) (tys : List (ClassId × FieldType)) (is : List Nat) (wc wr : va_W) (F : va_W → Prop) (mc ms : Nat),
    (∀ sz, Met l y (cw :: gw) rm (PcH As D vwCl wc tys sz) (NwQ (some (.int (zi k))) D vwCl F (va_A wc sz)) mc ms (va_A wc sz)) ∧ is.filterMap (fun i => ty[i]?) = tys ∧ ws.Perm (wc ++ wr) ∧ rm.cells = mc ∧ rm.slots = ms ∧ mc ≤ 3 ∧ ms ≤ 29 ∧ rm.frames ≤ 9 ∧ rm.locals ≤ 300 ∧ ∀ w1, F w1 → G (w1 ++ wr)
def ModC (l : Launch) (D : va_G) (ty : List (ClassId × FieldType)) (y : MethodName) (cw : Cond) (m0 : Nat) (As : List Value) (v : Value) (ws : va_W) (G : va_W → Prop) : Prop :=
  ∃ (rm : Room) (tys : List (ClassId × FieldType)) (is : List Nat) (wc wr w1 : va_W) (fs : List Value),
    (∀ sz, Met l y (cw :: gw) rm (PcW (.ref m0 :: As) D vwCl wc tys sz) (WrQ (some v) D vwCl w1 (va_A wc sz)) 0 0 (va_A wc sz)) ∧ is.filterMap (fun i => ty[i]?) = tys ∧ ws.Perm (wc ++ wr) ∧ rm.cells = 0 ∧ rm.slots = 0 ∧ rm.frames ≤ 9 ∧ rm.locals ≤ 300 ∧ w1.map Prod.fst = wc.map Prod.fst ∧ wc[0]? = some (m0, .inr (3, fs)) ∧ G (w1 ++ wr)
/-- what holds all through the law -/
def LC (p : Program) (s : State) (m : MethodId) (c : Code) (b L : Nat) (scr : Nat → Int32) (A : Nat → Prop) (D : va_G) (ty : List (ClassId × FieldType)) : Prop :=
  p.tables.exec = Jvm.exec ∧ c.code = cL_law ∧ c.maxLocals = 8 ∧ s.vm.findClass RL = some m.cls ∧ (∀ w ∈ gw, w.before #[Value.ref b] s = true) ∧ va_X b L scr s s.heap ∧ b < s.heap.size ∧ ¬ A b ∧ (∀ q, s.heap.size ≤ q → A q) ∧ va_K D vwCl ty s ∧ (∀ (H : Heap) (locs : List Loc), va_S A s.heap H locs → ∀ U : State, U.heap = H → s.WarmedH U.vm → xA U) ∧ L ≤ 2048
section SG
variable {p : Program} {l : Launch} {e : Env} {s : State} {m : MethodId} {below : List Frame} {meth : Method} {c : Code} {H : Heap} {locs : List Loc} {cells slots : Nat} {Q : State → Prop} {ls : Array Slot} {A : Nat → Prop} {b9 L9 i9 : Nat} {scr : Nat → Int32} {dC : Nat → ClassId} {dI : Nat → Nat → Nat} {ws : va_W}
set_option maxHeartbeats 4000000 in
set_option maxRecDepth 100000 in
theorem seg_profile {x0 pa ba ax ay sp ss vs fr m0 a1 a2 a3 a4 a5 a6 a7 a8 a9 a10 a11 ou : Nat} {cA cQ cZ cL : ClassId} {k bv : Int} (C : LC p s m c b9 L9 scr A (dC, dI) (tysL cA cQ cZ cL)) (hi : i9 + 4 ≤ L9) (hcl : cells + 3 ≤ 600000 ∧ slots + 29 ≤ 7000000) (hk : 0 ≤ k ∧ k ≤ 3) (hl : lv_has ls 8 [(0, .ref b9), (1, .ref x0), (2, .ref m0), (3, .ref ou), (4, .int (zi (i9 : Int)))]) (hP : va_P (dC, dI) vwCl ws H) (hD : va_D A ws) (hS : va_S A s.heap H locs)
    (h : HelpC l (dC, dI) (tysL cA cQ cZ cL) yL_profile (Cond.codeWith yL_profile cL_profile 3 (Option.some Jvm.ClassFile.FieldType.int) [((0 : Nat), (8 : Nat), (11 : Nat), (13 : Nat))]) [.ref x0, .ref ou] k ws (fun ws1 => ModC l (dC, dI) (tysL cA cQ cZ cL) yX3_profile (Cond.code yX3_profile cX3_profile 1 ((Option.some Jvm.ClassFile.FieldType.int))) m0 [] (.int (zi (bv))) ws1 (fun ws2 => Fin9 x0 pa ba ax ay sp ss vs fr m0 a1 a2 a3 a4 a5 a6 a7 a8 a9 a10 a11 ou cA cQ cZ cL k ((zi (bv)).toInt) ws2)))
    (kk : ∀ (k : Int) (z : Int) (ws2 : va_W) (H1 : Heap) (locs1 : List Loc) (ls1 : Array Slot), Fin9 x0 pa ba ax ay sp ss vs fr m0 a1 a2 a3 a4 a5 a6 a7 a8 a9 a10 a11 ou cA cQ cZ cL k z ws2 → va_P (dC, dI) vwCl ws2 H1 → va_D A ws2 → va_S A s.heap H1 locs1 → lv_has ls1 8 [(0, .ref b9), (1, .ref x0), (2, .ref m0), (3, .ref ou), (4, .int (zi (i9 : Int)))] → W p l e room_1 s m #[Value.ref b9] below meth c H1 locs1 (cells + 3) (slots + 29) Q (F0 m 1411 ls1 [])) : W p l e room_1 s m #[Value.ref b9] below meth c H locs (cells) (slots) Q (F0 m 132 ls []) := by
  obtain ⟨hx, hb, hml, hown, hg, hX, hbl, hbA, hA, hK, hXA, hL⟩ := C
  obtain ⟨rm, tys, is, wc, wr, F, mc, ms, hM, hty, hp, hrc, hrs, hmc, hms, hfr, hlo, hG⟩ := h
  refine lv_aload_n hx hb dL_law_132 rfl (lv_at hl 1 rfl) ?_
  refine lv_aload_n hx hb dL_law_133 rfl (lv_at hl 3 rfl) ?_
  refine lwS (n := 2) (rest := []) hx hb hml hown hg (hM H.size) wl_L_85 wt_L_profile wi_L wc_L_profile hrc hrs (by decide +kernel) ⟨by show rm.frames + 1 ≤ 11; omega, by show 8 + (3 + 11) + rm.locals ≤ 424; omega⟩ (hK.sub is hty) (hXA H locs hS) hP hD hS hA hp rfl hl.1 rfl (Nat.le_of_ble_eq_true rfl) dL_law_134 ⟨by show cells + mc ≤ 601024; omega, by show slots + ms ≤ 7293033; omega⟩ (fun w1 H1 locs1 hF hP hD hS => ?_)
  refine lv_istore (lv' := [(5, .int (zi (k))), (0, .ref b9), (1, .ref x0), (2, .ref m0), (3, .ref ou), (4, .int (zi (i9 : Int)))]) hx hb dL_law_137 hl (by decide) rfl (fun ls hl => ?_)
  obtain ⟨rm2, ty2, is2, wc2, wr2, w2, fs2, hM2, hty2, hp2, hrc2, hrs2, hfr2, hlo2, hfst, hm0, hFin⟩ := hG w1 hF
  refine lv_aload_n hx hb dL_law_139 rfl (lv_at hl 3 rfl) ?_
  refine lwV (n := 0) (rest := []) hx hb hml hown hg (hM2 H1.size) (gwV wl_L_90 wm_X3_profile we_X3_profile wi_X3 wc_X3_profile) hrc2 hrs2 (by decide +kernel) ⟨by show rm2.frames + 1 ≤ 11; omega, by show 8 + (1 + 11) + rm2.locals ≤ 424; omega⟩ (hK.sub is2 hty2) hP hD hS hA hp2 hfst 0 hm0 rfl rfl rfl hl.1 rfl (Nat.le_of_ble_eq_true rfl) dL_law_140 ⟨by show cells + mc ≤ 601024; omega, by show slots + ms ≤ 7293033; omega⟩ (fun H1 locs1 hP hD hS => ?_)
  refine lv_istore (lv' := [(6, .int (zi (bv))), (5, .int (zi (k))), (0, .ref b9), (1, .ref x0), (2, .ref m0), (3, .ref ou), (4, .int (zi (i9 : Int)))]) hx hb dL_law_143 hl (by decide) rfl (fun ls hl => ?_)
  have hkk : ∀ ls1 : Array Slot, lv_has ls1 8 [(0, .ref b9), (1, .ref x0), (2, .ref m0), (3, .ref ou), (4, .int (zi (i9 : Int)))] → W p l e room_1 s m #[Value.ref b9] below meth c H1 locs1 (cells + mc) (slots + ms) Q (F0 m 1411 ls1 []) := fun ls1 h1 => W.widen (show cells + mc ≤ cells + 3 by omega) (show slots + ms ≤ slots + 29 by omega) (kk k _ _ H1 locs1 ls1 hFin hP hD hS h1)
  obtain ⟨pool, pn, bn, ln, sn, pf, bs, xs, ys, spf, ssf, vf, sf, hh, rr, cf, wf, of, a, b, ab, be, hInv, hz, hperm⟩ := hFin
  have hP := va_Pp hperm hP
  refine lv_aload_n hx hb dL_law_145 rfl (lv_at hl 4 rfl) ?_
  refine rdV (As := []) (rest := []) (n := 0) hx hb hml hown hg (c_X3_thrown l dC dI m0 a1 a2 a3 a4 a5 a6 a7 a8 a9 a10 a11 k ab be pn bn ln sn) (gwV wl_L_91 wm_X3_thrown we_X3_thrown wi_X3 wc_X3_thrown) rfl rfl (by decide +kernel) ⟨(Nat.le_of_ble_eq_true rfl), (Nat.le_of_ble_eq_true rfl)⟩ (hK.sub [] rfl) (hP.sub [9] rfl) 0 rfl rfl rfl rfl hl.1 rfl (Nat.le_of_ble_eq_true rfl) dL_law_146 ⟨by show cells + mc ≤ 601024; omega, by show slots + ms ≤ 7293033; omega⟩ ?_
  refine lv_iload hx hb dL_law_149 (lv_at hl 1 rfl) ?_
  refine zz_icmp_eq (tgt := 156) hx hb (by omega) (by omega) dL_law_151 (by decide) (fun _ => ?_) (fun q => absurd rfl q)
  refine lv_iload hx hb dL_law_156 (lv_at hl 1 rfl) ?_
  refine zz_if_ne (tgt := 173) hx hb (by omega) dL_law_158 (by decide) (fun _ => ?_) (fun q => ?_)
  · refine lv_goto (tgt := 1411) hx hb dL_law_173 (by decide) ?_
    exact hkk ls (lv_sub hl [2, 3, 4, 5, 6] rfl)
  · refine lv_aload_n hx hb dL_law_161 rfl (lv_at hl 5 rfl) ?_
    refine lv_iconst (v := zi (0)) hx hb dL_law_162 rfl ?_
    refine zz_lald hx hb hK hP 21 3 rfl rfl (0) (by omega) (by omega) (by decide) dL_law_163 ?_
    rw [hz q]
    refine lv_iload hx hb dL_law_164 (lv_at hl 0 rfl) ?_
    refine zz_i2lr hx hb dL_law_166 ?_
    refine zz_lcmp_same (tgt := 173) hx hb dL_law_167 dL_law_168 (by decide) ?_
    refine lv_goto (tgt := 1411) hx hb dL_law_173 (by decide) ?_
    exact hkk ls (lv_sub hl [2, 3, 4, 5, 6] rfl)
set_option maxHeartbeats 4000000 in
set_option maxRecDepth 100000 in
theorem seg_corner {x0 pa ba ax ay sp ss vs fr m0 a1 a2 a3 a4 a5 a6 a7 a8 a9 a10 a11 ou : Nat} {cA cQ cZ cL : ClassId} {k bv : Int} (C : LC p s m c b9 L9 scr A (dC, dI) (tysL cA cQ cZ cL)) (hi : i9 + 4 ≤ L9) (hcl : cells + 3 ≤ 600000 ∧ slots + 29 ≤ 7000000) (hk : 0 ≤ k ∧ k ≤ 3) (hb01 : bv = 0 ∨ bv = 1) (hl : lv_has ls 8 [(0, .ref b9), (1, .ref x0), (2, .ref m0), (3, .ref ou), (4, .int (zi (i9 : Int)))]) (hP : va_P (dC, dI) vwCl ws H) (hD : va_D A ws) (hS : va_S A s.heap H locs)
    (h : HelpC l (dC, dI) (tysL cA cQ cZ cL) yL_corner (Cond.codeWith yL_corner cL_corner 6 (Option.some Jvm.ClassFile.FieldType.int) [((0 : Nat), (19 : Nat), (22 : Nat), (19 : Nat)), ((0 : Nat), (19 : Nat), (26 : Nat), (21 : Nat)), ((0 : Nat), (19 : Nat), (30 : Nat), (13 : Nat))]) [.ref x0, .int (zi ((scr (i9 + 1)).toInt)), .int (zi ((scr (i9 + 2)).toInt)), .int (zi ((scr (i9 + 3)).toInt)), .ref ou] k ws (fun ws1 => ModC l (dC, dI) (tysL cA cQ cZ cL) yX3_corner (Cond.code yX3_corner cX3_corner 5 ((Option.some Jvm.ClassFile.FieldType.boolean))) m0 [.int (zi ((scr (i9 + 1)).toInt)), .int (zi ((scr (i9 + 2)).toInt)), .int (zi ((scr (i9 + 3)).toInt))] (.int (zi (bv))) ws1 (fun ws2 => Fin9 x0 pa ba ax ay sp ss vs fr m0 a1 a2 a3 a4 a5 a6 a7 a8 a9 a10 a11 ou cA cQ cZ cL k (bv) ws2)))
    (kk : ∀ (k : Int) (z : Int) (ws2 : va_W) (H1 : Heap) (locs1 : List Loc) (ls1 : Array Slot), Fin9 x0 pa ba ax ay sp ss vs fr m0 a1 a2 a3 a4 a5 a6 a7 a8 a9 a10 a11 ou cA cQ cZ cL k z ws2 → va_P (dC, dI) vwCl ws2 H1 → va_D A ws2 → va_S A s.heap H1 locs1 → lv_has ls1 8 [(0, .ref b9), (1, .ref x0), (2, .ref m0), (3, .ref ou), (4, .int (zi (i9 : Int)))] → W p l e room_1 s m #[Value.ref b9] below meth c H1 locs1 (cells + 3) (slots + 29) Q (F0 m 1411 ls1 [])) : W p l e room_1 s m #[Value.ref b9] below meth c H locs (cells) (slots) Q (F0 m 176 ls []) := by
  obtain ⟨hx, hb, hml, hown, hg, hX, hbl, hbA, hA, hK, hXA, hL⟩ := C
  obtain ⟨rm, tys, is, wc, wr, F, mc, ms, hM, hty, hp, hrc, hrs, hmc, hms, hfr, hlo, hG⟩ := h
  refine lv_aload_n hx hb dL_law_176 rfl (lv_at hl 1 rfl) ?_
  refine lv_aload_n hx hb dL_law_177 rfl (lv_at hl 0 rfl) ?_
  refine lv_iload hx hb dL_law_178 (lv_at hl 4 rfl) ?_
  refine lv_iconst (v := zi (1)) hx hb dL_law_180 rfl ?_
  refine zz_iadd hx hb dL_law_181 ?_
  refine zz_sld hx hb hX hbl hbA hS (i9 + 1) (by omega) (by omega) (by omega) dL_law_182 ?_
  refine lv_aload_n hx hb dL_law_183 rfl (lv_at hl 0 rfl) ?_
  refine lv_iload hx hb dL_law_184 (lv_at hl 4 rfl) ?_
  refine lv_iconst (v := zi (2)) hx hb dL_law_186 rfl ?_
  refine zz_iadd hx hb dL_law_187 ?_
  refine zz_sld hx hb hX hbl hbA hS (i9 + 2) (by omega) (by omega) (by omega) dL_law_188 ?_
  refine lv_aload_n hx hb dL_law_189 rfl (lv_at hl 0 rfl) ?_
  refine lv_iload hx hb dL_law_190 (lv_at hl 4 rfl) ?_
  refine lv_iconst (v := zi (3)) hx hb dL_law_192 rfl ?_
  refine zz_iadd hx hb dL_law_193 ?_
  refine zz_sld hx hb hX hbl hbA hS (i9 + 3) (by omega) (by omega) (by omega) dL_law_194 ?_
  refine lv_aload_n hx hb dL_law_195 rfl (lv_at hl 3 rfl) ?_
  refine lwS (n := 5) (rest := []) hx hb hml hown hg (hM H.size) wl_L_94 wt_L_corner wi_L wc_L_corner hrc hrs (by decide +kernel) ⟨by show rm.frames + 1 ≤ 11; omega, by show 8 + (6 + 11) + rm.locals ≤ 424; omega⟩ (hK.sub is hty) (hXA H locs hS) hP hD hS hA hp rfl hl.1 rfl (Nat.le_of_ble_eq_true rfl) dL_law_196 ⟨by show cells + mc ≤ 601024; omega, by show slots + ms ≤ 7293033; omega⟩ (fun w1 H1 locs1 hF hP hD hS => ?_)
  refine lv_istore (lv' := [(5, .int (zi (k))), (0, .ref b9), (1, .ref x0), (2, .ref m0), (3, .ref ou), (4, .int (zi (i9 : Int)))]) hx hb dL_law_199 hl (by decide) rfl (fun ls hl => ?_)
  obtain ⟨rm2, ty2, is2, wc2, wr2, w2, fs2, hM2, hty2, hp2, hrc2, hrs2, hfr2, hlo2, hfst, hm0, hFin⟩ := hG w1 hF
  refine lv_aload_n hx hb dL_law_201 rfl (lv_at hl 3 rfl) ?_
  refine lv_aload_n hx hb dL_law_202 rfl (lv_at hl 1 rfl) ?_
  refine lv_iload hx hb dL_law_203 (lv_at hl 5 rfl) ?_
  refine lv_iconst (v := zi (1)) hx hb dL_law_205 rfl ?_
  refine zz_iadd hx hb dL_law_206 ?_
  refine zz_sld hx hb hX hbl hbA hS (i9 + 1) (by omega) (by omega) (by omega) dL_law_207 ?_
  refine lv_aload_n hx hb dL_law_208 rfl (lv_at hl 1 rfl) ?_
  refine lv_iload hx hb dL_law_209 (lv_at hl 5 rfl) ?_
  refine lv_iconst (v := zi (2)) hx hb dL_law_211 rfl ?_
  refine zz_iadd hx hb dL_law_212 ?_
  refine zz_sld hx hb hX hbl hbA hS (i9 + 2) (by omega) (by omega) (by omega) dL_law_213 ?_
  refine lv_aload_n hx hb dL_law_214 rfl (lv_at hl 1 rfl) ?_
  refine lv_iload hx hb dL_law_215 (lv_at hl 5 rfl) ?_
  refine lv_iconst (v := zi (3)) hx hb dL_law_217 rfl ?_
  refine zz_iadd hx hb dL_law_218 ?_
  refine zz_sld hx hb hX hbl hbA hS (i9 + 3) (by omega) (by omega) (by omega) dL_law_219 ?_
  refine lwV (n := 3) (rest := []) hx hb hml hown hg (hM2 H1.size) (gwV wl_L_97 wm_X3_corner we_X3_corner wi_X3 wc_X3_corner) hrc2 hrs2 (by decide +kernel) ⟨by show rm2.frames + 1 ≤ 11; omega, by show 8 + (5 + 11) + rm2.locals ≤ 424; omega⟩ (hK.sub is2 hty2) hP hD hS hA hp2 hfst 0 hm0 rfl rfl rfl hl.1 rfl (Nat.le_of_ble_eq_true rfl) dL_law_220 ⟨by show cells + mc ≤ 601024; omega, by show slots + ms ≤ 7293033; omega⟩ (fun H1 locs1 hP hD hS => ?_)
  refine lv_istore (lv' := [(6, .int (zi (bv))), (5, .int (zi (k))), (0, .ref b9), (1, .ref x0), (2, .ref m0), (3, .ref ou), (4, .int (zi (i9 : Int)))]) hx hb dL_law_223 hl (by decide) rfl (fun ls hl => ?_)
  have hkk : ∀ ls1 : Array Slot, lv_has ls1 8 [(0, .ref b9), (1, .ref x0), (2, .ref m0), (3, .ref ou), (4, .int (zi (i9 : Int)))] → W p l e room_1 s m #[Value.ref b9] below meth c H1 locs1 (cells + mc) (slots + ms) Q (F0 m 1411 ls1 []) := fun ls1 h1 => W.widen (show cells + mc ≤ cells + 3 by omega) (show slots + ms ≤ slots + 29 by omega) (kk k _ _ H1 locs1 ls1 hFin hP hD hS h1)
  obtain ⟨pool, pn, bn, ln, sn, pf, bs, xs, ys, spf, ssf, vf, sf, hh, rr, cf, wf, of, a, b, ab, be, hInv, hz, hperm⟩ := hFin
  have hP := va_Pp hperm hP
  refine lv_aload_n hx hb dL_law_225 rfl (lv_at hl 4 rfl) ?_
  refine rdV (As := []) (rest := []) (n := 0) hx hb hml hown hg (c_X3_thrown l dC dI m0 a1 a2 a3 a4 a5 a6 a7 a8 a9 a10 a11 k ab be pn bn ln sn) (gwV wl_L_91 wm_X3_thrown we_X3_thrown wi_X3 wc_X3_thrown) rfl rfl (by decide +kernel) ⟨(Nat.le_of_ble_eq_true rfl), (Nat.le_of_ble_eq_true rfl)⟩ (hK.sub [] rfl) (hP.sub [9] rfl) 0 rfl rfl rfl rfl hl.1 rfl (Nat.le_of_ble_eq_true rfl) dL_law_226 ⟨by show cells + mc ≤ 601024; omega, by show slots + ms ≤ 7293033; omega⟩ ?_
  refine lv_iload hx hb dL_law_229 (lv_at hl 1 rfl) ?_
  refine zz_icmp_eq (tgt := 236) hx hb (by omega) (by omega) dL_law_231 (by decide) (fun _ => ?_) (fun q => absurd rfl q)
  refine lv_iload hx hb dL_law_236 (lv_at hl 1 rfl) ?_
  refine zz_if_ne (tgt := 260) hx hb (by omega) dL_law_238 (by decide) (fun _ => ?_) (fun q => ?_)
  · refine lv_goto (tgt := 1411) hx hb dL_law_260 (by decide) ?_
    exact hkk ls (lv_sub hl [2, 3, 4, 5, 6] rfl)
  · refine lv_aload_n hx hb dL_law_241 rfl (lv_at hl 5 rfl) ?_
    refine lv_iconst (v := zi (0)) hx hb dL_law_242 rfl ?_
    refine zz_lald hx hb hK hP 21 3 rfl rfl (0) (by omega) (by omega) (by decide) dL_law_243 ?_
    rw [hz q]
    refine lv_iload hx hb dL_law_244 (lv_at hl 0 rfl) ?_
    have hgo : W p l e room_1 s m #[Value.ref b9] below meth c H1 locs1 (cells + mc) (slots + ms) Q (F0 m 254 ls [.long (zl (bv)), .long (zl (bv))]) := by
      refine zz_lcmp_same (tgt := 260) hx hb dL_law_254 dL_law_255 (by decide) ?_
      refine lv_goto (tgt := 1411) hx hb dL_law_260 (by decide) ?_
      exact hkk ls (lv_sub hl [2, 3, 4, 5, 6] rfl)
    refine zz_if_eq (tgt := 253) hx hb (by omega) dL_law_246 (by decide) (fun q => ?_) (fun q => ?_)
    · refine lv_lconst (v := zl (0)) hx hb dL_law_253 (by decide) ?_
      rw [q] at hgo ⊢
      exact hgo
    · refine lv_lconst (v := zl (1)) hx hb dL_law_249 (by decide) ?_
      refine lv_goto (tgt := 254) hx hb dL_law_250 (by decide) ?_
      rw [show bv = 1 by omega] at hgo ⊢
      exact hgo
set_option maxHeartbeats 4000000 in
set_option maxRecDepth 100000 in
theorem seg_at {x0 pa ba ax ay sp ss vs fr m0 a1 a2 a3 a4 a5 a6 a7 a8 a9 a10 a11 ou : Nat} {cA cQ cZ cL : ClassId} {k bv : Int} (C : LC p s m c b9 L9 scr A (dC, dI) (tysL cA cQ cZ cL)) (hi : i9 + 4 ≤ L9) (hcl : cells + 3 ≤ 600000 ∧ slots + 29 ≤ 7000000) (hk : 0 ≤ k ∧ k ≤ 3) (hl : lv_has ls 8 [(0, .ref b9), (1, .ref x0), (2, .ref m0), (3, .ref ou), (4, .int (zi (i9 : Int)))]) (hP : va_P (dC, dI) vwCl ws H) (hD : va_D A ws) (hS : va_S A s.heap H locs)
    (h : HelpC l (dC, dI) (tysL cA cQ cZ cL) yL_at (Cond.codeWith yL_at cL_at 6 (Option.some Jvm.ClassFile.FieldType.int) [((0 : Nat), (12 : Nat), (15 : Nat), (19 : Nat))]) [.ref x0, .int (zi ((scr (i9 + 1)).toInt)), .int (zi ((scr (i9 + 2)).toInt)), .int (zi ((scr (i9 + 3)).toInt)), .ref ou] k ws (fun ws1 => ModC l (dC, dI) (tysL cA cQ cZ cL) yX3_at (Cond.code yX3_at cX3_at 4 ((Option.some Jvm.ClassFile.FieldType.int))) m0 [.int (zi ((scr (i9 + 1)).toInt)), .int (zi ((scr (i9 + 2)).toInt)), .int (zi ((scr (i9 + 3)).toInt))] (.int (zi (bv))) ws1 (fun ws2 => Fin9 x0 pa ba ax ay sp ss vs fr m0 a1 a2 a3 a4 a5 a6 a7 a8 a9 a10 a11 ou cA cQ cZ cL k ((zi (bv)).toInt) ws2)))
    (kk : ∀ (k : Int) (z : Int) (ws2 : va_W) (H1 : Heap) (locs1 : List Loc) (ls1 : Array Slot), Fin9 x0 pa ba ax ay sp ss vs fr m0 a1 a2 a3 a4 a5 a6 a7 a8 a9 a10 a11 ou cA cQ cZ cL k z ws2 → va_P (dC, dI) vwCl ws2 H1 → va_D A ws2 → va_S A s.heap H1 locs1 → lv_has ls1 8 [(0, .ref b9), (1, .ref x0), (2, .ref m0), (3, .ref ou), (4, .int (zi (i9 : Int)))] → W p l e room_1 s m #[Value.ref b9] below meth c H1 locs1 (cells + 3) (slots + 29) Q (F0 m 1411 ls1 [])) : W p l e room_1 s m #[Value.ref b9] below meth c H locs (cells) (slots) Q (F0 m 263 ls []) := by
  obtain ⟨hx, hb, hml, hown, hg, hX, hbl, hbA, hA, hK, hXA, hL⟩ := C
  obtain ⟨rm, tys, is, wc, wr, F, mc, ms, hM, hty, hp, hrc, hrs, hmc, hms, hfr, hlo, hG⟩ := h
  refine lv_aload_n hx hb dL_law_263 rfl (lv_at hl 1 rfl) ?_
  refine lv_aload_n hx hb dL_law_264 rfl (lv_at hl 0 rfl) ?_
  refine lv_iload hx hb dL_law_265 (lv_at hl 4 rfl) ?_
  refine lv_iconst (v := zi (1)) hx hb dL_law_267 rfl ?_
  refine zz_iadd hx hb dL_law_268 ?_
  refine zz_sld hx hb hX hbl hbA hS (i9 + 1) (by omega) (by omega) (by omega) dL_law_269 ?_
  refine lv_aload_n hx hb dL_law_270 rfl (lv_at hl 0 rfl) ?_
  refine lv_iload hx hb dL_law_271 (lv_at hl 4 rfl) ?_
  refine lv_iconst (v := zi (2)) hx hb dL_law_273 rfl ?_
  refine zz_iadd hx hb dL_law_274 ?_
  refine zz_sld hx hb hX hbl hbA hS (i9 + 2) (by omega) (by omega) (by omega) dL_law_275 ?_
  refine lv_aload_n hx hb dL_law_276 rfl (lv_at hl 0 rfl) ?_
  refine lv_iload hx hb dL_law_277 (lv_at hl 4 rfl) ?_
  refine lv_iconst (v := zi (3)) hx hb dL_law_279 rfl ?_
  refine zz_iadd hx hb dL_law_280 ?_
  refine zz_sld hx hb hX hbl hbA hS (i9 + 3) (by omega) (by omega) (by omega) dL_law_281 ?_
  refine lv_aload_n hx hb dL_law_282 rfl (lv_at hl 3 rfl) ?_
  refine lwS (n := 5) (rest := []) hx hb hml hown hg (hM H.size) wl_L_98 wt_L_at wi_L wc_L_at hrc hrs (by decide +kernel) ⟨by show rm.frames + 1 ≤ 11; omega, by show 8 + (6 + 11) + rm.locals ≤ 424; omega⟩ (hK.sub is hty) (hXA H locs hS) hP hD hS hA hp rfl hl.1 rfl (Nat.le_of_ble_eq_true rfl) dL_law_283 ⟨by show cells + mc ≤ 601024; omega, by show slots + ms ≤ 7293033; omega⟩ (fun w1 H1 locs1 hF hP hD hS => ?_)
  refine lv_istore (lv' := [(5, .int (zi (k))), (0, .ref b9), (1, .ref x0), (2, .ref m0), (3, .ref ou), (4, .int (zi (i9 : Int)))]) hx hb dL_law_286 hl (by decide) rfl (fun ls hl => ?_)
  obtain ⟨rm2, ty2, is2, wc2, wr2, w2, fs2, hM2, hty2, hp2, hrc2, hrs2, hfr2, hlo2, hfst, hm0, hFin⟩ := hG w1 hF
  refine lv_aload_n hx hb dL_law_288 rfl (lv_at hl 3 rfl) ?_
  refine lv_aload_n hx hb dL_law_289 rfl (lv_at hl 1 rfl) ?_
  refine lv_iload hx hb dL_law_290 (lv_at hl 5 rfl) ?_
  refine lv_iconst (v := zi (1)) hx hb dL_law_292 rfl ?_
  refine zz_iadd hx hb dL_law_293 ?_
  refine zz_sld hx hb hX hbl hbA hS (i9 + 1) (by omega) (by omega) (by omega) dL_law_294 ?_
  refine lv_aload_n hx hb dL_law_295 rfl (lv_at hl 1 rfl) ?_
  refine lv_iload hx hb dL_law_296 (lv_at hl 5 rfl) ?_
  refine lv_iconst (v := zi (2)) hx hb dL_law_298 rfl ?_
  refine zz_iadd hx hb dL_law_299 ?_
  refine zz_sld hx hb hX hbl hbA hS (i9 + 2) (by omega) (by omega) (by omega) dL_law_300 ?_
  refine lv_aload_n hx hb dL_law_301 rfl (lv_at hl 1 rfl) ?_
  refine lv_iload hx hb dL_law_302 (lv_at hl 5 rfl) ?_
  refine lv_iconst (v := zi (3)) hx hb dL_law_304 rfl ?_
  refine zz_iadd hx hb dL_law_305 ?_
  refine zz_sld hx hb hX hbl hbA hS (i9 + 3) (by omega) (by omega) (by omega) dL_law_306 ?_
  refine lwV (n := 3) (rest := []) hx hb hml hown hg (hM2 H1.size) (gwV wl_L_100 wm_X3_at we_X3_at wi_X3 wc_X3_at) hrc2 hrs2 (by decide +kernel) ⟨by show rm2.frames + 1 ≤ 11; omega, by show 8 + (4 + 11) + rm2.locals ≤ 424; omega⟩ (hK.sub is2 hty2) hP hD hS hA hp2 hfst 0 hm0 rfl rfl rfl hl.1 rfl (Nat.le_of_ble_eq_true rfl) dL_law_307 ⟨by show cells + mc ≤ 601024; omega, by show slots + ms ≤ 7293033; omega⟩ (fun H1 locs1 hP hD hS => ?_)
  refine lv_istore (lv' := [(6, .int (zi (bv))), (5, .int (zi (k))), (0, .ref b9), (1, .ref x0), (2, .ref m0), (3, .ref ou), (4, .int (zi (i9 : Int)))]) hx hb dL_law_310 hl (by decide) rfl (fun ls hl => ?_)
  have hkk : ∀ ls1 : Array Slot, lv_has ls1 8 [(0, .ref b9), (1, .ref x0), (2, .ref m0), (3, .ref ou), (4, .int (zi (i9 : Int)))] → W p l e room_1 s m #[Value.ref b9] below meth c H1 locs1 (cells + mc) (slots + ms) Q (F0 m 1411 ls1 []) := fun ls1 h1 => W.widen (show cells + mc ≤ cells + 3 by omega) (show slots + ms ≤ slots + 29 by omega) (kk k _ _ H1 locs1 ls1 hFin hP hD hS h1)
  obtain ⟨pool, pn, bn, ln, sn, pf, bs, xs, ys, spf, ssf, vf, sf, hh, rr, cf, wf, of, a, b, ab, be, hInv, hz, hperm⟩ := hFin
  have hP := va_Pp hperm hP
  refine lv_aload_n hx hb dL_law_312 rfl (lv_at hl 4 rfl) ?_
  refine rdV (As := []) (rest := []) (n := 0) hx hb hml hown hg (c_X3_thrown l dC dI m0 a1 a2 a3 a4 a5 a6 a7 a8 a9 a10 a11 k ab be pn bn ln sn) (gwV wl_L_91 wm_X3_thrown we_X3_thrown wi_X3 wc_X3_thrown) rfl rfl (by decide +kernel) ⟨(Nat.le_of_ble_eq_true rfl), (Nat.le_of_ble_eq_true rfl)⟩ (hK.sub [] rfl) (hP.sub [9] rfl) 0 rfl rfl rfl rfl hl.1 rfl (Nat.le_of_ble_eq_true rfl) dL_law_313 ⟨by show cells + mc ≤ 601024; omega, by show slots + ms ≤ 7293033; omega⟩ ?_
  refine lv_iload hx hb dL_law_316 (lv_at hl 1 rfl) ?_
  refine zz_icmp_eq (tgt := 323) hx hb (by omega) (by omega) dL_law_318 (by decide) (fun _ => ?_) (fun q => absurd rfl q)
  refine lv_iload hx hb dL_law_323 (lv_at hl 1 rfl) ?_
  refine zz_if_ne (tgt := 340) hx hb (by omega) dL_law_325 (by decide) (fun _ => ?_) (fun q => ?_)
  · refine lv_goto (tgt := 1411) hx hb dL_law_340 (by decide) ?_
    exact hkk ls (lv_sub hl [2, 3, 4, 5, 6] rfl)
  · refine lv_aload_n hx hb dL_law_328 rfl (lv_at hl 5 rfl) ?_
    refine lv_iconst (v := zi (0)) hx hb dL_law_329 rfl ?_
    refine zz_lald hx hb hK hP 21 3 rfl rfl (0) (by omega) (by omega) (by decide) dL_law_330 ?_
    rw [hz q]
    refine lv_iload hx hb dL_law_331 (lv_at hl 0 rfl) ?_
    refine zz_i2lr hx hb dL_law_333 ?_
    refine zz_lcmp_same (tgt := 340) hx hb dL_law_334 dL_law_335 (by decide) ?_
    refine lv_goto (tgt := 1411) hx hb dL_law_340 (by decide) ?_
    exact hkk ls (lv_sub hl [2, 3, 4, 5, 6] rfl)
set_option maxHeartbeats 4000000 in
set_option maxRecDepth 100000 in
theorem seg_radius {x0 pa ba ax ay sp ss vs fr m0 a1 a2 a3 a4 a5 a6 a7 a8 a9 a10 a11 ou : Nat} {cA cQ cZ cL : ClassId} {k bv : Int} (C : LC p s m c b9 L9 scr A (dC, dI) (tysL cA cQ cZ cL)) (hi : i9 + 4 ≤ L9) (hcl : cells + 3 ≤ 600000 ∧ slots + 29 ≤ 7000000) (hk : 0 ≤ k ∧ k ≤ 3) (hl : lv_has ls 8 [(0, .ref b9), (1, .ref x0), (2, .ref m0), (3, .ref ou), (4, .int (zi (i9 : Int)))]) (hP : va_P (dC, dI) vwCl ws H) (hD : va_D A ws) (hS : va_S A s.heap H locs)
    (h : HelpC l (dC, dI) (tysL cA cQ cZ cL) yL_radius (Cond.codeWith yL_radius cL_radius 5 (Option.some Jvm.ClassFile.FieldType.int) [((0 : Nat), (10 : Nat), (13 : Nat), (19 : Nat))]) [.ref x0, .int (zi ((scr (i9 + 1)).toInt)), .int (zi ((scr (i9 + 2)).toInt)), .ref ou] k ws (fun ws1 => ModC l (dC, dI) (tysL cA cQ cZ cL) yX3_radius (Cond.code yX3_radius cX3_radius 3 ((Option.some Jvm.ClassFile.FieldType.int))) m0 [.int (zi ((scr (i9 + 1)).toInt)), .int (zi ((scr (i9 + 2)).toInt))] (.int (zi (bv))) ws1 (fun ws2 => Fin9 x0 pa ba ax ay sp ss vs fr m0 a1 a2 a3 a4 a5 a6 a7 a8 a9 a10 a11 ou cA cQ cZ cL k ((zi (bv)).toInt) ws2)))
    (kk : ∀ (k : Int) (z : Int) (ws2 : va_W) (H1 : Heap) (locs1 : List Loc) (ls1 : Array Slot), Fin9 x0 pa ba ax ay sp ss vs fr m0 a1 a2 a3 a4 a5 a6 a7 a8 a9 a10 a11 ou cA cQ cZ cL k z ws2 → va_P (dC, dI) vwCl ws2 H1 → va_D A ws2 → va_S A s.heap H1 locs1 → lv_has ls1 8 [(0, .ref b9), (1, .ref x0), (2, .ref m0), (3, .ref ou), (4, .int (zi (i9 : Int)))] → W p l e room_1 s m #[Value.ref b9] below meth c H1 locs1 (cells + 3) (slots + 29) Q (F0 m 1411 ls1 [])) : W p l e room_1 s m #[Value.ref b9] below meth c H locs (cells) (slots) Q (F0 m 343 ls []) := by
  obtain ⟨hx, hb, hml, hown, hg, hX, hbl, hbA, hA, hK, hXA, hL⟩ := C
  obtain ⟨rm, tys, is, wc, wr, F, mc, ms, hM, hty, hp, hrc, hrs, hmc, hms, hfr, hlo, hG⟩ := h
  refine lv_aload_n hx hb dL_law_343 rfl (lv_at hl 1 rfl) ?_
  refine lv_aload_n hx hb dL_law_344 rfl (lv_at hl 0 rfl) ?_
  refine lv_iload hx hb dL_law_345 (lv_at hl 4 rfl) ?_
  refine lv_iconst (v := zi (1)) hx hb dL_law_347 rfl ?_
  refine zz_iadd hx hb dL_law_348 ?_
  refine zz_sld hx hb hX hbl hbA hS (i9 + 1) (by omega) (by omega) (by omega) dL_law_349 ?_
  refine lv_aload_n hx hb dL_law_350 rfl (lv_at hl 0 rfl) ?_
  refine lv_iload hx hb dL_law_351 (lv_at hl 4 rfl) ?_
  refine lv_iconst (v := zi (2)) hx hb dL_law_353 rfl ?_
  refine zz_iadd hx hb dL_law_354 ?_
  refine zz_sld hx hb hX hbl hbA hS (i9 + 2) (by omega) (by omega) (by omega) dL_law_355 ?_
  refine lv_aload_n hx hb dL_law_356 rfl (lv_at hl 3 rfl) ?_
  refine lwS (n := 4) (rest := []) hx hb hml hown hg (hM H.size) wl_L_101 wt_L_radius wi_L wc_L_radius hrc hrs (by decide +kernel) ⟨by show rm.frames + 1 ≤ 11; omega, by show 8 + (5 + 11) + rm.locals ≤ 424; omega⟩ (hK.sub is hty) (hXA H locs hS) hP hD hS hA hp rfl hl.1 rfl (Nat.le_of_ble_eq_true rfl) dL_law_357 ⟨by show cells + mc ≤ 601024; omega, by show slots + ms ≤ 7293033; omega⟩ (fun w1 H1 locs1 hF hP hD hS => ?_)
  refine lv_istore (lv' := [(5, .int (zi (k))), (0, .ref b9), (1, .ref x0), (2, .ref m0), (3, .ref ou), (4, .int (zi (i9 : Int)))]) hx hb dL_law_360 hl (by decide) rfl (fun ls hl => ?_)
  obtain ⟨rm2, ty2, is2, wc2, wr2, w2, fs2, hM2, hty2, hp2, hrc2, hrs2, hfr2, hlo2, hfst, hm0, hFin⟩ := hG w1 hF
  refine lv_aload_n hx hb dL_law_362 rfl (lv_at hl 3 rfl) ?_
  refine lv_aload_n hx hb dL_law_363 rfl (lv_at hl 1 rfl) ?_
  refine lv_iload hx hb dL_law_364 (lv_at hl 5 rfl) ?_
  refine lv_iconst (v := zi (1)) hx hb dL_law_366 rfl ?_
  refine zz_iadd hx hb dL_law_367 ?_
  refine zz_sld hx hb hX hbl hbA hS (i9 + 1) (by omega) (by omega) (by omega) dL_law_368 ?_
  refine lv_aload_n hx hb dL_law_369 rfl (lv_at hl 1 rfl) ?_
  refine lv_iload hx hb dL_law_370 (lv_at hl 5 rfl) ?_
  refine lv_iconst (v := zi (2)) hx hb dL_law_372 rfl ?_
  refine zz_iadd hx hb dL_law_373 ?_
  refine zz_sld hx hb hX hbl hbA hS (i9 + 2) (by omega) (by omega) (by omega) dL_law_374 ?_
  refine lwV (n := 2) (rest := []) hx hb hml hown hg (hM2 H1.size) (gwV wl_L_104 wm_X3_radius we_X3_radius wi_X3 wc_X3_radius) hrc2 hrs2 (by decide +kernel) ⟨by show rm2.frames + 1 ≤ 11; omega, by show 8 + (3 + 11) + rm2.locals ≤ 424; omega⟩ (hK.sub is2 hty2) hP hD hS hA hp2 hfst 0 hm0 rfl rfl rfl hl.1 rfl (Nat.le_of_ble_eq_true rfl) dL_law_375 ⟨by show cells + mc ≤ 601024; omega, by show slots + ms ≤ 7293033; omega⟩ (fun H1 locs1 hP hD hS => ?_)
  refine lv_istore (lv' := [(6, .int (zi (bv))), (5, .int (zi (k))), (0, .ref b9), (1, .ref x0), (2, .ref m0), (3, .ref ou), (4, .int (zi (i9 : Int)))]) hx hb dL_law_378 hl (by decide) rfl (fun ls hl => ?_)
  have hkk : ∀ ls1 : Array Slot, lv_has ls1 8 [(0, .ref b9), (1, .ref x0), (2, .ref m0), (3, .ref ou), (4, .int (zi (i9 : Int)))] → W p l e room_1 s m #[Value.ref b9] below meth c H1 locs1 (cells + mc) (slots + ms) Q (F0 m 1411 ls1 []) := fun ls1 h1 => W.widen (show cells + mc ≤ cells + 3 by omega) (show slots + ms ≤ slots + 29 by omega) (kk k _ _ H1 locs1 ls1 hFin hP hD hS h1)
  obtain ⟨pool, pn, bn, ln, sn, pf, bs, xs, ys, spf, ssf, vf, sf, hh, rr, cf, wf, of, a, b, ab, be, hInv, hz, hperm⟩ := hFin
  have hP := va_Pp hperm hP
  refine lv_aload_n hx hb dL_law_380 rfl (lv_at hl 4 rfl) ?_
  refine rdV (As := []) (rest := []) (n := 0) hx hb hml hown hg (c_X3_thrown l dC dI m0 a1 a2 a3 a4 a5 a6 a7 a8 a9 a10 a11 k ab be pn bn ln sn) (gwV wl_L_91 wm_X3_thrown we_X3_thrown wi_X3 wc_X3_thrown) rfl rfl (by decide +kernel) ⟨(Nat.le_of_ble_eq_true rfl), (Nat.le_of_ble_eq_true rfl)⟩ (hK.sub [] rfl) (hP.sub [9] rfl) 0 rfl rfl rfl rfl hl.1 rfl (Nat.le_of_ble_eq_true rfl) dL_law_381 ⟨by show cells + mc ≤ 601024; omega, by show slots + ms ≤ 7293033; omega⟩ ?_
  refine lv_iload hx hb dL_law_384 (lv_at hl 1 rfl) ?_
  refine zz_icmp_eq (tgt := 391) hx hb (by omega) (by omega) dL_law_386 (by decide) (fun _ => ?_) (fun q => absurd rfl q)
  refine lv_iload hx hb dL_law_391 (lv_at hl 1 rfl) ?_
  refine zz_if_ne (tgt := 408) hx hb (by omega) dL_law_393 (by decide) (fun _ => ?_) (fun q => ?_)
  · refine lv_goto (tgt := 1411) hx hb dL_law_408 (by decide) ?_
    exact hkk ls (lv_sub hl [2, 3, 4, 5, 6] rfl)
  · refine lv_aload_n hx hb dL_law_396 rfl (lv_at hl 5 rfl) ?_
    refine lv_iconst (v := zi (0)) hx hb dL_law_397 rfl ?_
    refine zz_lald hx hb hK hP 21 3 rfl rfl (0) (by omega) (by omega) (by decide) dL_law_398 ?_
    rw [hz q]
    refine lv_iload hx hb dL_law_399 (lv_at hl 0 rfl) ?_
    refine zz_i2lr hx hb dL_law_401 ?_
    refine zz_lcmp_same (tgt := 408) hx hb dL_law_402 dL_law_403 (by decide) ?_
    refine lv_goto (tgt := 1411) hx hb dL_law_408 (by decide) ?_
    exact hkk ls (lv_sub hl [2, 3, 4, 5, 6] rfl)
set_option maxHeartbeats 4000000 in
set_option maxRecDepth 100000 in
theorem seg_volume {x0 pa ba ax ay sp ss vs fr m0 a1 a2 a3 a4 a5 a6 a7 a8 a9 a10 a11 ou : Nat} {cA cQ cZ cL : ClassId} {k bv : Int} (C : LC p s m c b9 L9 scr A (dC, dI) (tysL cA cQ cZ cL)) (hi : i9 + 4 ≤ L9) (hcl : cells + 3 ≤ 600000 ∧ slots + 29 ≤ 7000000) (hk : 0 ≤ k ∧ k ≤ 3) (hl : lv_has ls 8 [(0, .ref b9), (1, .ref x0), (2, .ref m0), (3, .ref ou), (4, .int (zi (i9 : Int)))]) (hP : va_P (dC, dI) vwCl ws H) (hD : va_D A ws) (hS : va_S A s.heap H locs)
    (h : HelpC l (dC, dI) (tysL cA cQ cZ cL) yL_volume (Cond.codeWith yL_volume cL_volume 6 (Option.some Jvm.ClassFile.FieldType.int) [((0 : Nat), (11 : Nat), (14 : Nat), (19 : Nat))]) [.ref x0, .int (zi ((scr (i9 + 1)).toInt)), .int (zi ((scr (i9 + 2)).toInt)), .int (zi ((scr (i9 + 3)).toInt)), .ref ou] k ws (fun ws1 => ModC l (dC, dI) (tysL cA cQ cZ cL) yX3_volume (Cond.code yX3_volume cX3_volume 4 ((Option.some Jvm.ClassFile.FieldType.long))) m0 [.int (zi ((scr (i9 + 1)).toInt)), .int (zi ((scr (i9 + 2)).toInt)), .int (zi ((scr (i9 + 3)).toInt))] (.long (zl (bv))) ws1 (fun ws2 => Fin9 x0 pa ba ax ay sp ss vs fr m0 a1 a2 a3 a4 a5 a6 a7 a8 a9 a10 a11 ou cA cQ cZ cL k (bv) ws2)))
    (kk : ∀ (k : Int) (z : Int) (ws2 : va_W) (H1 : Heap) (locs1 : List Loc) (ls1 : Array Slot), Fin9 x0 pa ba ax ay sp ss vs fr m0 a1 a2 a3 a4 a5 a6 a7 a8 a9 a10 a11 ou cA cQ cZ cL k z ws2 → va_P (dC, dI) vwCl ws2 H1 → va_D A ws2 → va_S A s.heap H1 locs1 → lv_has ls1 8 [(0, .ref b9), (1, .ref x0), (2, .ref m0), (3, .ref ou), (4, .int (zi (i9 : Int)))] → W p l e room_1 s m #[Value.ref b9] below meth c H1 locs1 (cells + 3) (slots + 29) Q (F0 m 1411 ls1 [])) : W p l e room_1 s m #[Value.ref b9] below meth c H locs (cells) (slots) Q (F0 m 411 ls []) := by
  obtain ⟨hx, hb, hml, hown, hg, hX, hbl, hbA, hA, hK, hXA, hL⟩ := C
  obtain ⟨rm, tys, is, wc, wr, F, mc, ms, hM, hty, hp, hrc, hrs, hmc, hms, hfr, hlo, hG⟩ := h
  refine lv_aload_n hx hb dL_law_411 rfl (lv_at hl 1 rfl) ?_
  refine lv_aload_n hx hb dL_law_412 rfl (lv_at hl 0 rfl) ?_
  refine lv_iload hx hb dL_law_413 (lv_at hl 4 rfl) ?_
  refine lv_iconst (v := zi (1)) hx hb dL_law_415 rfl ?_
  refine zz_iadd hx hb dL_law_416 ?_
  refine zz_sld hx hb hX hbl hbA hS (i9 + 1) (by omega) (by omega) (by omega) dL_law_417 ?_
  refine lv_aload_n hx hb dL_law_418 rfl (lv_at hl 0 rfl) ?_
  refine lv_iload hx hb dL_law_419 (lv_at hl 4 rfl) ?_
  refine lv_iconst (v := zi (2)) hx hb dL_law_421 rfl ?_
  refine zz_iadd hx hb dL_law_422 ?_
  refine zz_sld hx hb hX hbl hbA hS (i9 + 2) (by omega) (by omega) (by omega) dL_law_423 ?_
  refine lv_aload_n hx hb dL_law_424 rfl (lv_at hl 0 rfl) ?_
  refine lv_iload hx hb dL_law_425 (lv_at hl 4 rfl) ?_
  refine lv_iconst (v := zi (3)) hx hb dL_law_427 rfl ?_
  refine zz_iadd hx hb dL_law_428 ?_
  refine zz_sld hx hb hX hbl hbA hS (i9 + 3) (by omega) (by omega) (by omega) dL_law_429 ?_
  refine lv_aload_n hx hb dL_law_430 rfl (lv_at hl 3 rfl) ?_
  refine lwS (n := 5) (rest := []) hx hb hml hown hg (hM H.size) wl_L_105 wt_L_volume wi_L wc_L_volume hrc hrs (by decide +kernel) ⟨by show rm.frames + 1 ≤ 11; omega, by show 8 + (6 + 11) + rm.locals ≤ 424; omega⟩ (hK.sub is hty) (hXA H locs hS) hP hD hS hA hp rfl hl.1 rfl (Nat.le_of_ble_eq_true rfl) dL_law_431 ⟨by show cells + mc ≤ 601024; omega, by show slots + ms ≤ 7293033; omega⟩ (fun w1 H1 locs1 hF hP hD hS => ?_)
  refine lv_istore (lv' := [(5, .int (zi (k))), (0, .ref b9), (1, .ref x0), (2, .ref m0), (3, .ref ou), (4, .int (zi (i9 : Int)))]) hx hb dL_law_434 hl (by decide) rfl (fun ls hl => ?_)
  obtain ⟨rm2, ty2, is2, wc2, wr2, w2, fs2, hM2, hty2, hp2, hrc2, hrs2, hfr2, hlo2, hfst, hm0, hFin⟩ := hG w1 hF
  refine lv_aload_n hx hb dL_law_436 rfl (lv_at hl 3 rfl) ?_
  refine lv_aload_n hx hb dL_law_437 rfl (lv_at hl 1 rfl) ?_
  refine lv_iload hx hb dL_law_438 (lv_at hl 5 rfl) ?_
  refine lv_iconst (v := zi (1)) hx hb dL_law_440 rfl ?_
  refine zz_iadd hx hb dL_law_441 ?_
  refine zz_sld hx hb hX hbl hbA hS (i9 + 1) (by omega) (by omega) (by omega) dL_law_442 ?_
  refine lv_aload_n hx hb dL_law_443 rfl (lv_at hl 1 rfl) ?_
  refine lv_iload hx hb dL_law_444 (lv_at hl 5 rfl) ?_
  refine lv_iconst (v := zi (2)) hx hb dL_law_446 rfl ?_
  refine zz_iadd hx hb dL_law_447 ?_
  refine zz_sld hx hb hX hbl hbA hS (i9 + 2) (by omega) (by omega) (by omega) dL_law_448 ?_
  refine lv_aload_n hx hb dL_law_449 rfl (lv_at hl 1 rfl) ?_
  refine lv_iload hx hb dL_law_450 (lv_at hl 5 rfl) ?_
  refine lv_iconst (v := zi (3)) hx hb dL_law_452 rfl ?_
  refine zz_iadd hx hb dL_law_453 ?_
  refine zz_sld hx hb hX hbl hbA hS (i9 + 3) (by omega) (by omega) (by omega) dL_law_454 ?_
  refine lwV (n := 3) (rest := []) hx hb hml hown hg (hM2 H1.size) (gwV wl_L_107 wm_X3_volume we_X3_volume wi_X3 wc_X3_volume) hrc2 hrs2 (by decide +kernel) ⟨by show rm2.frames + 1 ≤ 11; omega, by show 8 + (4 + 11) + rm2.locals ≤ 424; omega⟩ (hK.sub is2 hty2) hP hD hS hA hp2 hfst 0 hm0 rfl rfl rfl hl.1 rfl (Nat.le_of_ble_eq_true rfl) dL_law_455 ⟨by show cells + mc ≤ 601024; omega, by show slots + ms ≤ 7293033; omega⟩ (fun H1 locs1 hP hD hS => ?_)
  refine lv_lstore (lv' := [(6, .long (zl (bv))), (5, .int (zi (k))), (0, .ref b9), (1, .ref x0), (2, .ref m0), (3, .ref ou), (4, .int (zi (i9 : Int)))]) hx hb dL_law_458 hl (by decide) rfl (fun ls hl => ?_)
  have hkk : ∀ ls1 : Array Slot, lv_has ls1 8 [(0, .ref b9), (1, .ref x0), (2, .ref m0), (3, .ref ou), (4, .int (zi (i9 : Int)))] → W p l e room_1 s m #[Value.ref b9] below meth c H1 locs1 (cells + mc) (slots + ms) Q (F0 m 1411 ls1 []) := fun ls1 h1 => W.widen (show cells + mc ≤ cells + 3 by omega) (show slots + ms ≤ slots + 29 by omega) (kk k _ _ H1 locs1 ls1 hFin hP hD hS h1)
  obtain ⟨pool, pn, bn, ln, sn, pf, bs, xs, ys, spf, ssf, vf, sf, hh, rr, cf, wf, of, a, b, ab, be, hInv, hz, hperm⟩ := hFin
  have hP := va_Pp hperm hP
  refine lv_aload_n hx hb dL_law_460 rfl (lv_at hl 4 rfl) ?_
  refine rdV (As := []) (rest := []) (n := 0) hx hb hml hown hg (c_X3_thrown l dC dI m0 a1 a2 a3 a4 a5 a6 a7 a8 a9 a10 a11 k ab be pn bn ln sn) (gwV wl_L_91 wm_X3_thrown we_X3_thrown wi_X3 wc_X3_thrown) rfl rfl (by decide +kernel) ⟨(Nat.le_of_ble_eq_true rfl), (Nat.le_of_ble_eq_true rfl)⟩ (hK.sub [] rfl) (hP.sub [9] rfl) 0 rfl rfl rfl rfl hl.1 rfl (Nat.le_of_ble_eq_true rfl) dL_law_461 ⟨by show cells + mc ≤ 601024; omega, by show slots + ms ≤ 7293033; omega⟩ ?_
  refine lv_iload hx hb dL_law_464 (lv_at hl 1 rfl) ?_
  refine zz_icmp_eq (tgt := 471) hx hb (by omega) (by omega) dL_law_466 (by decide) (fun _ => ?_) (fun q => absurd rfl q)
  refine lv_iload hx hb dL_law_471 (lv_at hl 1 rfl) ?_
  refine zz_if_ne (tgt := 487) hx hb (by omega) dL_law_473 (by decide) (fun _ => ?_) (fun q => ?_)
  · refine lv_goto (tgt := 1411) hx hb dL_law_487 (by decide) ?_
    exact hkk ls (lv_sub hl [2, 3, 4, 5, 6] rfl)
  · refine lv_aload_n hx hb dL_law_476 rfl (lv_at hl 5 rfl) ?_
    refine lv_iconst (v := zi (0)) hx hb dL_law_477 rfl ?_
    refine zz_lald hx hb hK hP 21 3 rfl rfl (0) (by omega) (by omega) (by decide) dL_law_478 ?_
    rw [hz q]
    refine lv_lload hx hb dL_law_479 (lv_at hl 0 rfl) ?_
    refine zz_lcmp_same (tgt := 487) hx hb dL_law_481 dL_law_482 (by decide) ?_
    refine lv_goto (tgt := 1411) hx hb dL_law_487 (by decide) ?_
    exact hkk ls (lv_sub hl [2, 3, 4, 5, 6] rfl)
set_option maxHeartbeats 4000000 in
set_option maxRecDepth 100000 in
theorem seg_holds {x0 pa ba ax ay sp ss vs fr m0 a1 a2 a3 a4 a5 a6 a7 a8 a9 a10 a11 ou : Nat} {cA cQ cZ cL : ClassId} {k bv : Int} (C : LC p s m c b9 L9 scr A (dC, dI) (tysL cA cQ cZ cL)) (hi : i9 + 4 ≤ L9) (hcl : cells + 3 ≤ 600000 ∧ slots + 29 ≤ 7000000) (hk : 0 ≤ k ∧ k ≤ 3) (hl : lv_has ls 8 [(0, .ref b9), (1, .ref x0), (2, .ref m0), (3, .ref ou), (4, .int (zi (i9 : Int)))]) (hP : va_P (dC, dI) vwCl ws H) (hD : va_D A ws) (hS : va_S A s.heap H locs)
    (h : HelpC l (dC, dI) (tysL cA cQ cZ cL) yL_holds (Cond.codeWith yL_holds cL_holds 6 (Option.some Jvm.ClassFile.FieldType.int) [((0 : Nat), (11 : Nat), (14 : Nat), (19 : Nat))]) [.ref x0, .int (zi ((scr (i9 + 1)).toInt)), .int (zi ((scr (i9 + 2)).toInt)), .int (zi ((scr (i9 + 3)).toInt)), .ref ou] k ws (fun ws1 => ModC l (dC, dI) (tysL cA cQ cZ cL) yX3_holds (Cond.code yX3_holds cX3_holds 4 ((Option.some Jvm.ClassFile.FieldType.long))) m0 [.int (zi ((scr (i9 + 1)).toInt)), .int (zi ((scr (i9 + 2)).toInt)), .int (zi ((scr (i9 + 3)).toInt))] (.long (zl (bv))) ws1 (fun ws2 => Fin9 x0 pa ba ax ay sp ss vs fr m0 a1 a2 a3 a4 a5 a6 a7 a8 a9 a10 a11 ou cA cQ cZ cL k (bv) ws2)))
    (kk : ∀ (k : Int) (z : Int) (ws2 : va_W) (H1 : Heap) (locs1 : List Loc) (ls1 : Array Slot), Fin9 x0 pa ba ax ay sp ss vs fr m0 a1 a2 a3 a4 a5 a6 a7 a8 a9 a10 a11 ou cA cQ cZ cL k z ws2 → va_P (dC, dI) vwCl ws2 H1 → va_D A ws2 → va_S A s.heap H1 locs1 → lv_has ls1 8 [(0, .ref b9), (1, .ref x0), (2, .ref m0), (3, .ref ou), (4, .int (zi (i9 : Int)))] → W p l e room_1 s m #[Value.ref b9] below meth c H1 locs1 (cells + 3) (slots + 29) Q (F0 m 1411 ls1 [])) : W p l e room_1 s m #[Value.ref b9] below meth c H locs (cells) (slots) Q (F0 m 490 ls []) := by
  obtain ⟨hx, hb, hml, hown, hg, hX, hbl, hbA, hA, hK, hXA, hL⟩ := C
  obtain ⟨rm, tys, is, wc, wr, F, mc, ms, hM, hty, hp, hrc, hrs, hmc, hms, hfr, hlo, hG⟩ := h
  refine lv_aload_n hx hb dL_law_490 rfl (lv_at hl 1 rfl) ?_
  refine lv_aload_n hx hb dL_law_491 rfl (lv_at hl 0 rfl) ?_
  refine lv_iload hx hb dL_law_492 (lv_at hl 4 rfl) ?_
  refine lv_iconst (v := zi (1)) hx hb dL_law_494 rfl ?_
  refine zz_iadd hx hb dL_law_495 ?_
  refine zz_sld hx hb hX hbl hbA hS (i9 + 1) (by omega) (by omega) (by omega) dL_law_496 ?_
  refine lv_aload_n hx hb dL_law_497 rfl (lv_at hl 0 rfl) ?_
  refine lv_iload hx hb dL_law_498 (lv_at hl 4 rfl) ?_
  refine lv_iconst (v := zi (2)) hx hb dL_law_500 rfl ?_
  refine zz_iadd hx hb dL_law_501 ?_
  refine zz_sld hx hb hX hbl hbA hS (i9 + 2) (by omega) (by omega) (by omega) dL_law_502 ?_
  refine lv_aload_n hx hb dL_law_503 rfl (lv_at hl 0 rfl) ?_
  refine lv_iload hx hb dL_law_504 (lv_at hl 4 rfl) ?_
  refine lv_iconst (v := zi (3)) hx hb dL_law_506 rfl ?_
  refine zz_iadd hx hb dL_law_507 ?_
  refine zz_sld hx hb hX hbl hbA hS (i9 + 3) (by omega) (by omega) (by omega) dL_law_508 ?_
  refine lv_aload_n hx hb dL_law_509 rfl (lv_at hl 3 rfl) ?_
  refine lwS (n := 5) (rest := []) hx hb hml hown hg (hM H.size) wl_L_108 wt_L_holds wi_L wc_L_holds hrc hrs (by decide +kernel) ⟨by show rm.frames + 1 ≤ 11; omega, by show 8 + (6 + 11) + rm.locals ≤ 424; omega⟩ (hK.sub is hty) (hXA H locs hS) hP hD hS hA hp rfl hl.1 rfl (Nat.le_of_ble_eq_true rfl) dL_law_510 ⟨by show cells + mc ≤ 601024; omega, by show slots + ms ≤ 7293033; omega⟩ (fun w1 H1 locs1 hF hP hD hS => ?_)
  refine lv_istore (lv' := [(5, .int (zi (k))), (0, .ref b9), (1, .ref x0), (2, .ref m0), (3, .ref ou), (4, .int (zi (i9 : Int)))]) hx hb dL_law_513 hl (by decide) rfl (fun ls hl => ?_)
  obtain ⟨rm2, ty2, is2, wc2, wr2, w2, fs2, hM2, hty2, hp2, hrc2, hrs2, hfr2, hlo2, hfst, hm0, hFin⟩ := hG w1 hF
  refine lv_aload_n hx hb dL_law_515 rfl (lv_at hl 3 rfl) ?_
  refine lv_aload_n hx hb dL_law_516 rfl (lv_at hl 1 rfl) ?_
  refine lv_iload hx hb dL_law_517 (lv_at hl 5 rfl) ?_
  refine lv_iconst (v := zi (1)) hx hb dL_law_519 rfl ?_
  refine zz_iadd hx hb dL_law_520 ?_
  refine zz_sld hx hb hX hbl hbA hS (i9 + 1) (by omega) (by omega) (by omega) dL_law_521 ?_
  refine lv_aload_n hx hb dL_law_522 rfl (lv_at hl 1 rfl) ?_
  refine lv_iload hx hb dL_law_523 (lv_at hl 5 rfl) ?_
  refine lv_iconst (v := zi (2)) hx hb dL_law_525 rfl ?_
  refine zz_iadd hx hb dL_law_526 ?_
  refine zz_sld hx hb hX hbl hbA hS (i9 + 2) (by omega) (by omega) (by omega) dL_law_527 ?_
  refine lv_aload_n hx hb dL_law_528 rfl (lv_at hl 1 rfl) ?_
  refine lv_iload hx hb dL_law_529 (lv_at hl 5 rfl) ?_
  refine lv_iconst (v := zi (3)) hx hb dL_law_531 rfl ?_
  refine zz_iadd hx hb dL_law_532 ?_
  refine zz_sld hx hb hX hbl hbA hS (i9 + 3) (by omega) (by omega) (by omega) dL_law_533 ?_
  refine lwV (n := 3) (rest := []) hx hb hml hown hg (hM2 H1.size) (gwV wl_L_110 wm_X3_holds we_X3_holds wi_X3 wc_X3_holds) hrc2 hrs2 (by decide +kernel) ⟨by show rm2.frames + 1 ≤ 11; omega, by show 8 + (4 + 11) + rm2.locals ≤ 424; omega⟩ (hK.sub is2 hty2) hP hD hS hA hp2 hfst 0 hm0 rfl rfl rfl hl.1 rfl (Nat.le_of_ble_eq_true rfl) dL_law_534 ⟨by show cells + mc ≤ 601024; omega, by show slots + ms ≤ 7293033; omega⟩ (fun H1 locs1 hP hD hS => ?_)
  refine lv_lstore (lv' := [(6, .long (zl (bv))), (5, .int (zi (k))), (0, .ref b9), (1, .ref x0), (2, .ref m0), (3, .ref ou), (4, .int (zi (i9 : Int)))]) hx hb dL_law_537 hl (by decide) rfl (fun ls hl => ?_)
  have hkk : ∀ ls1 : Array Slot, lv_has ls1 8 [(0, .ref b9), (1, .ref x0), (2, .ref m0), (3, .ref ou), (4, .int (zi (i9 : Int)))] → W p l e room_1 s m #[Value.ref b9] below meth c H1 locs1 (cells + mc) (slots + ms) Q (F0 m 1411 ls1 []) := fun ls1 h1 => W.widen (show cells + mc ≤ cells + 3 by omega) (show slots + ms ≤ slots + 29 by omega) (kk k _ _ H1 locs1 ls1 hFin hP hD hS h1)
  obtain ⟨pool, pn, bn, ln, sn, pf, bs, xs, ys, spf, ssf, vf, sf, hh, rr, cf, wf, of, a, b, ab, be, hInv, hz, hperm⟩ := hFin
  have hP := va_Pp hperm hP
  refine lv_aload_n hx hb dL_law_539 rfl (lv_at hl 4 rfl) ?_
  refine rdV (As := []) (rest := []) (n := 0) hx hb hml hown hg (c_X3_thrown l dC dI m0 a1 a2 a3 a4 a5 a6 a7 a8 a9 a10 a11 k ab be pn bn ln sn) (gwV wl_L_91 wm_X3_thrown we_X3_thrown wi_X3 wc_X3_thrown) rfl rfl (by decide +kernel) ⟨(Nat.le_of_ble_eq_true rfl), (Nat.le_of_ble_eq_true rfl)⟩ (hK.sub [] rfl) (hP.sub [9] rfl) 0 rfl rfl rfl rfl hl.1 rfl (Nat.le_of_ble_eq_true rfl) dL_law_540 ⟨by show cells + mc ≤ 601024; omega, by show slots + ms ≤ 7293033; omega⟩ ?_
  refine lv_iload hx hb dL_law_543 (lv_at hl 1 rfl) ?_
  refine zz_icmp_eq (tgt := 550) hx hb (by omega) (by omega) dL_law_545 (by decide) (fun _ => ?_) (fun q => absurd rfl q)
  refine lv_iload hx hb dL_law_550 (lv_at hl 1 rfl) ?_
  refine zz_if_ne (tgt := 566) hx hb (by omega) dL_law_552 (by decide) (fun _ => ?_) (fun q => ?_)
  · refine lv_goto (tgt := 1411) hx hb dL_law_566 (by decide) ?_
    exact hkk ls (lv_sub hl [2, 3, 4, 5, 6] rfl)
  · refine lv_aload_n hx hb dL_law_555 rfl (lv_at hl 5 rfl) ?_
    refine lv_iconst (v := zi (0)) hx hb dL_law_556 rfl ?_
    refine zz_lald hx hb hK hP 21 3 rfl rfl (0) (by omega) (by omega) (by decide) dL_law_557 ?_
    rw [hz q]
    refine lv_lload hx hb dL_law_558 (lv_at hl 0 rfl) ?_
    refine zz_lcmp_same (tgt := 566) hx hb dL_law_560 dL_law_561 (by decide) ?_
    refine lv_goto (tgt := 1411) hx hb dL_law_566 (by decide) ?_
    exact hkk ls (lv_sub hl [2, 3, 4, 5, 6] rfl)
set_option maxHeartbeats 4000000 in
set_option maxRecDepth 100000 in
theorem seg_enclosed {x0 pa ba ax ay sp ss vs fr m0 a1 a2 a3 a4 a5 a6 a7 a8 a9 a10 a11 ou : Nat} {cA cQ cZ cL : ClassId} {k bv : Int} (C : LC p s m c b9 L9 scr A (dC, dI) (tysL cA cQ cZ cL)) (hi : i9 + 4 ≤ L9) (hcl : cells + 3 ≤ 600000 ∧ slots + 29 ≤ 7000000) (hk : 0 ≤ k ∧ k ≤ 3) (hl : lv_has ls 8 [(0, .ref b9), (1, .ref x0), (2, .ref m0), (3, .ref ou), (4, .int (zi (i9 : Int)))]) (hP : va_P (dC, dI) vwCl ws H) (hD : va_D A ws) (hS : va_S A s.heap H locs)
    (h : HelpC l (dC, dI) (tysL cA cQ cZ cL) yL_enclosed (Cond.codeWith yL_enclosed cL_enclosed 5 (Option.some Jvm.ClassFile.FieldType.int) [((0 : Nat), (9 : Nat), (12 : Nat), (19 : Nat))]) [.ref x0, .int (zi ((scr (i9 + 1)).toInt)), .int (zi ((scr (i9 + 2)).toInt)), .ref ou] k ws (fun ws1 => ModC l (dC, dI) (tysL cA cQ cZ cL) yX3_enclosed (Cond.code yX3_enclosed cX3_enclosed 3 ((Option.some Jvm.ClassFile.FieldType.long))) m0 [.int (zi ((scr (i9 + 1)).toInt)), .int (zi ((scr (i9 + 2)).toInt))] (.long (zl (bv))) ws1 (fun ws2 => Fin9 x0 pa ba ax ay sp ss vs fr m0 a1 a2 a3 a4 a5 a6 a7 a8 a9 a10 a11 ou cA cQ cZ cL k (bv) ws2)))
    (kk : ∀ (k : Int) (z : Int) (ws2 : va_W) (H1 : Heap) (locs1 : List Loc) (ls1 : Array Slot), Fin9 x0 pa ba ax ay sp ss vs fr m0 a1 a2 a3 a4 a5 a6 a7 a8 a9 a10 a11 ou cA cQ cZ cL k z ws2 → va_P (dC, dI) vwCl ws2 H1 → va_D A ws2 → va_S A s.heap H1 locs1 → lv_has ls1 8 [(0, .ref b9), (1, .ref x0), (2, .ref m0), (3, .ref ou), (4, .int (zi (i9 : Int)))] → W p l e room_1 s m #[Value.ref b9] below meth c H1 locs1 (cells + 3) (slots + 29) Q (F0 m 1411 ls1 [])) : W p l e room_1 s m #[Value.ref b9] below meth c H locs (cells) (slots) Q (F0 m 569 ls []) := by
  obtain ⟨hx, hb, hml, hown, hg, hX, hbl, hbA, hA, hK, hXA, hL⟩ := C
  obtain ⟨rm, tys, is, wc, wr, F, mc, ms, hM, hty, hp, hrc, hrs, hmc, hms, hfr, hlo, hG⟩ := h
  refine lv_aload_n hx hb dL_law_569 rfl (lv_at hl 1 rfl) ?_
  refine lv_aload_n hx hb dL_law_570 rfl (lv_at hl 0 rfl) ?_
  refine lv_iload hx hb dL_law_571 (lv_at hl 4 rfl) ?_
  refine lv_iconst (v := zi (1)) hx hb dL_law_573 rfl ?_
  refine zz_iadd hx hb dL_law_574 ?_
  refine zz_sld hx hb hX hbl hbA hS (i9 + 1) (by omega) (by omega) (by omega) dL_law_575 ?_
  refine lv_aload_n hx hb dL_law_576 rfl (lv_at hl 0 rfl) ?_
  refine lv_iload hx hb dL_law_577 (lv_at hl 4 rfl) ?_
  refine lv_iconst (v := zi (2)) hx hb dL_law_579 rfl ?_
  refine zz_iadd hx hb dL_law_580 ?_
  refine zz_sld hx hb hX hbl hbA hS (i9 + 2) (by omega) (by omega) (by omega) dL_law_581 ?_
  refine lv_aload_n hx hb dL_law_582 rfl (lv_at hl 3 rfl) ?_
  refine lwS (n := 4) (rest := []) hx hb hml hown hg (hM H.size) wl_L_111 wt_L_enclosed wi_L wc_L_enclosed hrc hrs (by decide +kernel) ⟨by show rm.frames + 1 ≤ 11; omega, by show 8 + (5 + 11) + rm.locals ≤ 424; omega⟩ (hK.sub is hty) (hXA H locs hS) hP hD hS hA hp rfl hl.1 rfl (Nat.le_of_ble_eq_true rfl) dL_law_583 ⟨by show cells + mc ≤ 601024; omega, by show slots + ms ≤ 7293033; omega⟩ (fun w1 H1 locs1 hF hP hD hS => ?_)
  refine lv_istore (lv' := [(5, .int (zi (k))), (0, .ref b9), (1, .ref x0), (2, .ref m0), (3, .ref ou), (4, .int (zi (i9 : Int)))]) hx hb dL_law_586 hl (by decide) rfl (fun ls hl => ?_)
  obtain ⟨rm2, ty2, is2, wc2, wr2, w2, fs2, hM2, hty2, hp2, hrc2, hrs2, hfr2, hlo2, hfst, hm0, hFin⟩ := hG w1 hF
  refine lv_aload_n hx hb dL_law_588 rfl (lv_at hl 3 rfl) ?_
  refine lv_aload_n hx hb dL_law_589 rfl (lv_at hl 1 rfl) ?_
  refine lv_iload hx hb dL_law_590 (lv_at hl 5 rfl) ?_
  refine lv_iconst (v := zi (1)) hx hb dL_law_592 rfl ?_
  refine zz_iadd hx hb dL_law_593 ?_
  refine zz_sld hx hb hX hbl hbA hS (i9 + 1) (by omega) (by omega) (by omega) dL_law_594 ?_
  refine lv_aload_n hx hb dL_law_595 rfl (lv_at hl 1 rfl) ?_
  refine lv_iload hx hb dL_law_596 (lv_at hl 5 rfl) ?_
  refine lv_iconst (v := zi (2)) hx hb dL_law_598 rfl ?_
  refine zz_iadd hx hb dL_law_599 ?_
  refine zz_sld hx hb hX hbl hbA hS (i9 + 2) (by omega) (by omega) (by omega) dL_law_600 ?_
  refine lwV (n := 2) (rest := []) hx hb hml hown hg (hM2 H1.size) (gwV wl_L_113 wm_X3_enclosed we_X3_enclosed wi_X3 wc_X3_enclosed) hrc2 hrs2 (by decide +kernel) ⟨by show rm2.frames + 1 ≤ 11; omega, by show 8 + (3 + 11) + rm2.locals ≤ 424; omega⟩ (hK.sub is2 hty2) hP hD hS hA hp2 hfst 0 hm0 rfl rfl rfl hl.1 rfl (Nat.le_of_ble_eq_true rfl) dL_law_601 ⟨by show cells + mc ≤ 601024; omega, by show slots + ms ≤ 7293033; omega⟩ (fun H1 locs1 hP hD hS => ?_)
  refine lv_lstore (lv' := [(6, .long (zl (bv))), (5, .int (zi (k))), (0, .ref b9), (1, .ref x0), (2, .ref m0), (3, .ref ou), (4, .int (zi (i9 : Int)))]) hx hb dL_law_604 hl (by decide) rfl (fun ls hl => ?_)
  have hkk : ∀ ls1 : Array Slot, lv_has ls1 8 [(0, .ref b9), (1, .ref x0), (2, .ref m0), (3, .ref ou), (4, .int (zi (i9 : Int)))] → W p l e room_1 s m #[Value.ref b9] below meth c H1 locs1 (cells + mc) (slots + ms) Q (F0 m 1411 ls1 []) := fun ls1 h1 => W.widen (show cells + mc ≤ cells + 3 by omega) (show slots + ms ≤ slots + 29 by omega) (kk k _ _ H1 locs1 ls1 hFin hP hD hS h1)
  obtain ⟨pool, pn, bn, ln, sn, pf, bs, xs, ys, spf, ssf, vf, sf, hh, rr, cf, wf, of, a, b, ab, be, hInv, hz, hperm⟩ := hFin
  have hP := va_Pp hperm hP
  refine lv_aload_n hx hb dL_law_606 rfl (lv_at hl 4 rfl) ?_
  refine rdV (As := []) (rest := []) (n := 0) hx hb hml hown hg (c_X3_thrown l dC dI m0 a1 a2 a3 a4 a5 a6 a7 a8 a9 a10 a11 k ab be pn bn ln sn) (gwV wl_L_91 wm_X3_thrown we_X3_thrown wi_X3 wc_X3_thrown) rfl rfl (by decide +kernel) ⟨(Nat.le_of_ble_eq_true rfl), (Nat.le_of_ble_eq_true rfl)⟩ (hK.sub [] rfl) (hP.sub [9] rfl) 0 rfl rfl rfl rfl hl.1 rfl (Nat.le_of_ble_eq_true rfl) dL_law_607 ⟨by show cells + mc ≤ 601024; omega, by show slots + ms ≤ 7293033; omega⟩ ?_
  refine lv_iload hx hb dL_law_610 (lv_at hl 1 rfl) ?_
  refine zz_icmp_eq (tgt := 617) hx hb (by omega) (by omega) dL_law_612 (by decide) (fun _ => ?_) (fun q => absurd rfl q)
  refine lv_iload hx hb dL_law_617 (lv_at hl 1 rfl) ?_
  refine zz_if_ne (tgt := 633) hx hb (by omega) dL_law_619 (by decide) (fun _ => ?_) (fun q => ?_)
  · refine lv_goto (tgt := 1411) hx hb dL_law_633 (by decide) ?_
    exact hkk ls (lv_sub hl [2, 3, 4, 5, 6] rfl)
  · refine lv_aload_n hx hb dL_law_622 rfl (lv_at hl 5 rfl) ?_
    refine lv_iconst (v := zi (0)) hx hb dL_law_623 rfl ?_
    refine zz_lald hx hb hK hP 21 3 rfl rfl (0) (by omega) (by omega) (by decide) dL_law_624 ?_
    rw [hz q]
    refine lv_lload hx hb dL_law_625 (lv_at hl 0 rfl) ?_
    refine zz_lcmp_same (tgt := 633) hx hb dL_law_627 dL_law_628 (by decide) ?_
    refine lv_goto (tgt := 1411) hx hb dL_law_633 (by decide) ?_
    exact hkk ls (lv_sub hl [2, 3, 4, 5, 6] rfl)
set_option maxHeartbeats 4000000 in
set_option maxRecDepth 100000 in
theorem seg_wall {x0 pa ba ax ay sp ss vs fr m0 a1 a2 a3 a4 a5 a6 a7 a8 a9 a10 a11 ou : Nat} {cA cQ cZ cL : ClassId} {k bv : Int} (C : LC p s m c b9 L9 scr A (dC, dI) (tysL cA cQ cZ cL)) (hi : i9 + 4 ≤ L9) (hcl : cells + 3 ≤ 600000 ∧ slots + 29 ≤ 7000000) (hk : 0 ≤ k ∧ k ≤ 3) (hl : lv_has ls 8 [(0, .ref b9), (1, .ref x0), (2, .ref m0), (3, .ref ou), (4, .int (zi (i9 : Int)))]) (hP : va_P (dC, dI) vwCl ws H) (hD : va_D A ws) (hS : va_S A s.heap H locs)
    (h : HelpC l (dC, dI) (tysL cA cQ cZ cL) yL_wall (Cond.codeWith yL_wall cL_wall 5 (Option.some Jvm.ClassFile.FieldType.int) [((0 : Nat), (10 : Nat), (13 : Nat), (19 : Nat)), ((0 : Nat), (10 : Nat), (17 : Nat), (21 : Nat))]) [.ref x0, .int (zi ((scr (i9 + 1)).toInt)), .int (zi ((scr (i9 + 2)).toInt)), .ref ou] k ws (fun ws1 => ModC l (dC, dI) (tysL cA cQ cZ cL) yX3_wall (Cond.code yX3_wall cX3_wall 4 ((Option.some Jvm.ClassFile.FieldType.int))) m0 [.int (zi ((scr (i9 + 1)).toInt)), .int (zi ((scr (i9 + 2)).toInt))] (.int (zi (bv))) ws1 (fun ws2 => Fin9 x0 pa ba ax ay sp ss vs fr m0 a1 a2 a3 a4 a5 a6 a7 a8 a9 a10 a11 ou cA cQ cZ cL k ((zi (bv)).toInt) ws2)))
    (kk : ∀ (k : Int) (z : Int) (ws2 : va_W) (H1 : Heap) (locs1 : List Loc) (ls1 : Array Slot), Fin9 x0 pa ba ax ay sp ss vs fr m0 a1 a2 a3 a4 a5 a6 a7 a8 a9 a10 a11 ou cA cQ cZ cL k z ws2 → va_P (dC, dI) vwCl ws2 H1 → va_D A ws2 → va_S A s.heap H1 locs1 → lv_has ls1 8 [(0, .ref b9), (1, .ref x0), (2, .ref m0), (3, .ref ou), (4, .int (zi (i9 : Int)))] → W p l e room_1 s m #[Value.ref b9] below meth c H1 locs1 (cells + 3) (slots + 29) Q (F0 m 1411 ls1 [])) : W p l e room_1 s m #[Value.ref b9] below meth c H locs (cells) (slots) Q (F0 m 636 ls []) := by
  obtain ⟨hx, hb, hml, hown, hg, hX, hbl, hbA, hA, hK, hXA, hL⟩ := C
  obtain ⟨rm, tys, is, wc, wr, F, mc, ms, hM, hty, hp, hrc, hrs, hmc, hms, hfr, hlo, hG⟩ := h
  refine lv_aload_n hx hb dL_law_636 rfl (lv_at hl 1 rfl) ?_
  refine lv_aload_n hx hb dL_law_637 rfl (lv_at hl 0 rfl) ?_
  refine lv_iload hx hb dL_law_638 (lv_at hl 4 rfl) ?_
  refine lv_iconst (v := zi (1)) hx hb dL_law_640 rfl ?_
  refine zz_iadd hx hb dL_law_641 ?_
  refine zz_sld hx hb hX hbl hbA hS (i9 + 1) (by omega) (by omega) (by omega) dL_law_642 ?_
  refine lv_aload_n hx hb dL_law_643 rfl (lv_at hl 0 rfl) ?_
  refine lv_iload hx hb dL_law_644 (lv_at hl 4 rfl) ?_
  refine lv_iconst (v := zi (2)) hx hb dL_law_646 rfl ?_
  refine zz_iadd hx hb dL_law_647 ?_
  refine zz_sld hx hb hX hbl hbA hS (i9 + 2) (by omega) (by omega) (by omega) dL_law_648 ?_
  refine lv_aload_n hx hb dL_law_649 rfl (lv_at hl 3 rfl) ?_
  refine lwS (n := 4) (rest := []) hx hb hml hown hg (hM H.size) wl_L_114 wt_L_wall wi_L wc_L_wall hrc hrs (by decide +kernel) ⟨by show rm.frames + 1 ≤ 11; omega, by show 8 + (5 + 11) + rm.locals ≤ 424; omega⟩ (hK.sub is hty) (hXA H locs hS) hP hD hS hA hp rfl hl.1 rfl (Nat.le_of_ble_eq_true rfl) dL_law_650 ⟨by show cells + mc ≤ 601024; omega, by show slots + ms ≤ 7293033; omega⟩ (fun w1 H1 locs1 hF hP hD hS => ?_)
  refine lv_istore (lv' := [(5, .int (zi (k))), (0, .ref b9), (1, .ref x0), (2, .ref m0), (3, .ref ou), (4, .int (zi (i9 : Int)))]) hx hb dL_law_653 hl (by decide) rfl (fun ls hl => ?_)
  obtain ⟨rm2, ty2, is2, wc2, wr2, w2, fs2, hM2, hty2, hp2, hrc2, hrs2, hfr2, hlo2, hfst, hm0, hFin⟩ := hG w1 hF
  refine lv_aload_n hx hb dL_law_655 rfl (lv_at hl 3 rfl) ?_
  refine lv_aload_n hx hb dL_law_656 rfl (lv_at hl 1 rfl) ?_
  refine lv_iload hx hb dL_law_657 (lv_at hl 5 rfl) ?_
  refine lv_iconst (v := zi (1)) hx hb dL_law_659 rfl ?_
  refine zz_iadd hx hb dL_law_660 ?_
  refine zz_sld hx hb hX hbl hbA hS (i9 + 1) (by omega) (by omega) (by omega) dL_law_661 ?_
  refine lv_aload_n hx hb dL_law_662 rfl (lv_at hl 1 rfl) ?_
  refine lv_iload hx hb dL_law_663 (lv_at hl 5 rfl) ?_
  refine lv_iconst (v := zi (2)) hx hb dL_law_665 rfl ?_
  refine zz_iadd hx hb dL_law_666 ?_
  refine zz_sld hx hb hX hbl hbA hS (i9 + 2) (by omega) (by omega) (by omega) dL_law_667 ?_
  refine lwV (n := 2) (rest := []) hx hb hml hown hg (hM2 H1.size) (gwV wl_L_116 wm_X3_wall we_X3_wall wi_X3 wc_X3_wall) hrc2 hrs2 (by decide +kernel) ⟨by show rm2.frames + 1 ≤ 11; omega, by show 8 + (4 + 11) + rm2.locals ≤ 424; omega⟩ (hK.sub is2 hty2) hP hD hS hA hp2 hfst 0 hm0 rfl rfl rfl hl.1 rfl (Nat.le_of_ble_eq_true rfl) dL_law_668 ⟨by show cells + mc ≤ 601024; omega, by show slots + ms ≤ 7293033; omega⟩ (fun H1 locs1 hP hD hS => ?_)
  refine lv_istore (lv' := [(6, .int (zi (bv))), (5, .int (zi (k))), (0, .ref b9), (1, .ref x0), (2, .ref m0), (3, .ref ou), (4, .int (zi (i9 : Int)))]) hx hb dL_law_671 hl (by decide) rfl (fun ls hl => ?_)
  have hkk : ∀ ls1 : Array Slot, lv_has ls1 8 [(0, .ref b9), (1, .ref x0), (2, .ref m0), (3, .ref ou), (4, .int (zi (i9 : Int)))] → W p l e room_1 s m #[Value.ref b9] below meth c H1 locs1 (cells + mc) (slots + ms) Q (F0 m 1411 ls1 []) := fun ls1 h1 => W.widen (show cells + mc ≤ cells + 3 by omega) (show slots + ms ≤ slots + 29 by omega) (kk k _ _ H1 locs1 ls1 hFin hP hD hS h1)
  obtain ⟨pool, pn, bn, ln, sn, pf, bs, xs, ys, spf, ssf, vf, sf, hh, rr, cf, wf, of, a, b, ab, be, hInv, hz, hperm⟩ := hFin
  have hP := va_Pp hperm hP
  refine lv_aload_n hx hb dL_law_673 rfl (lv_at hl 4 rfl) ?_
  refine rdV (As := []) (rest := []) (n := 0) hx hb hml hown hg (c_X3_thrown l dC dI m0 a1 a2 a3 a4 a5 a6 a7 a8 a9 a10 a11 k ab be pn bn ln sn) (gwV wl_L_91 wm_X3_thrown we_X3_thrown wi_X3 wc_X3_thrown) rfl rfl (by decide +kernel) ⟨(Nat.le_of_ble_eq_true rfl), (Nat.le_of_ble_eq_true rfl)⟩ (hK.sub [] rfl) (hP.sub [9] rfl) 0 rfl rfl rfl rfl hl.1 rfl (Nat.le_of_ble_eq_true rfl) dL_law_674 ⟨by show cells + mc ≤ 601024; omega, by show slots + ms ≤ 7293033; omega⟩ ?_
  refine lv_iload hx hb dL_law_677 (lv_at hl 1 rfl) ?_
  refine zz_icmp_eq (tgt := 684) hx hb (by omega) (by omega) dL_law_679 (by decide) (fun _ => ?_) (fun q => absurd rfl q)
  refine lv_iload hx hb dL_law_684 (lv_at hl 1 rfl) ?_
  refine zz_if_ne (tgt := 701) hx hb (by omega) dL_law_686 (by decide) (fun _ => ?_) (fun q => ?_)
  · refine lv_goto (tgt := 1411) hx hb dL_law_701 (by decide) ?_
    exact hkk ls (lv_sub hl [2, 3, 4, 5, 6] rfl)
  · refine lv_aload_n hx hb dL_law_689 rfl (lv_at hl 5 rfl) ?_
    refine lv_iconst (v := zi (0)) hx hb dL_law_690 rfl ?_
    refine zz_lald hx hb hK hP 21 3 rfl rfl (0) (by omega) (by omega) (by decide) dL_law_691 ?_
    rw [hz q]
    refine lv_iload hx hb dL_law_692 (lv_at hl 0 rfl) ?_
    refine zz_i2lr hx hb dL_law_694 ?_
    refine zz_lcmp_same (tgt := 701) hx hb dL_law_695 dL_law_696 (by decide) ?_
    refine lv_goto (tgt := 1411) hx hb dL_law_701 (by decide) ?_
    exact hkk ls (lv_sub hl [2, 3, 4, 5, 6] rfl)
set_option maxHeartbeats 4000000 in
set_option maxRecDepth 100000 in
theorem seg_unlike {x0 pa ba ax ay sp ss vs fr m0 a1 a2 a3 a4 a5 a6 a7 a8 a9 a10 a11 ou : Nat} {cA cQ cZ cL : ClassId} {k bv : Int} (C : LC p s m c b9 L9 scr A (dC, dI) (tysL cA cQ cZ cL)) (hi : i9 + 4 ≤ L9) (hcl : cells + 3 ≤ 600000 ∧ slots + 29 ≤ 7000000) (hk : 0 ≤ k ∧ k ≤ 3) (hl : lv_has ls 8 [(0, .ref b9), (1, .ref x0), (2, .ref m0), (3, .ref ou), (4, .int (zi (i9 : Int)))]) (hP : va_P (dC, dI) vwCl ws H) (hD : va_D A ws) (hS : va_S A s.heap H locs)
    (h : HelpC l (dC, dI) (tysL cA cQ cZ cL) yL_unlike (Cond.codeWith yL_unlike cL_unlike 5 (Option.some Jvm.ClassFile.FieldType.int) [((0 : Nat), (10 : Nat), (13 : Nat), (19 : Nat))]) [.ref x0, .int (zi ((scr (i9 + 1)).toInt)), .int (zi ((scr (i9 + 2)).toInt)), .ref ou] k ws (fun ws1 => ModC l (dC, dI) (tysL cA cQ cZ cL) yX3_unlike (Cond.code yX3_unlike cX3_unlike 8 ((Option.some Jvm.ClassFile.FieldType.int))) m0 [.int (zi ((scr (i9 + 1)).toInt)), .int (zi ((scr (i9 + 2)).toInt))] (.int (zi (bv))) ws1 (fun ws2 => Fin9 x0 pa ba ax ay sp ss vs fr m0 a1 a2 a3 a4 a5 a6 a7 a8 a9 a10 a11 ou cA cQ cZ cL k ((zi (bv)).toInt) ws2)))
    (kk : ∀ (k : Int) (z : Int) (ws2 : va_W) (H1 : Heap) (locs1 : List Loc) (ls1 : Array Slot), Fin9 x0 pa ba ax ay sp ss vs fr m0 a1 a2 a3 a4 a5 a6 a7 a8 a9 a10 a11 ou cA cQ cZ cL k z ws2 → va_P (dC, dI) vwCl ws2 H1 → va_D A ws2 → va_S A s.heap H1 locs1 → lv_has ls1 8 [(0, .ref b9), (1, .ref x0), (2, .ref m0), (3, .ref ou), (4, .int (zi (i9 : Int)))] → W p l e room_1 s m #[Value.ref b9] below meth c H1 locs1 (cells + 3) (slots + 29) Q (F0 m 1411 ls1 [])) : W p l e room_1 s m #[Value.ref b9] below meth c H locs (cells) (slots) Q (F0 m 704 ls []) := by
  obtain ⟨hx, hb, hml, hown, hg, hX, hbl, hbA, hA, hK, hXA, hL⟩ := C
  obtain ⟨rm, tys, is, wc, wr, F, mc, ms, hM, hty, hp, hrc, hrs, hmc, hms, hfr, hlo, hG⟩ := h
  refine lv_aload_n hx hb dL_law_704 rfl (lv_at hl 1 rfl) ?_
  refine lv_aload_n hx hb dL_law_705 rfl (lv_at hl 0 rfl) ?_
  refine lv_iload hx hb dL_law_706 (lv_at hl 4 rfl) ?_
  refine lv_iconst (v := zi (1)) hx hb dL_law_708 rfl ?_
  refine zz_iadd hx hb dL_law_709 ?_
  refine zz_sld hx hb hX hbl hbA hS (i9 + 1) (by omega) (by omega) (by omega) dL_law_710 ?_
  refine lv_aload_n hx hb dL_law_711 rfl (lv_at hl 0 rfl) ?_
  refine lv_iload hx hb dL_law_712 (lv_at hl 4 rfl) ?_
  refine lv_iconst (v := zi (2)) hx hb dL_law_714 rfl ?_
  refine zz_iadd hx hb dL_law_715 ?_
  refine zz_sld hx hb hX hbl hbA hS (i9 + 2) (by omega) (by omega) (by omega) dL_law_716 ?_
  refine lv_aload_n hx hb dL_law_717 rfl (lv_at hl 3 rfl) ?_
  refine lwS (n := 4) (rest := []) hx hb hml hown hg (hM H.size) wl_L_117 wt_L_unlike wi_L wc_L_unlike hrc hrs (by decide +kernel) ⟨by show rm.frames + 1 ≤ 11; omega, by show 8 + (5 + 11) + rm.locals ≤ 424; omega⟩ (hK.sub is hty) (hXA H locs hS) hP hD hS hA hp rfl hl.1 rfl (Nat.le_of_ble_eq_true rfl) dL_law_718 ⟨by show cells + mc ≤ 601024; omega, by show slots + ms ≤ 7293033; omega⟩ (fun w1 H1 locs1 hF hP hD hS => ?_)
  refine lv_istore (lv' := [(5, .int (zi (k))), (0, .ref b9), (1, .ref x0), (2, .ref m0), (3, .ref ou), (4, .int (zi (i9 : Int)))]) hx hb dL_law_721 hl (by decide) rfl (fun ls hl => ?_)
  obtain ⟨rm2, ty2, is2, wc2, wr2, w2, fs2, hM2, hty2, hp2, hrc2, hrs2, hfr2, hlo2, hfst, hm0, hFin⟩ := hG w1 hF
  refine lv_aload_n hx hb dL_law_723 rfl (lv_at hl 3 rfl) ?_
  refine lv_aload_n hx hb dL_law_724 rfl (lv_at hl 1 rfl) ?_
  refine lv_iload hx hb dL_law_725 (lv_at hl 5 rfl) ?_
  refine lv_iconst (v := zi (1)) hx hb dL_law_727 rfl ?_
  refine zz_iadd hx hb dL_law_728 ?_
  refine zz_sld hx hb hX hbl hbA hS (i9 + 1) (by omega) (by omega) (by omega) dL_law_729 ?_
  refine lv_aload_n hx hb dL_law_730 rfl (lv_at hl 1 rfl) ?_
  refine lv_iload hx hb dL_law_731 (lv_at hl 5 rfl) ?_
  refine lv_iconst (v := zi (2)) hx hb dL_law_733 rfl ?_
  refine zz_iadd hx hb dL_law_734 ?_
  refine zz_sld hx hb hX hbl hbA hS (i9 + 2) (by omega) (by omega) (by omega) dL_law_735 ?_
  refine lwV (n := 2) (rest := []) hx hb hml hown hg (hM2 H1.size) (gwV wl_L_119 wm_X3_unlike we_X3_unlike wi_X3 wc_X3_unlike) hrc2 hrs2 (by decide +kernel) ⟨by show rm2.frames + 1 ≤ 11; omega, by show 8 + (8 + 11) + rm2.locals ≤ 424; omega⟩ (hK.sub is2 hty2) hP hD hS hA hp2 hfst 0 hm0 rfl rfl rfl hl.1 rfl (Nat.le_of_ble_eq_true rfl) dL_law_736 ⟨by show cells + mc ≤ 601024; omega, by show slots + ms ≤ 7293033; omega⟩ (fun H1 locs1 hP hD hS => ?_)
  refine lv_istore (lv' := [(6, .int (zi (bv))), (5, .int (zi (k))), (0, .ref b9), (1, .ref x0), (2, .ref m0), (3, .ref ou), (4, .int (zi (i9 : Int)))]) hx hb dL_law_739 hl (by decide) rfl (fun ls hl => ?_)
  have hkk : ∀ ls1 : Array Slot, lv_has ls1 8 [(0, .ref b9), (1, .ref x0), (2, .ref m0), (3, .ref ou), (4, .int (zi (i9 : Int)))] → W p l e room_1 s m #[Value.ref b9] below meth c H1 locs1 (cells + mc) (slots + ms) Q (F0 m 1411 ls1 []) := fun ls1 h1 => W.widen (show cells + mc ≤ cells + 3 by omega) (show slots + ms ≤ slots + 29 by omega) (kk k _ _ H1 locs1 ls1 hFin hP hD hS h1)
  obtain ⟨pool, pn, bn, ln, sn, pf, bs, xs, ys, spf, ssf, vf, sf, hh, rr, cf, wf, of, a, b, ab, be, hInv, hz, hperm⟩ := hFin
  have hP := va_Pp hperm hP
  refine lv_aload_n hx hb dL_law_741 rfl (lv_at hl 4 rfl) ?_
  refine rdV (As := []) (rest := []) (n := 0) hx hb hml hown hg (c_X3_thrown l dC dI m0 a1 a2 a3 a4 a5 a6 a7 a8 a9 a10 a11 k ab be pn bn ln sn) (gwV wl_L_91 wm_X3_thrown we_X3_thrown wi_X3 wc_X3_thrown) rfl rfl (by decide +kernel) ⟨(Nat.le_of_ble_eq_true rfl), (Nat.le_of_ble_eq_true rfl)⟩ (hK.sub [] rfl) (hP.sub [9] rfl) 0 rfl rfl rfl rfl hl.1 rfl (Nat.le_of_ble_eq_true rfl) dL_law_742 ⟨by show cells + mc ≤ 601024; omega, by show slots + ms ≤ 7293033; omega⟩ ?_
  refine lv_iload hx hb dL_law_745 (lv_at hl 1 rfl) ?_
  refine zz_icmp_eq (tgt := 752) hx hb (by omega) (by omega) dL_law_747 (by decide) (fun _ => ?_) (fun q => absurd rfl q)
  refine lv_iload hx hb dL_law_752 (lv_at hl 1 rfl) ?_
  refine zz_if_ne (tgt := 769) hx hb (by omega) dL_law_754 (by decide) (fun _ => ?_) (fun q => ?_)
  · refine lv_goto (tgt := 1411) hx hb dL_law_769 (by decide) ?_
    exact hkk ls (lv_sub hl [2, 3, 4, 5, 6] rfl)
  · refine lv_aload_n hx hb dL_law_757 rfl (lv_at hl 5 rfl) ?_
    refine lv_iconst (v := zi (0)) hx hb dL_law_758 rfl ?_
    refine zz_lald hx hb hK hP 21 3 rfl rfl (0) (by omega) (by omega) (by decide) dL_law_759 ?_
    rw [hz q]
    refine lv_iload hx hb dL_law_760 (lv_at hl 0 rfl) ?_
    refine zz_i2lr hx hb dL_law_762 ?_
    refine zz_lcmp_same (tgt := 769) hx hb dL_law_763 dL_law_764 (by decide) ?_
    refine lv_goto (tgt := 1411) hx hb dL_law_769 (by decide) ?_
    exact hkk ls (lv_sub hl [2, 3, 4, 5, 6] rfl)
set_option maxHeartbeats 4000000 in
set_option maxRecDepth 100000 in
theorem seg_cut {x0 pa ba ax ay sp ss vs fr m0 a1 a2 a3 a4 a5 a6 a7 a8 a9 a10 a11 ou : Nat} {cA cQ cZ cL : ClassId} {k bv : Int} (C : LC p s m c b9 L9 scr A (dC, dI) (tysL cA cQ cZ cL)) (hi : i9 + 4 ≤ L9) (hcl : cells + 3 ≤ 600000 ∧ slots + 29 ≤ 7000000) (hk : 0 ≤ k ∧ k ≤ 3) (hb01 : bv = 0 ∨ bv = 1) (hl : lv_has ls 8 [(0, .ref b9), (1, .ref x0), (2, .ref m0), (3, .ref ou), (4, .int (zi (i9 : Int)))]) (hP : va_P (dC, dI) vwCl ws H) (hD : va_D A ws) (hS : va_S A s.heap H locs)
    (h : HelpC l (dC, dI) (tysL cA cQ cZ cL) yL_cut (Cond.codeWith yL_cut cL_cut 5 (Option.some Jvm.ClassFile.FieldType.int) [((0 : Nat), (17 : Nat), (20 : Nat), (19 : Nat))]) [.ref x0, .int (zi ((scr (i9 + 1)).toInt)), .int (zi ((scr (i9 + 2)).toInt)), .ref ou] k ws (fun ws1 => ModC l (dC, dI) (tysL cA cQ cZ cL) yX3_cut (Cond.code yX3_cut cX3_cut 5 ((Option.some Jvm.ClassFile.FieldType.boolean))) m0 [.int (zi ((scr (i9 + 1)).toInt)), .int (zi ((scr (i9 + 2)).toInt))] (.int (zi (bv))) ws1 (fun ws2 => Fin9 x0 pa ba ax ay sp ss vs fr m0 a1 a2 a3 a4 a5 a6 a7 a8 a9 a10 a11 ou cA cQ cZ cL k (bv) ws2)))
    (kk : ∀ (k : Int) (z : Int) (ws2 : va_W) (H1 : Heap) (locs1 : List Loc) (ls1 : Array Slot), Fin9 x0 pa ba ax ay sp ss vs fr m0 a1 a2 a3 a4 a5 a6 a7 a8 a9 a10 a11 ou cA cQ cZ cL k z ws2 → va_P (dC, dI) vwCl ws2 H1 → va_D A ws2 → va_S A s.heap H1 locs1 → lv_has ls1 8 [(0, .ref b9), (1, .ref x0), (2, .ref m0), (3, .ref ou), (4, .int (zi (i9 : Int)))] → W p l e room_1 s m #[Value.ref b9] below meth c H1 locs1 (cells + 3) (slots + 29) Q (F0 m 1411 ls1 [])) : W p l e room_1 s m #[Value.ref b9] below meth c H locs (cells) (slots) Q (F0 m 772 ls []) := by
  obtain ⟨hx, hb, hml, hown, hg, hX, hbl, hbA, hA, hK, hXA, hL⟩ := C
  obtain ⟨rm, tys, is, wc, wr, F, mc, ms, hM, hty, hp, hrc, hrs, hmc, hms, hfr, hlo, hG⟩ := h
  refine lv_aload_n hx hb dL_law_772 rfl (lv_at hl 1 rfl) ?_
  refine lv_aload_n hx hb dL_law_773 rfl (lv_at hl 0 rfl) ?_
  refine lv_iload hx hb dL_law_774 (lv_at hl 4 rfl) ?_
  refine lv_iconst (v := zi (1)) hx hb dL_law_776 rfl ?_
  refine zz_iadd hx hb dL_law_777 ?_
  refine zz_sld hx hb hX hbl hbA hS (i9 + 1) (by omega) (by omega) (by omega) dL_law_778 ?_
  refine lv_aload_n hx hb dL_law_779 rfl (lv_at hl 0 rfl) ?_
  refine lv_iload hx hb dL_law_780 (lv_at hl 4 rfl) ?_
  refine lv_iconst (v := zi (2)) hx hb dL_law_782 rfl ?_
  refine zz_iadd hx hb dL_law_783 ?_
  refine zz_sld hx hb hX hbl hbA hS (i9 + 2) (by omega) (by omega) (by omega) dL_law_784 ?_
  refine lv_aload_n hx hb dL_law_785 rfl (lv_at hl 3 rfl) ?_
  refine lwS (n := 4) (rest := []) hx hb hml hown hg (hM H.size) wl_L_120 wt_L_cut wi_L wc_L_cut hrc hrs (by decide +kernel) ⟨by show rm.frames + 1 ≤ 11; omega, by show 8 + (5 + 11) + rm.locals ≤ 424; omega⟩ (hK.sub is hty) (hXA H locs hS) hP hD hS hA hp rfl hl.1 rfl (Nat.le_of_ble_eq_true rfl) dL_law_786 ⟨by show cells + mc ≤ 601024; omega, by show slots + ms ≤ 7293033; omega⟩ (fun w1 H1 locs1 hF hP hD hS => ?_)
  refine lv_istore (lv' := [(5, .int (zi (k))), (0, .ref b9), (1, .ref x0), (2, .ref m0), (3, .ref ou), (4, .int (zi (i9 : Int)))]) hx hb dL_law_789 hl (by decide) rfl (fun ls hl => ?_)
  obtain ⟨rm2, ty2, is2, wc2, wr2, w2, fs2, hM2, hty2, hp2, hrc2, hrs2, hfr2, hlo2, hfst, hm0, hFin⟩ := hG w1 hF
  refine lv_aload_n hx hb dL_law_791 rfl (lv_at hl 3 rfl) ?_
  refine lv_aload_n hx hb dL_law_792 rfl (lv_at hl 1 rfl) ?_
  refine lv_iload hx hb dL_law_793 (lv_at hl 5 rfl) ?_
  refine lv_iconst (v := zi (1)) hx hb dL_law_795 rfl ?_
  refine zz_iadd hx hb dL_law_796 ?_
  refine zz_sld hx hb hX hbl hbA hS (i9 + 1) (by omega) (by omega) (by omega) dL_law_797 ?_
  refine lv_aload_n hx hb dL_law_798 rfl (lv_at hl 1 rfl) ?_
  refine lv_iload hx hb dL_law_799 (lv_at hl 5 rfl) ?_
  refine lv_iconst (v := zi (2)) hx hb dL_law_801 rfl ?_
  refine zz_iadd hx hb dL_law_802 ?_
  refine zz_sld hx hb hX hbl hbA hS (i9 + 2) (by omega) (by omega) (by omega) dL_law_803 ?_
  refine lwV (n := 2) (rest := []) hx hb hml hown hg (hM2 H1.size) (gwV wl_L_122 wm_X3_cut we_X3_cut wi_X3 wc_X3_cut) hrc2 hrs2 (by decide +kernel) ⟨by show rm2.frames + 1 ≤ 11; omega, by show 8 + (5 + 11) + rm2.locals ≤ 424; omega⟩ (hK.sub is2 hty2) hP hD hS hA hp2 hfst 0 hm0 rfl rfl rfl hl.1 rfl (Nat.le_of_ble_eq_true rfl) dL_law_804 ⟨by show cells + mc ≤ 601024; omega, by show slots + ms ≤ 7293033; omega⟩ (fun H1 locs1 hP hD hS => ?_)
  refine lv_istore (lv' := [(6, .int (zi (bv))), (5, .int (zi (k))), (0, .ref b9), (1, .ref x0), (2, .ref m0), (3, .ref ou), (4, .int (zi (i9 : Int)))]) hx hb dL_law_807 hl (by decide) rfl (fun ls hl => ?_)
  have hkk : ∀ ls1 : Array Slot, lv_has ls1 8 [(0, .ref b9), (1, .ref x0), (2, .ref m0), (3, .ref ou), (4, .int (zi (i9 : Int)))] → W p l e room_1 s m #[Value.ref b9] below meth c H1 locs1 (cells + mc) (slots + ms) Q (F0 m 1411 ls1 []) := fun ls1 h1 => W.widen (show cells + mc ≤ cells + 3 by omega) (show slots + ms ≤ slots + 29 by omega) (kk k _ _ H1 locs1 ls1 hFin hP hD hS h1)
  obtain ⟨pool, pn, bn, ln, sn, pf, bs, xs, ys, spf, ssf, vf, sf, hh, rr, cf, wf, of, a, b, ab, be, hInv, hz, hperm⟩ := hFin
  have hP := va_Pp hperm hP
  refine lv_aload_n hx hb dL_law_809 rfl (lv_at hl 4 rfl) ?_
  refine rdV (As := []) (rest := []) (n := 0) hx hb hml hown hg (c_X3_thrown l dC dI m0 a1 a2 a3 a4 a5 a6 a7 a8 a9 a10 a11 k ab be pn bn ln sn) (gwV wl_L_91 wm_X3_thrown we_X3_thrown wi_X3 wc_X3_thrown) rfl rfl (by decide +kernel) ⟨(Nat.le_of_ble_eq_true rfl), (Nat.le_of_ble_eq_true rfl)⟩ (hK.sub [] rfl) (hP.sub [9] rfl) 0 rfl rfl rfl rfl hl.1 rfl (Nat.le_of_ble_eq_true rfl) dL_law_810 ⟨by show cells + mc ≤ 601024; omega, by show slots + ms ≤ 7293033; omega⟩ ?_
  refine lv_iload hx hb dL_law_813 (lv_at hl 1 rfl) ?_
  refine zz_icmp_eq (tgt := 820) hx hb (by omega) (by omega) dL_law_815 (by decide) (fun _ => ?_) (fun q => absurd rfl q)
  refine lv_iload hx hb dL_law_820 (lv_at hl 1 rfl) ?_
  refine zz_if_ne (tgt := 844) hx hb (by omega) dL_law_822 (by decide) (fun _ => ?_) (fun q => ?_)
  · refine lv_goto (tgt := 1411) hx hb dL_law_844 (by decide) ?_
    exact hkk ls (lv_sub hl [2, 3, 4, 5, 6] rfl)
  · refine lv_aload_n hx hb dL_law_825 rfl (lv_at hl 5 rfl) ?_
    refine lv_iconst (v := zi (0)) hx hb dL_law_826 rfl ?_
    refine zz_lald hx hb hK hP 21 3 rfl rfl (0) (by omega) (by omega) (by decide) dL_law_827 ?_
    rw [hz q]
    refine lv_iload hx hb dL_law_828 (lv_at hl 0 rfl) ?_
    have hgo : W p l e room_1 s m #[Value.ref b9] below meth c H1 locs1 (cells + mc) (slots + ms) Q (F0 m 838 ls [.long (zl (bv)), .long (zl (bv))]) := by
      refine zz_lcmp_same (tgt := 844) hx hb dL_law_838 dL_law_839 (by decide) ?_
      refine lv_goto (tgt := 1411) hx hb dL_law_844 (by decide) ?_
      exact hkk ls (lv_sub hl [2, 3, 4, 5, 6] rfl)
    refine zz_if_eq (tgt := 837) hx hb (by omega) dL_law_830 (by decide) (fun q => ?_) (fun q => ?_)
    · refine lv_lconst (v := zl (0)) hx hb dL_law_837 (by decide) ?_
      rw [q] at hgo ⊢
      exact hgo
    · refine lv_lconst (v := zl (1)) hx hb dL_law_833 (by decide) ?_
      refine lv_goto (tgt := 838) hx hb dL_law_834 (by decide) ?_
      rw [show bv = 1 by omega] at hgo ⊢
      exact hgo
set_option maxHeartbeats 4000000 in
set_option maxRecDepth 100000 in
theorem seg_drawn {x0 pa ba ax ay sp ss vs fr m0 a1 a2 a3 a4 a5 a6 a7 a8 a9 a10 a11 ou : Nat} {cA cQ cZ cL : ClassId} {k bv : Int} (C : LC p s m c b9 L9 scr A (dC, dI) (tysL cA cQ cZ cL)) (hi : i9 + 4 ≤ L9) (hcl : cells + 3 ≤ 600000 ∧ slots + 29 ≤ 7000000) (hk : 0 ≤ k ∧ k ≤ 3) (hl : lv_has ls 8 [(0, .ref b9), (1, .ref x0), (2, .ref m0), (3, .ref ou), (4, .int (zi (i9 : Int)))]) (hP : va_P (dC, dI) vwCl ws H) (hD : va_D A ws) (hS : va_S A s.heap H locs)
    (h : HelpC l (dC, dI) (tysL cA cQ cZ cL) yL_drawn (Cond.codeWith yL_drawn cL_drawn 6 (Option.some Jvm.ClassFile.FieldType.int) [((0 : Nat), (12 : Nat), (15 : Nat), (19 : Nat))]) [.ref x0, .int (zi ((scr (i9 + 1)).toInt)), .int (zi ((scr (i9 + 2)).toInt)), .int (zi ((scr (i9 + 3)).toInt)), .ref ou] k ws (fun ws1 => ModC l (dC, dI) (tysL cA cQ cZ cL) yX3_drawn (Cond.code yX3_drawn cX3_drawn 7 ((Option.some Jvm.ClassFile.FieldType.int))) m0 [.int (zi ((scr (i9 + 1)).toInt)), .int (zi ((scr (i9 + 2)).toInt)), .int (zi ((scr (i9 + 3)).toInt))] (.int (zi (bv))) ws1 (fun ws2 => Fin9 x0 pa ba ax ay sp ss vs fr m0 a1 a2 a3 a4 a5 a6 a7 a8 a9 a10 a11 ou cA cQ cZ cL k ((zi (bv)).toInt) ws2)))
    (kk : ∀ (k : Int) (z : Int) (ws2 : va_W) (H1 : Heap) (locs1 : List Loc) (ls1 : Array Slot), Fin9 x0 pa ba ax ay sp ss vs fr m0 a1 a2 a3 a4 a5 a6 a7 a8 a9 a10 a11 ou cA cQ cZ cL k z ws2 → va_P (dC, dI) vwCl ws2 H1 → va_D A ws2 → va_S A s.heap H1 locs1 → lv_has ls1 8 [(0, .ref b9), (1, .ref x0), (2, .ref m0), (3, .ref ou), (4, .int (zi (i9 : Int)))] → W p l e room_1 s m #[Value.ref b9] below meth c H1 locs1 (cells + 3) (slots + 29) Q (F0 m 1411 ls1 [])) : W p l e room_1 s m #[Value.ref b9] below meth c H locs (cells) (slots) Q (F0 m 847 ls []) := by
  obtain ⟨hx, hb, hml, hown, hg, hX, hbl, hbA, hA, hK, hXA, hL⟩ := C
  obtain ⟨rm, tys, is, wc, wr, F, mc, ms, hM, hty, hp, hrc, hrs, hmc, hms, hfr, hlo, hG⟩ := h
  refine lv_aload_n hx hb dL_law_847 rfl (lv_at hl 1 rfl) ?_
  refine lv_aload_n hx hb dL_law_848 rfl (lv_at hl 0 rfl) ?_
  refine lv_iload hx hb dL_law_849 (lv_at hl 4 rfl) ?_
  refine lv_iconst (v := zi (1)) hx hb dL_law_851 rfl ?_
  refine zz_iadd hx hb dL_law_852 ?_
  refine zz_sld hx hb hX hbl hbA hS (i9 + 1) (by omega) (by omega) (by omega) dL_law_853 ?_
  refine lv_aload_n hx hb dL_law_854 rfl (lv_at hl 0 rfl) ?_
  refine lv_iload hx hb dL_law_855 (lv_at hl 4 rfl) ?_
  refine lv_iconst (v := zi (2)) hx hb dL_law_857 rfl ?_
  refine zz_iadd hx hb dL_law_858 ?_
  refine zz_sld hx hb hX hbl hbA hS (i9 + 2) (by omega) (by omega) (by omega) dL_law_859 ?_
  refine lv_aload_n hx hb dL_law_860 rfl (lv_at hl 0 rfl) ?_
  refine lv_iload hx hb dL_law_861 (lv_at hl 4 rfl) ?_
  refine lv_iconst (v := zi (3)) hx hb dL_law_863 rfl ?_
  refine zz_iadd hx hb dL_law_864 ?_
  refine zz_sld hx hb hX hbl hbA hS (i9 + 3) (by omega) (by omega) (by omega) dL_law_865 ?_
  refine lv_aload_n hx hb dL_law_866 rfl (lv_at hl 3 rfl) ?_
  refine lwS (n := 5) (rest := []) hx hb hml hown hg (hM H.size) wl_L_123 wt_L_drawn wi_L wc_L_drawn hrc hrs (by decide +kernel) ⟨by show rm.frames + 1 ≤ 11; omega, by show 8 + (6 + 11) + rm.locals ≤ 424; omega⟩ (hK.sub is hty) (hXA H locs hS) hP hD hS hA hp rfl hl.1 rfl (Nat.le_of_ble_eq_true rfl) dL_law_867 ⟨by show cells + mc ≤ 601024; omega, by show slots + ms ≤ 7293033; omega⟩ (fun w1 H1 locs1 hF hP hD hS => ?_)
  refine lv_istore (lv' := [(5, .int (zi (k))), (0, .ref b9), (1, .ref x0), (2, .ref m0), (3, .ref ou), (4, .int (zi (i9 : Int)))]) hx hb dL_law_870 hl (by decide) rfl (fun ls hl => ?_)
  obtain ⟨rm2, ty2, is2, wc2, wr2, w2, fs2, hM2, hty2, hp2, hrc2, hrs2, hfr2, hlo2, hfst, hm0, hFin⟩ := hG w1 hF
  refine lv_aload_n hx hb dL_law_872 rfl (lv_at hl 3 rfl) ?_
  refine lv_aload_n hx hb dL_law_873 rfl (lv_at hl 1 rfl) ?_
  refine lv_iload hx hb dL_law_874 (lv_at hl 5 rfl) ?_
  refine lv_iconst (v := zi (1)) hx hb dL_law_876 rfl ?_
  refine zz_iadd hx hb dL_law_877 ?_
  refine zz_sld hx hb hX hbl hbA hS (i9 + 1) (by omega) (by omega) (by omega) dL_law_878 ?_
  refine lv_aload_n hx hb dL_law_879 rfl (lv_at hl 1 rfl) ?_
  refine lv_iload hx hb dL_law_880 (lv_at hl 5 rfl) ?_
  refine lv_iconst (v := zi (2)) hx hb dL_law_882 rfl ?_
  refine zz_iadd hx hb dL_law_883 ?_
  refine zz_sld hx hb hX hbl hbA hS (i9 + 2) (by omega) (by omega) (by omega) dL_law_884 ?_
  refine lv_aload_n hx hb dL_law_885 rfl (lv_at hl 1 rfl) ?_
  refine lv_iload hx hb dL_law_886 (lv_at hl 5 rfl) ?_
  refine lv_iconst (v := zi (3)) hx hb dL_law_888 rfl ?_
  refine zz_iadd hx hb dL_law_889 ?_
  refine zz_sld hx hb hX hbl hbA hS (i9 + 3) (by omega) (by omega) (by omega) dL_law_890 ?_
  refine lwV (n := 3) (rest := []) hx hb hml hown hg (hM2 H1.size) (gwV wl_L_125 wm_X3_drawn we_X3_drawn wi_X3 wc_X3_drawn) hrc2 hrs2 (by decide +kernel) ⟨by show rm2.frames + 1 ≤ 11; omega, by show 8 + (7 + 11) + rm2.locals ≤ 424; omega⟩ (hK.sub is2 hty2) hP hD hS hA hp2 hfst 0 hm0 rfl rfl rfl hl.1 rfl (Nat.le_of_ble_eq_true rfl) dL_law_891 ⟨by show cells + mc ≤ 601024; omega, by show slots + ms ≤ 7293033; omega⟩ (fun H1 locs1 hP hD hS => ?_)
  refine lv_istore (lv' := [(6, .int (zi (bv))), (5, .int (zi (k))), (0, .ref b9), (1, .ref x0), (2, .ref m0), (3, .ref ou), (4, .int (zi (i9 : Int)))]) hx hb dL_law_894 hl (by decide) rfl (fun ls hl => ?_)
  have hkk : ∀ ls1 : Array Slot, lv_has ls1 8 [(0, .ref b9), (1, .ref x0), (2, .ref m0), (3, .ref ou), (4, .int (zi (i9 : Int)))] → W p l e room_1 s m #[Value.ref b9] below meth c H1 locs1 (cells + mc) (slots + ms) Q (F0 m 1411 ls1 []) := fun ls1 h1 => W.widen (show cells + mc ≤ cells + 3 by omega) (show slots + ms ≤ slots + 29 by omega) (kk k _ _ H1 locs1 ls1 hFin hP hD hS h1)
  obtain ⟨pool, pn, bn, ln, sn, pf, bs, xs, ys, spf, ssf, vf, sf, hh, rr, cf, wf, of, a, b, ab, be, hInv, hz, hperm⟩ := hFin
  have hP := va_Pp hperm hP
  refine lv_aload_n hx hb dL_law_896 rfl (lv_at hl 4 rfl) ?_
  refine rdV (As := []) (rest := []) (n := 0) hx hb hml hown hg (c_X3_thrown l dC dI m0 a1 a2 a3 a4 a5 a6 a7 a8 a9 a10 a11 k ab be pn bn ln sn) (gwV wl_L_91 wm_X3_thrown we_X3_thrown wi_X3 wc_X3_thrown) rfl rfl (by decide +kernel) ⟨(Nat.le_of_ble_eq_true rfl), (Nat.le_of_ble_eq_true rfl)⟩ (hK.sub [] rfl) (hP.sub [9] rfl) 0 rfl rfl rfl rfl hl.1 rfl (Nat.le_of_ble_eq_true rfl) dL_law_897 ⟨by show cells + mc ≤ 601024; omega, by show slots + ms ≤ 7293033; omega⟩ ?_
  refine lv_iload hx hb dL_law_900 (lv_at hl 1 rfl) ?_
  refine zz_icmp_eq (tgt := 907) hx hb (by omega) (by omega) dL_law_902 (by decide) (fun _ => ?_) (fun q => absurd rfl q)
  refine lv_iload hx hb dL_law_907 (lv_at hl 1 rfl) ?_
  refine zz_if_ne (tgt := 924) hx hb (by omega) dL_law_909 (by decide) (fun _ => ?_) (fun q => ?_)
  · refine lv_goto (tgt := 1411) hx hb dL_law_924 (by decide) ?_
    exact hkk ls (lv_sub hl [2, 3, 4, 5, 6] rfl)
  · refine lv_aload_n hx hb dL_law_912 rfl (lv_at hl 5 rfl) ?_
    refine lv_iconst (v := zi (0)) hx hb dL_law_913 rfl ?_
    refine zz_lald hx hb hK hP 21 3 rfl rfl (0) (by omega) (by omega) (by decide) dL_law_914 ?_
    rw [hz q]
    refine lv_iload hx hb dL_law_915 (lv_at hl 0 rfl) ?_
    refine zz_i2lr hx hb dL_law_917 ?_
    refine zz_lcmp_same (tgt := 924) hx hb dL_law_918 dL_law_919 (by decide) ?_
    refine lv_goto (tgt := 1411) hx hb dL_law_924 (by decide) ?_
    exact hkk ls (lv_sub hl [2, 3, 4, 5, 6] rfl)
set_option maxHeartbeats 4000000 in
set_option maxRecDepth 100000 in
theorem seg_bound {x0 pa ba ax ay sp ss vs fr m0 a1 a2 a3 a4 a5 a6 a7 a8 a9 a10 a11 ou : Nat} {cA cQ cZ cL : ClassId} {k bv : Int} (C : LC p s m c b9 L9 scr A (dC, dI) (tysL cA cQ cZ cL)) (hi : i9 + 4 ≤ L9) (hcl : cells + 3 ≤ 600000 ∧ slots + 29 ≤ 7000000) (hk : 0 ≤ k ∧ k ≤ 3) (hl : lv_has ls 8 [(0, .ref b9), (1, .ref x0), (2, .ref m0), (3, .ref ou), (4, .int (zi (i9 : Int)))]) (hP : va_P (dC, dI) vwCl ws H) (hD : va_D A ws) (hS : va_S A s.heap H locs)
    (h : HelpC l (dC, dI) (tysL cA cQ cZ cL) yL_bound (Cond.codeWith yL_bound cL_bound 4 (Option.some Jvm.ClassFile.FieldType.int) [((0 : Nat), (9 : Nat), (12 : Nat), (21 : Nat)), ((0 : Nat), (9 : Nat), (15 : Nat), (13 : Nat))]) [.ref x0, .int (zi ((scr (i9 + 1)).toInt)), .ref ou] k ws (fun ws1 => ModC l (dC, dI) (tysL cA cQ cZ cL) yX3_bound (Cond.code yX3_bound cX3_bound 2 ((Option.some Jvm.ClassFile.FieldType.int))) m0 [.int (zi ((scr (i9 + 1)).toInt))] (.int (zi (bv))) ws1 (fun ws2 => Fin9 x0 pa ba ax ay sp ss vs fr m0 a1 a2 a3 a4 a5 a6 a7 a8 a9 a10 a11 ou cA cQ cZ cL k ((zi (bv)).toInt) ws2)))
    (kk : ∀ (k : Int) (z : Int) (ws2 : va_W) (H1 : Heap) (locs1 : List Loc) (ls1 : Array Slot), Fin9 x0 pa ba ax ay sp ss vs fr m0 a1 a2 a3 a4 a5 a6 a7 a8 a9 a10 a11 ou cA cQ cZ cL k z ws2 → va_P (dC, dI) vwCl ws2 H1 → va_D A ws2 → va_S A s.heap H1 locs1 → lv_has ls1 8 [(0, .ref b9), (1, .ref x0), (2, .ref m0), (3, .ref ou), (4, .int (zi (i9 : Int)))] → W p l e room_1 s m #[Value.ref b9] below meth c H1 locs1 (cells + 3) (slots + 29) Q (F0 m 1411 ls1 [])) : W p l e room_1 s m #[Value.ref b9] below meth c H locs (cells) (slots) Q (F0 m 927 ls []) := by
  obtain ⟨hx, hb, hml, hown, hg, hX, hbl, hbA, hA, hK, hXA, hL⟩ := C
  obtain ⟨rm, tys, is, wc, wr, F, mc, ms, hM, hty, hp, hrc, hrs, hmc, hms, hfr, hlo, hG⟩ := h
  refine lv_aload_n hx hb dL_law_927 rfl (lv_at hl 1 rfl) ?_
  refine lv_aload_n hx hb dL_law_928 rfl (lv_at hl 0 rfl) ?_
  refine lv_iload hx hb dL_law_929 (lv_at hl 4 rfl) ?_
  refine lv_iconst (v := zi (1)) hx hb dL_law_931 rfl ?_
  refine zz_iadd hx hb dL_law_932 ?_
  refine zz_sld hx hb hX hbl hbA hS (i9 + 1) (by omega) (by omega) (by omega) dL_law_933 ?_
  refine lv_aload_n hx hb dL_law_934 rfl (lv_at hl 3 rfl) ?_
  refine lwS (n := 3) (rest := []) hx hb hml hown hg (hM H.size) wl_L_126 wt_L_bound wi_L wc_L_bound hrc hrs (by decide +kernel) ⟨by show rm.frames + 1 ≤ 11; omega, by show 8 + (4 + 11) + rm.locals ≤ 424; omega⟩ (hK.sub is hty) (hXA H locs hS) hP hD hS hA hp rfl hl.1 rfl (Nat.le_of_ble_eq_true rfl) dL_law_935 ⟨by show cells + mc ≤ 601024; omega, by show slots + ms ≤ 7293033; omega⟩ (fun w1 H1 locs1 hF hP hD hS => ?_)
  refine lv_istore (lv' := [(5, .int (zi (k))), (0, .ref b9), (1, .ref x0), (2, .ref m0), (3, .ref ou), (4, .int (zi (i9 : Int)))]) hx hb dL_law_938 hl (by decide) rfl (fun ls hl => ?_)
  obtain ⟨rm2, ty2, is2, wc2, wr2, w2, fs2, hM2, hty2, hp2, hrc2, hrs2, hfr2, hlo2, hfst, hm0, hFin⟩ := hG w1 hF
  refine lv_aload_n hx hb dL_law_940 rfl (lv_at hl 3 rfl) ?_
  refine lv_aload_n hx hb dL_law_941 rfl (lv_at hl 1 rfl) ?_
  refine lv_iload hx hb dL_law_942 (lv_at hl 5 rfl) ?_
  refine lv_iconst (v := zi (1)) hx hb dL_law_944 rfl ?_
  refine zz_iadd hx hb dL_law_945 ?_
  refine zz_sld hx hb hX hbl hbA hS (i9 + 1) (by omega) (by omega) (by omega) dL_law_946 ?_
  refine lwV (n := 1) (rest := []) hx hb hml hown hg (hM2 H1.size) (gwV wl_L_129 wm_X3_bound we_X3_bound wi_X3 wc_X3_bound) hrc2 hrs2 (by decide +kernel) ⟨by show rm2.frames + 1 ≤ 11; omega, by show 8 + (2 + 11) + rm2.locals ≤ 424; omega⟩ (hK.sub is2 hty2) hP hD hS hA hp2 hfst 0 hm0 rfl rfl rfl hl.1 rfl (Nat.le_of_ble_eq_true rfl) dL_law_947 ⟨by show cells + mc ≤ 601024; omega, by show slots + ms ≤ 7293033; omega⟩ (fun H1 locs1 hP hD hS => ?_)
  refine lv_istore (lv' := [(6, .int (zi (bv))), (5, .int (zi (k))), (0, .ref b9), (1, .ref x0), (2, .ref m0), (3, .ref ou), (4, .int (zi (i9 : Int)))]) hx hb dL_law_950 hl (by decide) rfl (fun ls hl => ?_)
  have hkk : ∀ ls1 : Array Slot, lv_has ls1 8 [(0, .ref b9), (1, .ref x0), (2, .ref m0), (3, .ref ou), (4, .int (zi (i9 : Int)))] → W p l e room_1 s m #[Value.ref b9] below meth c H1 locs1 (cells + mc) (slots + ms) Q (F0 m 1411 ls1 []) := fun ls1 h1 => W.widen (show cells + mc ≤ cells + 3 by omega) (show slots + ms ≤ slots + 29 by omega) (kk k _ _ H1 locs1 ls1 hFin hP hD hS h1)
  obtain ⟨pool, pn, bn, ln, sn, pf, bs, xs, ys, spf, ssf, vf, sf, hh, rr, cf, wf, of, a, b, ab, be, hInv, hz, hperm⟩ := hFin
  have hP := va_Pp hperm hP
  refine lv_aload_n hx hb dL_law_952 rfl (lv_at hl 4 rfl) ?_
  refine rdV (As := []) (rest := []) (n := 0) hx hb hml hown hg (c_X3_thrown l dC dI m0 a1 a2 a3 a4 a5 a6 a7 a8 a9 a10 a11 k ab be pn bn ln sn) (gwV wl_L_91 wm_X3_thrown we_X3_thrown wi_X3 wc_X3_thrown) rfl rfl (by decide +kernel) ⟨(Nat.le_of_ble_eq_true rfl), (Nat.le_of_ble_eq_true rfl)⟩ (hK.sub [] rfl) (hP.sub [9] rfl) 0 rfl rfl rfl rfl hl.1 rfl (Nat.le_of_ble_eq_true rfl) dL_law_953 ⟨by show cells + mc ≤ 601024; omega, by show slots + ms ≤ 7293033; omega⟩ ?_
  refine lv_iload hx hb dL_law_956 (lv_at hl 1 rfl) ?_
  refine zz_icmp_eq (tgt := 963) hx hb (by omega) (by omega) dL_law_958 (by decide) (fun _ => ?_) (fun q => absurd rfl q)
  refine lv_iload hx hb dL_law_963 (lv_at hl 1 rfl) ?_
  refine zz_if_ne (tgt := 980) hx hb (by omega) dL_law_965 (by decide) (fun _ => ?_) (fun q => ?_)
  · refine lv_goto (tgt := 1411) hx hb dL_law_980 (by decide) ?_
    exact hkk ls (lv_sub hl [2, 3, 4, 5, 6] rfl)
  · refine lv_aload_n hx hb dL_law_968 rfl (lv_at hl 5 rfl) ?_
    refine lv_iconst (v := zi (0)) hx hb dL_law_969 rfl ?_
    refine zz_lald hx hb hK hP 21 3 rfl rfl (0) (by omega) (by omega) (by decide) dL_law_970 ?_
    rw [hz q]
    refine lv_iload hx hb dL_law_971 (lv_at hl 0 rfl) ?_
    refine zz_i2lr hx hb dL_law_973 ?_
    refine zz_lcmp_same (tgt := 980) hx hb dL_law_974 dL_law_975 (by decide) ?_
    refine lv_goto (tgt := 1411) hx hb dL_law_980 (by decide) ?_
    exact hkk ls (lv_sub hl [2, 3, 4, 5, 6] rfl)
set_option maxHeartbeats 4000000 in
set_option maxRecDepth 100000 in
theorem seg_size {x0 pa ba ax ay sp ss vs fr m0 a1 a2 a3 a4 a5 a6 a7 a8 a9 a10 a11 ou : Nat} {cA cQ cZ cL : ClassId} {k bv : Int} (C : LC p s m c b9 L9 scr A (dC, dI) (tysL cA cQ cZ cL)) (hi : i9 + 4 ≤ L9) (hcl : cells + 3 ≤ 600000 ∧ slots + 29 ≤ 7000000) (hk : 0 ≤ k ∧ k ≤ 3) (hl : lv_has ls 8 [(0, .ref b9), (1, .ref x0), (2, .ref m0), (3, .ref ou), (4, .int (zi (i9 : Int)))]) (hP : va_P (dC, dI) vwCl ws H) (hD : va_D A ws) (hS : va_S A s.heap H locs)
    (h : HelpC l (dC, dI) (tysL cA cQ cZ cL) yL_size (Cond.codeWith yL_size cL_size 4 (Option.some Jvm.ClassFile.FieldType.int) [((0 : Nat), (9 : Nat), (12 : Nat), (19 : Nat))]) [.ref x0, .int (zi ((scr (i9 + 1)).toInt)), .ref ou] k ws (fun ws1 => ModC l (dC, dI) (tysL cA cQ cZ cL) yX3_size (Cond.code yX3_size cX3_size 6 ((Option.some Jvm.ClassFile.FieldType.int))) m0 [.int (zi ((scr (i9 + 1)).toInt))] (.int (zi (bv))) ws1 (fun ws2 => Fin9 x0 pa ba ax ay sp ss vs fr m0 a1 a2 a3 a4 a5 a6 a7 a8 a9 a10 a11 ou cA cQ cZ cL k ((zi (bv)).toInt) ws2)))
    (kk : ∀ (k : Int) (z : Int) (ws2 : va_W) (H1 : Heap) (locs1 : List Loc) (ls1 : Array Slot), Fin9 x0 pa ba ax ay sp ss vs fr m0 a1 a2 a3 a4 a5 a6 a7 a8 a9 a10 a11 ou cA cQ cZ cL k z ws2 → va_P (dC, dI) vwCl ws2 H1 → va_D A ws2 → va_S A s.heap H1 locs1 → lv_has ls1 8 [(0, .ref b9), (1, .ref x0), (2, .ref m0), (3, .ref ou), (4, .int (zi (i9 : Int)))] → W p l e room_1 s m #[Value.ref b9] below meth c H1 locs1 (cells + 3) (slots + 29) Q (F0 m 1411 ls1 [])) : W p l e room_1 s m #[Value.ref b9] below meth c H locs (cells) (slots) Q (F0 m 983 ls []) := by
  obtain ⟨hx, hb, hml, hown, hg, hX, hbl, hbA, hA, hK, hXA, hL⟩ := C
  obtain ⟨rm, tys, is, wc, wr, F, mc, ms, hM, hty, hp, hrc, hrs, hmc, hms, hfr, hlo, hG⟩ := h
  refine lv_aload_n hx hb dL_law_983 rfl (lv_at hl 1 rfl) ?_
  refine lv_aload_n hx hb dL_law_984 rfl (lv_at hl 0 rfl) ?_
  refine lv_iload hx hb dL_law_985 (lv_at hl 4 rfl) ?_
  refine lv_iconst (v := zi (1)) hx hb dL_law_987 rfl ?_
  refine zz_iadd hx hb dL_law_988 ?_
  refine zz_sld hx hb hX hbl hbA hS (i9 + 1) (by omega) (by omega) (by omega) dL_law_989 ?_
  refine lv_aload_n hx hb dL_law_990 rfl (lv_at hl 3 rfl) ?_
  refine lwS (n := 3) (rest := []) hx hb hml hown hg (hM H.size) wl_L_130 wt_L_size wi_L wc_L_size hrc hrs (by decide +kernel) ⟨by show rm.frames + 1 ≤ 11; omega, by show 8 + (4 + 11) + rm.locals ≤ 424; omega⟩ (hK.sub is hty) (hXA H locs hS) hP hD hS hA hp rfl hl.1 rfl (Nat.le_of_ble_eq_true rfl) dL_law_991 ⟨by show cells + mc ≤ 601024; omega, by show slots + ms ≤ 7293033; omega⟩ (fun w1 H1 locs1 hF hP hD hS => ?_)
  refine lv_istore (lv' := [(5, .int (zi (k))), (0, .ref b9), (1, .ref x0), (2, .ref m0), (3, .ref ou), (4, .int (zi (i9 : Int)))]) hx hb dL_law_994 hl (by decide) rfl (fun ls hl => ?_)
  obtain ⟨rm2, ty2, is2, wc2, wr2, w2, fs2, hM2, hty2, hp2, hrc2, hrs2, hfr2, hlo2, hfst, hm0, hFin⟩ := hG w1 hF
  refine lv_aload_n hx hb dL_law_996 rfl (lv_at hl 3 rfl) ?_
  refine lv_aload_n hx hb dL_law_997 rfl (lv_at hl 1 rfl) ?_
  refine lv_iload hx hb dL_law_998 (lv_at hl 5 rfl) ?_
  refine lv_iconst (v := zi (1)) hx hb dL_law_1000 rfl ?_
  refine zz_iadd hx hb dL_law_1001 ?_
  refine zz_sld hx hb hX hbl hbA hS (i9 + 1) (by omega) (by omega) (by omega) dL_law_1002 ?_
  refine lwV (n := 1) (rest := []) hx hb hml hown hg (hM2 H1.size) (gwV wl_L_132 wm_X3_size we_X3_size wi_X3 wc_X3_size) hrc2 hrs2 (by decide +kernel) ⟨by show rm2.frames + 1 ≤ 11; omega, by show 8 + (6 + 11) + rm2.locals ≤ 424; omega⟩ (hK.sub is2 hty2) hP hD hS hA hp2 hfst 0 hm0 rfl rfl rfl hl.1 rfl (Nat.le_of_ble_eq_true rfl) dL_law_1003 ⟨by show cells + mc ≤ 601024; omega, by show slots + ms ≤ 7293033; omega⟩ (fun H1 locs1 hP hD hS => ?_)
  refine lv_istore (lv' := [(6, .int (zi (bv))), (5, .int (zi (k))), (0, .ref b9), (1, .ref x0), (2, .ref m0), (3, .ref ou), (4, .int (zi (i9 : Int)))]) hx hb dL_law_1006 hl (by decide) rfl (fun ls hl => ?_)
  have hkk : ∀ ls1 : Array Slot, lv_has ls1 8 [(0, .ref b9), (1, .ref x0), (2, .ref m0), (3, .ref ou), (4, .int (zi (i9 : Int)))] → W p l e room_1 s m #[Value.ref b9] below meth c H1 locs1 (cells + mc) (slots + ms) Q (F0 m 1411 ls1 []) := fun ls1 h1 => W.widen (show cells + mc ≤ cells + 3 by omega) (show slots + ms ≤ slots + 29 by omega) (kk k _ _ H1 locs1 ls1 hFin hP hD hS h1)
  obtain ⟨pool, pn, bn, ln, sn, pf, bs, xs, ys, spf, ssf, vf, sf, hh, rr, cf, wf, of, a, b, ab, be, hInv, hz, hperm⟩ := hFin
  have hP := va_Pp hperm hP
  refine lv_aload_n hx hb dL_law_1008 rfl (lv_at hl 4 rfl) ?_
  refine rdV (As := []) (rest := []) (n := 0) hx hb hml hown hg (c_X3_thrown l dC dI m0 a1 a2 a3 a4 a5 a6 a7 a8 a9 a10 a11 k ab be pn bn ln sn) (gwV wl_L_91 wm_X3_thrown we_X3_thrown wi_X3 wc_X3_thrown) rfl rfl (by decide +kernel) ⟨(Nat.le_of_ble_eq_true rfl), (Nat.le_of_ble_eq_true rfl)⟩ (hK.sub [] rfl) (hP.sub [9] rfl) 0 rfl rfl rfl rfl hl.1 rfl (Nat.le_of_ble_eq_true rfl) dL_law_1009 ⟨by show cells + mc ≤ 601024; omega, by show slots + ms ≤ 7293033; omega⟩ ?_
  refine lv_iload hx hb dL_law_1012 (lv_at hl 1 rfl) ?_
  refine zz_icmp_eq (tgt := 1019) hx hb (by omega) (by omega) dL_law_1014 (by decide) (fun _ => ?_) (fun q => absurd rfl q)
  refine lv_iload hx hb dL_law_1019 (lv_at hl 1 rfl) ?_
  refine zz_if_ne (tgt := 1036) hx hb (by omega) dL_law_1021 (by decide) (fun _ => ?_) (fun q => ?_)
  · refine lv_goto (tgt := 1411) hx hb dL_law_1036 (by decide) ?_
    exact hkk ls (lv_sub hl [2, 3, 4, 5, 6] rfl)
  · refine lv_aload_n hx hb dL_law_1024 rfl (lv_at hl 5 rfl) ?_
    refine lv_iconst (v := zi (0)) hx hb dL_law_1025 rfl ?_
    refine zz_lald hx hb hK hP 21 3 rfl rfl (0) (by omega) (by omega) (by decide) dL_law_1026 ?_
    rw [hz q]
    refine lv_iload hx hb dL_law_1027 (lv_at hl 0 rfl) ?_
    refine zz_i2lr hx hb dL_law_1029 ?_
    refine zz_lcmp_same (tgt := 1036) hx hb dL_law_1030 dL_law_1031 (by decide) ?_
    refine lv_goto (tgt := 1411) hx hb dL_law_1036 (by decide) ?_
    exact hkk ls (lv_sub hl [2, 3, 4, 5, 6] rfl)
set_option maxHeartbeats 4000000 in
set_option maxRecDepth 100000 in
theorem seg_rim {x0 pa ba ax ay sp ss vs fr m0 a1 a2 a3 a4 a5 a6 a7 a8 a9 a10 a11 ou : Nat} {cA cQ cZ cL : ClassId} {k bv : Int} (C : LC p s m c b9 L9 scr A (dC, dI) (tysL cA cQ cZ cL)) (hi : i9 + 4 ≤ L9) (hcl : cells + 3 ≤ 600000 ∧ slots + 29 ≤ 7000000) (hk : 0 ≤ k ∧ k ≤ 3) (hl : lv_has ls 8 [(0, .ref b9), (1, .ref x0), (2, .ref m0), (3, .ref ou), (4, .int (zi (i9 : Int)))]) (hP : va_P (dC, dI) vwCl ws H) (hD : va_D A ws) (hS : va_S A s.heap H locs)
    (h : HelpC l (dC, dI) (tysL cA cQ cZ cL) yL_rim (Cond.codeWith yL_rim cL_rim 5 (Option.some Jvm.ClassFile.FieldType.int) [((0 : Nat), (10 : Nat), (13 : Nat), (21 : Nat)), ((0 : Nat), (10 : Nat), (17 : Nat), (13 : Nat))]) [.ref x0, .int (zi ((scr (i9 + 1)).toInt)), .int (zi ((scr (i9 + 2)).toInt)), .ref ou] k ws (fun ws1 => ModC l (dC, dI) (tysL cA cQ cZ cL) yX3_rim (Cond.code yX3_rim cX3_rim 3 ((Option.some Jvm.ClassFile.FieldType.int))) m0 [.int (zi ((scr (i9 + 1)).toInt)), .int (zi ((scr (i9 + 2)).toInt))] (.int (zi (bv))) ws1 (fun ws2 => Fin9 x0 pa ba ax ay sp ss vs fr m0 a1 a2 a3 a4 a5 a6 a7 a8 a9 a10 a11 ou cA cQ cZ cL k ((zi (bv)).toInt) ws2)))
    (kk : ∀ (k : Int) (z : Int) (ws2 : va_W) (H1 : Heap) (locs1 : List Loc) (ls1 : Array Slot), Fin9 x0 pa ba ax ay sp ss vs fr m0 a1 a2 a3 a4 a5 a6 a7 a8 a9 a10 a11 ou cA cQ cZ cL k z ws2 → va_P (dC, dI) vwCl ws2 H1 → va_D A ws2 → va_S A s.heap H1 locs1 → lv_has ls1 8 [(0, .ref b9), (1, .ref x0), (2, .ref m0), (3, .ref ou), (4, .int (zi (i9 : Int)))] → W p l e room_1 s m #[Value.ref b9] below meth c H1 locs1 (cells + 3) (slots + 29) Q (F0 m 1411 ls1 [])) : W p l e room_1 s m #[Value.ref b9] below meth c H locs (cells) (slots) Q (F0 m 1039 ls []) := by
  obtain ⟨hx, hb, hml, hown, hg, hX, hbl, hbA, hA, hK, hXA, hL⟩ := C
  obtain ⟨rm, tys, is, wc, wr, F, mc, ms, hM, hty, hp, hrc, hrs, hmc, hms, hfr, hlo, hG⟩ := h
  refine lv_aload_n hx hb dL_law_1039 rfl (lv_at hl 1 rfl) ?_
  refine lv_aload_n hx hb dL_law_1040 rfl (lv_at hl 0 rfl) ?_
  refine lv_iload hx hb dL_law_1041 (lv_at hl 4 rfl) ?_
  refine lv_iconst (v := zi (1)) hx hb dL_law_1043 rfl ?_
  refine zz_iadd hx hb dL_law_1044 ?_
  refine zz_sld hx hb hX hbl hbA hS (i9 + 1) (by omega) (by omega) (by omega) dL_law_1045 ?_
  refine lv_aload_n hx hb dL_law_1046 rfl (lv_at hl 0 rfl) ?_
  refine lv_iload hx hb dL_law_1047 (lv_at hl 4 rfl) ?_
  refine lv_iconst (v := zi (2)) hx hb dL_law_1049 rfl ?_
  refine zz_iadd hx hb dL_law_1050 ?_
  refine zz_sld hx hb hX hbl hbA hS (i9 + 2) (by omega) (by omega) (by omega) dL_law_1051 ?_
  refine lv_aload_n hx hb dL_law_1052 rfl (lv_at hl 3 rfl) ?_
  refine lwS (n := 4) (rest := []) hx hb hml hown hg (hM H.size) wl_L_133 wt_L_rim wi_L wc_L_rim hrc hrs (by decide +kernel) ⟨by show rm.frames + 1 ≤ 11; omega, by show 8 + (5 + 11) + rm.locals ≤ 424; omega⟩ (hK.sub is hty) (hXA H locs hS) hP hD hS hA hp rfl hl.1 rfl (Nat.le_of_ble_eq_true rfl) dL_law_1053 ⟨by show cells + mc ≤ 601024; omega, by show slots + ms ≤ 7293033; omega⟩ (fun w1 H1 locs1 hF hP hD hS => ?_)
  refine lv_istore (lv' := [(5, .int (zi (k))), (0, .ref b9), (1, .ref x0), (2, .ref m0), (3, .ref ou), (4, .int (zi (i9 : Int)))]) hx hb dL_law_1056 hl (by decide) rfl (fun ls hl => ?_)
  obtain ⟨rm2, ty2, is2, wc2, wr2, w2, fs2, hM2, hty2, hp2, hrc2, hrs2, hfr2, hlo2, hfst, hm0, hFin⟩ := hG w1 hF
  refine lv_aload_n hx hb dL_law_1058 rfl (lv_at hl 3 rfl) ?_
  refine lv_aload_n hx hb dL_law_1059 rfl (lv_at hl 1 rfl) ?_
  refine lv_iload hx hb dL_law_1060 (lv_at hl 5 rfl) ?_
  refine lv_iconst (v := zi (1)) hx hb dL_law_1062 rfl ?_
  refine zz_iadd hx hb dL_law_1063 ?_
  refine zz_sld hx hb hX hbl hbA hS (i9 + 1) (by omega) (by omega) (by omega) dL_law_1064 ?_
  refine lv_aload_n hx hb dL_law_1065 rfl (lv_at hl 1 rfl) ?_
  refine lv_iload hx hb dL_law_1066 (lv_at hl 5 rfl) ?_
  refine lv_iconst (v := zi (2)) hx hb dL_law_1068 rfl ?_
  refine zz_iadd hx hb dL_law_1069 ?_
  refine zz_sld hx hb hX hbl hbA hS (i9 + 2) (by omega) (by omega) (by omega) dL_law_1070 ?_
  refine lwV (n := 2) (rest := []) hx hb hml hown hg (hM2 H1.size) (gwV wl_L_135 wm_X3_rim we_X3_rim wi_X3 wc_X3_rim) hrc2 hrs2 (by decide +kernel) ⟨by show rm2.frames + 1 ≤ 11; omega, by show 8 + (3 + 11) + rm2.locals ≤ 424; omega⟩ (hK.sub is2 hty2) hP hD hS hA hp2 hfst 0 hm0 rfl rfl rfl hl.1 rfl (Nat.le_of_ble_eq_true rfl) dL_law_1071 ⟨by show cells + mc ≤ 601024; omega, by show slots + ms ≤ 7293033; omega⟩ (fun H1 locs1 hP hD hS => ?_)
  refine lv_istore (lv' := [(6, .int (zi (bv))), (5, .int (zi (k))), (0, .ref b9), (1, .ref x0), (2, .ref m0), (3, .ref ou), (4, .int (zi (i9 : Int)))]) hx hb dL_law_1074 hl (by decide) rfl (fun ls hl => ?_)
  have hkk : ∀ ls1 : Array Slot, lv_has ls1 8 [(0, .ref b9), (1, .ref x0), (2, .ref m0), (3, .ref ou), (4, .int (zi (i9 : Int)))] → W p l e room_1 s m #[Value.ref b9] below meth c H1 locs1 (cells + mc) (slots + ms) Q (F0 m 1411 ls1 []) := fun ls1 h1 => W.widen (show cells + mc ≤ cells + 3 by omega) (show slots + ms ≤ slots + 29 by omega) (kk k _ _ H1 locs1 ls1 hFin hP hD hS h1)
  obtain ⟨pool, pn, bn, ln, sn, pf, bs, xs, ys, spf, ssf, vf, sf, hh, rr, cf, wf, of, a, b, ab, be, hInv, hz, hperm⟩ := hFin
  have hP := va_Pp hperm hP
  refine lv_aload_n hx hb dL_law_1076 rfl (lv_at hl 4 rfl) ?_
  refine rdV (As := []) (rest := []) (n := 0) hx hb hml hown hg (c_X3_thrown l dC dI m0 a1 a2 a3 a4 a5 a6 a7 a8 a9 a10 a11 k ab be pn bn ln sn) (gwV wl_L_91 wm_X3_thrown we_X3_thrown wi_X3 wc_X3_thrown) rfl rfl (by decide +kernel) ⟨(Nat.le_of_ble_eq_true rfl), (Nat.le_of_ble_eq_true rfl)⟩ (hK.sub [] rfl) (hP.sub [9] rfl) 0 rfl rfl rfl rfl hl.1 rfl (Nat.le_of_ble_eq_true rfl) dL_law_1077 ⟨by show cells + mc ≤ 601024; omega, by show slots + ms ≤ 7293033; omega⟩ ?_
  refine lv_iload hx hb dL_law_1080 (lv_at hl 1 rfl) ?_
  refine zz_icmp_eq (tgt := 1087) hx hb (by omega) (by omega) dL_law_1082 (by decide) (fun _ => ?_) (fun q => absurd rfl q)
  refine lv_iload hx hb dL_law_1087 (lv_at hl 1 rfl) ?_
  refine zz_if_ne (tgt := 1104) hx hb (by omega) dL_law_1089 (by decide) (fun _ => ?_) (fun q => ?_)
  · refine lv_goto (tgt := 1411) hx hb dL_law_1104 (by decide) ?_
    exact hkk ls (lv_sub hl [2, 3, 4, 5, 6] rfl)
  · refine lv_aload_n hx hb dL_law_1092 rfl (lv_at hl 5 rfl) ?_
    refine lv_iconst (v := zi (0)) hx hb dL_law_1093 rfl ?_
    refine zz_lald hx hb hK hP 21 3 rfl rfl (0) (by omega) (by omega) (by decide) dL_law_1094 ?_
    rw [hz q]
    refine lv_iload hx hb dL_law_1095 (lv_at hl 0 rfl) ?_
    refine zz_i2lr hx hb dL_law_1097 ?_
    refine zz_lcmp_same (tgt := 1104) hx hb dL_law_1098 dL_law_1099 (by decide) ?_
    refine lv_goto (tgt := 1411) hx hb dL_law_1104 (by decide) ?_
    exact hkk ls (lv_sub hl [2, 3, 4, 5, 6] rfl)
set_option maxHeartbeats 4000000 in
set_option maxRecDepth 100000 in
theorem seg_circle {x0 pa ba ax ay sp ss vs fr m0 a1 a2 a3 a4 a5 a6 a7 a8 a9 a10 a11 ou : Nat} {cA cQ cZ cL : ClassId} {k bv : Int} (C : LC p s m c b9 L9 scr A (dC, dI) (tysL cA cQ cZ cL)) (hi : i9 + 4 ≤ L9) (hcl : cells + 3 ≤ 600000 ∧ slots + 29 ≤ 7000000) (hk : 0 ≤ k ∧ k ≤ 3) (hl : lv_has ls 8 [(0, .ref b9), (1, .ref x0), (2, .ref m0), (3, .ref ou), (4, .int (zi (i9 : Int)))]) (hP : va_P (dC, dI) vwCl ws H) (hD : va_D A ws) (hS : va_S A s.heap H locs)
    (h : HelpC l (dC, dI) (tysL cA cQ cZ cL) yL_circle (Cond.codeWith yL_circle cL_circle 4 (Option.some Jvm.ClassFile.FieldType.int) [((0 : Nat), (8 : Nat), (11 : Nat), (19 : Nat)), ((0 : Nat), (8 : Nat), (14 : Nat), (13 : Nat))]) [.ref x0, .int (zi ((scr (i9 + 1)).toInt)), .ref ou] k ws (fun ws1 => ModC l (dC, dI) (tysL cA cQ cZ cL) yX3_circle (Cond.code yX3_circle cX3_circle 2 ((Option.some Jvm.ClassFile.FieldType.long))) m0 [.int (zi ((scr (i9 + 1)).toInt))] (.long (zl (bv))) ws1 (fun ws2 => Fin9 x0 pa ba ax ay sp ss vs fr m0 a1 a2 a3 a4 a5 a6 a7 a8 a9 a10 a11 ou cA cQ cZ cL k (bv) ws2)))
    (kk : ∀ (k : Int) (z : Int) (ws2 : va_W) (H1 : Heap) (locs1 : List Loc) (ls1 : Array Slot), Fin9 x0 pa ba ax ay sp ss vs fr m0 a1 a2 a3 a4 a5 a6 a7 a8 a9 a10 a11 ou cA cQ cZ cL k z ws2 → va_P (dC, dI) vwCl ws2 H1 → va_D A ws2 → va_S A s.heap H1 locs1 → lv_has ls1 8 [(0, .ref b9), (1, .ref x0), (2, .ref m0), (3, .ref ou), (4, .int (zi (i9 : Int)))] → W p l e room_1 s m #[Value.ref b9] below meth c H1 locs1 (cells + 3) (slots + 29) Q (F0 m 1411 ls1 [])) : W p l e room_1 s m #[Value.ref b9] below meth c H locs (cells) (slots) Q (F0 m 1120 ls []) := by
  obtain ⟨hx, hb, hml, hown, hg, hX, hbl, hbA, hA, hK, hXA, hL⟩ := C
  obtain ⟨rm, tys, is, wc, wr, F, mc, ms, hM, hty, hp, hrc, hrs, hmc, hms, hfr, hlo, hG⟩ := h
  refine lv_aload_n hx hb dL_law_1120 rfl (lv_at hl 1 rfl) ?_
  refine lv_aload_n hx hb dL_law_1121 rfl (lv_at hl 0 rfl) ?_
  refine lv_iload hx hb dL_law_1122 (lv_at hl 4 rfl) ?_
  refine lv_iconst (v := zi (1)) hx hb dL_law_1124 rfl ?_
  refine zz_iadd hx hb dL_law_1125 ?_
  refine zz_sld hx hb hX hbl hbA hS (i9 + 1) (by omega) (by omega) (by omega) dL_law_1126 ?_
  refine lv_aload_n hx hb dL_law_1127 rfl (lv_at hl 3 rfl) ?_
  refine lwS (n := 3) (rest := []) hx hb hml hown hg (hM H.size) wl_L_140 wt_L_circle wi_L wc_L_circle hrc hrs (by decide +kernel) ⟨by show rm.frames + 1 ≤ 11; omega, by show 8 + (4 + 11) + rm.locals ≤ 424; omega⟩ (hK.sub is hty) (hXA H locs hS) hP hD hS hA hp rfl hl.1 rfl (Nat.le_of_ble_eq_true rfl) dL_law_1128 ⟨by show cells + mc ≤ 601024; omega, by show slots + ms ≤ 7293033; omega⟩ (fun w1 H1 locs1 hF hP hD hS => ?_)
  refine lv_istore (lv' := [(5, .int (zi (k))), (0, .ref b9), (1, .ref x0), (2, .ref m0), (3, .ref ou), (4, .int (zi (i9 : Int)))]) hx hb dL_law_1131 hl (by decide) rfl (fun ls hl => ?_)
  obtain ⟨rm2, ty2, is2, wc2, wr2, w2, fs2, hM2, hty2, hp2, hrc2, hrs2, hfr2, hlo2, hfst, hm0, hFin⟩ := hG w1 hF
  refine lv_aload_n hx hb dL_law_1133 rfl (lv_at hl 3 rfl) ?_
  refine lv_aload_n hx hb dL_law_1134 rfl (lv_at hl 1 rfl) ?_
  refine lv_iload hx hb dL_law_1135 (lv_at hl 5 rfl) ?_
  refine lv_iconst (v := zi (1)) hx hb dL_law_1137 rfl ?_
  refine zz_iadd hx hb dL_law_1138 ?_
  refine zz_sld hx hb hX hbl hbA hS (i9 + 1) (by omega) (by omega) (by omega) dL_law_1139 ?_
  refine lwV (n := 1) (rest := []) hx hb hml hown hg (hM2 H1.size) (gwV wl_L_142 wm_X3_circle we_X3_circle wi_X3 wc_X3_circle) hrc2 hrs2 (by decide +kernel) ⟨by show rm2.frames + 1 ≤ 11; omega, by show 8 + (2 + 11) + rm2.locals ≤ 424; omega⟩ (hK.sub is2 hty2) hP hD hS hA hp2 hfst 0 hm0 rfl rfl rfl hl.1 rfl (Nat.le_of_ble_eq_true rfl) dL_law_1140 ⟨by show cells + mc ≤ 601024; omega, by show slots + ms ≤ 7293033; omega⟩ (fun H1 locs1 hP hD hS => ?_)
  refine lv_lstore (lv' := [(6, .long (zl (bv))), (5, .int (zi (k))), (0, .ref b9), (1, .ref x0), (2, .ref m0), (3, .ref ou), (4, .int (zi (i9 : Int)))]) hx hb dL_law_1143 hl (by decide) rfl (fun ls hl => ?_)
  have hkk : ∀ ls1 : Array Slot, lv_has ls1 8 [(0, .ref b9), (1, .ref x0), (2, .ref m0), (3, .ref ou), (4, .int (zi (i9 : Int)))] → W p l e room_1 s m #[Value.ref b9] below meth c H1 locs1 (cells + mc) (slots + ms) Q (F0 m 1411 ls1 []) := fun ls1 h1 => W.widen (show cells + mc ≤ cells + 3 by omega) (show slots + ms ≤ slots + 29 by omega) (kk k _ _ H1 locs1 ls1 hFin hP hD hS h1)
  obtain ⟨pool, pn, bn, ln, sn, pf, bs, xs, ys, spf, ssf, vf, sf, hh, rr, cf, wf, of, a, b, ab, be, hInv, hz, hperm⟩ := hFin
  have hP := va_Pp hperm hP
  refine lv_aload_n hx hb dL_law_1145 rfl (lv_at hl 4 rfl) ?_
  refine rdV (As := []) (rest := []) (n := 0) hx hb hml hown hg (c_X3_thrown l dC dI m0 a1 a2 a3 a4 a5 a6 a7 a8 a9 a10 a11 k ab be pn bn ln sn) (gwV wl_L_91 wm_X3_thrown we_X3_thrown wi_X3 wc_X3_thrown) rfl rfl (by decide +kernel) ⟨(Nat.le_of_ble_eq_true rfl), (Nat.le_of_ble_eq_true rfl)⟩ (hK.sub [] rfl) (hP.sub [9] rfl) 0 rfl rfl rfl rfl hl.1 rfl (Nat.le_of_ble_eq_true rfl) dL_law_1146 ⟨by show cells + mc ≤ 601024; omega, by show slots + ms ≤ 7293033; omega⟩ ?_
  refine lv_iload hx hb dL_law_1149 (lv_at hl 1 rfl) ?_
  refine zz_icmp_eq (tgt := 1156) hx hb (by omega) (by omega) dL_law_1151 (by decide) (fun _ => ?_) (fun q => absurd rfl q)
  refine lv_iload hx hb dL_law_1156 (lv_at hl 1 rfl) ?_
  refine zz_if_ne (tgt := 1172) hx hb (by omega) dL_law_1158 (by decide) (fun _ => ?_) (fun q => ?_)
  · refine lv_goto (tgt := 1411) hx hb dL_law_1172 (by decide) ?_
    exact hkk ls (lv_sub hl [2, 3, 4, 5, 6] rfl)
  · refine lv_aload_n hx hb dL_law_1161 rfl (lv_at hl 5 rfl) ?_
    refine lv_iconst (v := zi (0)) hx hb dL_law_1162 rfl ?_
    refine zz_lald hx hb hK hP 21 3 rfl rfl (0) (by omega) (by omega) (by decide) dL_law_1163 ?_
    rw [hz q]
    refine lv_lload hx hb dL_law_1164 (lv_at hl 0 rfl) ?_
    refine zz_lcmp_same (tgt := 1172) hx hb dL_law_1166 dL_law_1167 (by decide) ?_
    refine lv_goto (tgt := 1411) hx hb dL_law_1172 (by decide) ?_
    exact hkk ls (lv_sub hl [2, 3, 4, 5, 6] rfl)
set_option maxHeartbeats 4000000 in
set_option maxRecDepth 100000 in
theorem seg_curve {x0 pa ba ax ay sp ss vs fr m0 a1 a2 a3 a4 a5 a6 a7 a8 a9 a10 a11 ou : Nat} {cA cQ cZ cL : ClassId} {k bv : Int} (C : LC p s m c b9 L9 scr A (dC, dI) (tysL cA cQ cZ cL)) (hi : i9 + 4 ≤ L9) (hcl : cells + 3 ≤ 600000 ∧ slots + 29 ≤ 7000000) (hk : 0 ≤ k ∧ k ≤ 3) (hl : lv_has ls 8 [(0, .ref b9), (1, .ref x0), (2, .ref m0), (3, .ref ou), (4, .int (zi (i9 : Int)))]) (hP : va_P (dC, dI) vwCl ws H) (hD : va_D A ws) (hS : va_S A s.heap H locs)
    (h : HelpC l (dC, dI) (tysL cA cQ cZ cL) yL_curve (Cond.codeWith yL_curve cL_curve 3 (Option.some Jvm.ClassFile.FieldType.int) [((0 : Nat), (8 : Nat), (11 : Nat), (13 : Nat))]) [.ref x0, .ref ou] k ws (fun ws1 => ModC l (dC, dI) (tysL cA cQ cZ cL) yX3_curve (Cond.code yX3_curve cX3_curve 7 ((Option.some Jvm.ClassFile.FieldType.int))) m0 [] (.int (zi (bv))) ws1 (fun ws2 => Fin9 x0 pa ba ax ay sp ss vs fr m0 a1 a2 a3 a4 a5 a6 a7 a8 a9 a10 a11 ou cA cQ cZ cL k ((zi (bv)).toInt) ws2)))
    (kk : ∀ (k : Int) (z : Int) (ws2 : va_W) (H1 : Heap) (locs1 : List Loc) (ls1 : Array Slot), Fin9 x0 pa ba ax ay sp ss vs fr m0 a1 a2 a3 a4 a5 a6 a7 a8 a9 a10 a11 ou cA cQ cZ cL k z ws2 → va_P (dC, dI) vwCl ws2 H1 → va_D A ws2 → va_S A s.heap H1 locs1 → lv_has ls1 8 [(0, .ref b9), (1, .ref x0), (2, .ref m0), (3, .ref ou), (4, .int (zi (i9 : Int)))] → W p l e room_1 s m #[Value.ref b9] below meth c H1 locs1 (cells + 3) (slots + 29) Q (F0 m 1411 ls1 [])) : W p l e room_1 s m #[Value.ref b9] below meth c H locs (cells) (slots) Q (F0 m 1175 ls []) := by
  obtain ⟨hx, hb, hml, hown, hg, hX, hbl, hbA, hA, hK, hXA, hL⟩ := C
  obtain ⟨rm, tys, is, wc, wr, F, mc, ms, hM, hty, hp, hrc, hrs, hmc, hms, hfr, hlo, hG⟩ := h
  refine lv_aload_n hx hb dL_law_1175 rfl (lv_at hl 1 rfl) ?_
  refine lv_aload_n hx hb dL_law_1176 rfl (lv_at hl 3 rfl) ?_
  refine lwS (n := 2) (rest := []) hx hb hml hown hg (hM H.size) wl_L_143 wt_L_curve wi_L wc_L_curve hrc hrs (by decide +kernel) ⟨by show rm.frames + 1 ≤ 11; omega, by show 8 + (3 + 11) + rm.locals ≤ 424; omega⟩ (hK.sub is hty) (hXA H locs hS) hP hD hS hA hp rfl hl.1 rfl (Nat.le_of_ble_eq_true rfl) dL_law_1177 ⟨by show cells + mc ≤ 601024; omega, by show slots + ms ≤ 7293033; omega⟩ (fun w1 H1 locs1 hF hP hD hS => ?_)
  refine lv_istore (lv' := [(5, .int (zi (k))), (0, .ref b9), (1, .ref x0), (2, .ref m0), (3, .ref ou), (4, .int (zi (i9 : Int)))]) hx hb dL_law_1180 hl (by decide) rfl (fun ls hl => ?_)
  obtain ⟨rm2, ty2, is2, wc2, wr2, w2, fs2, hM2, hty2, hp2, hrc2, hrs2, hfr2, hlo2, hfst, hm0, hFin⟩ := hG w1 hF
  refine lv_aload_n hx hb dL_law_1182 rfl (lv_at hl 3 rfl) ?_
  refine lwV (n := 0) (rest := []) hx hb hml hown hg (hM2 H1.size) (gwV wl_L_145 wm_X3_curve we_X3_curve wi_X3 wc_X3_curve) hrc2 hrs2 (by decide +kernel) ⟨by show rm2.frames + 1 ≤ 11; omega, by show 8 + (7 + 11) + rm2.locals ≤ 424; omega⟩ (hK.sub is2 hty2) hP hD hS hA hp2 hfst 0 hm0 rfl rfl rfl hl.1 rfl (Nat.le_of_ble_eq_true rfl) dL_law_1183 ⟨by show cells + mc ≤ 601024; omega, by show slots + ms ≤ 7293033; omega⟩ (fun H1 locs1 hP hD hS => ?_)
  refine lv_istore (lv' := [(6, .int (zi (bv))), (5, .int (zi (k))), (0, .ref b9), (1, .ref x0), (2, .ref m0), (3, .ref ou), (4, .int (zi (i9 : Int)))]) hx hb dL_law_1186 hl (by decide) rfl (fun ls hl => ?_)
  have hkk : ∀ ls1 : Array Slot, lv_has ls1 8 [(0, .ref b9), (1, .ref x0), (2, .ref m0), (3, .ref ou), (4, .int (zi (i9 : Int)))] → W p l e room_1 s m #[Value.ref b9] below meth c H1 locs1 (cells + mc) (slots + ms) Q (F0 m 1411 ls1 []) := fun ls1 h1 => W.widen (show cells + mc ≤ cells + 3 by omega) (show slots + ms ≤ slots + 29 by omega) (kk k _ _ H1 locs1 ls1 hFin hP hD hS h1)
  obtain ⟨pool, pn, bn, ln, sn, pf, bs, xs, ys, spf, ssf, vf, sf, hh, rr, cf, wf, of, a, b, ab, be, hInv, hz, hperm⟩ := hFin
  have hP := va_Pp hperm hP
  refine lv_aload_n hx hb dL_law_1188 rfl (lv_at hl 4 rfl) ?_
  refine rdV (As := []) (rest := []) (n := 0) hx hb hml hown hg (c_X3_thrown l dC dI m0 a1 a2 a3 a4 a5 a6 a7 a8 a9 a10 a11 k ab be pn bn ln sn) (gwV wl_L_91 wm_X3_thrown we_X3_thrown wi_X3 wc_X3_thrown) rfl rfl (by decide +kernel) ⟨(Nat.le_of_ble_eq_true rfl), (Nat.le_of_ble_eq_true rfl)⟩ (hK.sub [] rfl) (hP.sub [9] rfl) 0 rfl rfl rfl rfl hl.1 rfl (Nat.le_of_ble_eq_true rfl) dL_law_1189 ⟨by show cells + mc ≤ 601024; omega, by show slots + ms ≤ 7293033; omega⟩ ?_
  refine lv_iload hx hb dL_law_1192 (lv_at hl 1 rfl) ?_
  refine zz_icmp_eq (tgt := 1199) hx hb (by omega) (by omega) dL_law_1194 (by decide) (fun _ => ?_) (fun q => absurd rfl q)
  refine lv_iload hx hb dL_law_1199 (lv_at hl 1 rfl) ?_
  refine zz_if_ne (tgt := 1216) hx hb (by omega) dL_law_1201 (by decide) (fun _ => ?_) (fun q => ?_)
  · refine lv_goto (tgt := 1411) hx hb dL_law_1216 (by decide) ?_
    exact hkk ls (lv_sub hl [2, 3, 4, 5, 6] rfl)
  · refine lv_aload_n hx hb dL_law_1204 rfl (lv_at hl 5 rfl) ?_
    refine lv_iconst (v := zi (0)) hx hb dL_law_1205 rfl ?_
    refine zz_lald hx hb hK hP 21 3 rfl rfl (0) (by omega) (by omega) (by decide) dL_law_1206 ?_
    rw [hz q]
    refine lv_iload hx hb dL_law_1207 (lv_at hl 0 rfl) ?_
    refine zz_i2lr hx hb dL_law_1209 ?_
    refine zz_lcmp_same (tgt := 1216) hx hb dL_law_1210 dL_law_1211 (by decide) ?_
    refine lv_goto (tgt := 1411) hx hb dL_law_1216 (by decide) ?_
    exact hkk ls (lv_sub hl [2, 3, 4, 5, 6] rfl)
set_option maxHeartbeats 4000000 in
set_option maxRecDepth 100000 in
theorem seg_sherd {x0 pa ba ax ay sp ss vs fr m0 a1 a2 a3 a4 a5 a6 a7 a8 a9 a10 a11 ou : Nat} {cA cQ cZ cL : ClassId} {k bv : Int} (C : LC p s m c b9 L9 scr A (dC, dI) (tysL cA cQ cZ cL)) (hi : i9 + 4 ≤ L9) (hcl : cells + 3 ≤ 600000 ∧ slots + 29 ≤ 7000000) (hk : 0 ≤ k ∧ k ≤ 3) (hl : lv_has ls 8 [(0, .ref b9), (1, .ref x0), (2, .ref m0), (3, .ref ou), (4, .int (zi (i9 : Int)))]) (hP : va_P (dC, dI) vwCl ws H) (hD : va_D A ws) (hS : va_S A s.heap H locs)
    (h : HelpC l (dC, dI) (tysL cA cQ cZ cL) yL_sherd (Cond.codeWith yL_sherd cL_sherd 5 (Option.some Jvm.ClassFile.FieldType.int) [((0 : Nat), (10 : Nat), (13 : Nat), (19 : Nat)), ((0 : Nat), (10 : Nat), (17 : Nat), (21 : Nat)), ((0 : Nat), (10 : Nat), (21 : Nat), (13 : Nat))]) [.ref x0, .int (zi ((scr (i9 + 1)).toInt)), .int (zi ((scr (i9 + 2)).toInt)), .ref ou] k ws (fun ws1 => ModC l (dC, dI) (tysL cA cQ cZ cL) yX3_sherd (Cond.code yX3_sherd cX3_sherd 3 ((Option.some Jvm.ClassFile.FieldType.int))) m0 [.int (zi ((scr (i9 + 1)).toInt)), .int (zi ((scr (i9 + 2)).toInt))] (.int (zi (bv))) ws1 (fun ws2 => Fin9 x0 pa ba ax ay sp ss vs fr m0 a1 a2 a3 a4 a5 a6 a7 a8 a9 a10 a11 ou cA cQ cZ cL k ((zi (bv)).toInt) ws2)))
    (kk : ∀ (k : Int) (z : Int) (ws2 : va_W) (H1 : Heap) (locs1 : List Loc) (ls1 : Array Slot), Fin9 x0 pa ba ax ay sp ss vs fr m0 a1 a2 a3 a4 a5 a6 a7 a8 a9 a10 a11 ou cA cQ cZ cL k z ws2 → va_P (dC, dI) vwCl ws2 H1 → va_D A ws2 → va_S A s.heap H1 locs1 → lv_has ls1 8 [(0, .ref b9), (1, .ref x0), (2, .ref m0), (3, .ref ou), (4, .int (zi (i9 : Int)))] → W p l e room_1 s m #[Value.ref b9] below meth c H1 locs1 (cells + 3) (slots + 29) Q (F0 m 1411 ls1 [])) : W p l e room_1 s m #[Value.ref b9] below meth c H locs (cells) (slots) Q (F0 m 1219 ls []) := by
  obtain ⟨hx, hb, hml, hown, hg, hX, hbl, hbA, hA, hK, hXA, hL⟩ := C
  obtain ⟨rm, tys, is, wc, wr, F, mc, ms, hM, hty, hp, hrc, hrs, hmc, hms, hfr, hlo, hG⟩ := h
  refine lv_aload_n hx hb dL_law_1219 rfl (lv_at hl 1 rfl) ?_
  refine lv_aload_n hx hb dL_law_1220 rfl (lv_at hl 0 rfl) ?_
  refine lv_iload hx hb dL_law_1221 (lv_at hl 4 rfl) ?_
  refine lv_iconst (v := zi (1)) hx hb dL_law_1223 rfl ?_
  refine zz_iadd hx hb dL_law_1224 ?_
  refine zz_sld hx hb hX hbl hbA hS (i9 + 1) (by omega) (by omega) (by omega) dL_law_1225 ?_
  refine lv_aload_n hx hb dL_law_1226 rfl (lv_at hl 0 rfl) ?_
  refine lv_iload hx hb dL_law_1227 (lv_at hl 4 rfl) ?_
  refine lv_iconst (v := zi (2)) hx hb dL_law_1229 rfl ?_
  refine zz_iadd hx hb dL_law_1230 ?_
  refine zz_sld hx hb hX hbl hbA hS (i9 + 2) (by omega) (by omega) (by omega) dL_law_1231 ?_
  refine lv_aload_n hx hb dL_law_1232 rfl (lv_at hl 3 rfl) ?_
  refine lwS (n := 4) (rest := []) hx hb hml hown hg (hM H.size) wl_L_146 wt_L_sherd wi_L wc_L_sherd hrc hrs (by decide +kernel) ⟨by show rm.frames + 1 ≤ 11; omega, by show 8 + (5 + 11) + rm.locals ≤ 424; omega⟩ (hK.sub is hty) (hXA H locs hS) hP hD hS hA hp rfl hl.1 rfl (Nat.le_of_ble_eq_true rfl) dL_law_1233 ⟨by show cells + mc ≤ 601024; omega, by show slots + ms ≤ 7293033; omega⟩ (fun w1 H1 locs1 hF hP hD hS => ?_)
  refine lv_istore (lv' := [(5, .int (zi (k))), (0, .ref b9), (1, .ref x0), (2, .ref m0), (3, .ref ou), (4, .int (zi (i9 : Int)))]) hx hb dL_law_1236 hl (by decide) rfl (fun ls hl => ?_)
  obtain ⟨rm2, ty2, is2, wc2, wr2, w2, fs2, hM2, hty2, hp2, hrc2, hrs2, hfr2, hlo2, hfst, hm0, hFin⟩ := hG w1 hF
  refine lv_aload_n hx hb dL_law_1238 rfl (lv_at hl 3 rfl) ?_
  refine lv_aload_n hx hb dL_law_1239 rfl (lv_at hl 1 rfl) ?_
  refine lv_iload hx hb dL_law_1240 (lv_at hl 5 rfl) ?_
  refine lv_iconst (v := zi (1)) hx hb dL_law_1242 rfl ?_
  refine zz_iadd hx hb dL_law_1243 ?_
  refine zz_sld hx hb hX hbl hbA hS (i9 + 1) (by omega) (by omega) (by omega) dL_law_1244 ?_
  refine lv_aload_n hx hb dL_law_1245 rfl (lv_at hl 1 rfl) ?_
  refine lv_iload hx hb dL_law_1246 (lv_at hl 5 rfl) ?_
  refine lv_iconst (v := zi (2)) hx hb dL_law_1248 rfl ?_
  refine zz_iadd hx hb dL_law_1249 ?_
  refine zz_sld hx hb hX hbl hbA hS (i9 + 2) (by omega) (by omega) (by omega) dL_law_1250 ?_
  refine lwV (n := 2) (rest := []) hx hb hml hown hg (hM2 H1.size) (gwV wl_L_148 wm_X3_sherd we_X3_sherd wi_X3 wc_X3_sherd) hrc2 hrs2 (by decide +kernel) ⟨by show rm2.frames + 1 ≤ 11; omega, by show 8 + (3 + 11) + rm2.locals ≤ 424; omega⟩ (hK.sub is2 hty2) hP hD hS hA hp2 hfst 0 hm0 rfl rfl rfl hl.1 rfl (Nat.le_of_ble_eq_true rfl) dL_law_1251 ⟨by show cells + mc ≤ 601024; omega, by show slots + ms ≤ 7293033; omega⟩ (fun H1 locs1 hP hD hS => ?_)
  refine lv_istore (lv' := [(6, .int (zi (bv))), (5, .int (zi (k))), (0, .ref b9), (1, .ref x0), (2, .ref m0), (3, .ref ou), (4, .int (zi (i9 : Int)))]) hx hb dL_law_1254 hl (by decide) rfl (fun ls hl => ?_)
  have hkk : ∀ ls1 : Array Slot, lv_has ls1 8 [(0, .ref b9), (1, .ref x0), (2, .ref m0), (3, .ref ou), (4, .int (zi (i9 : Int)))] → W p l e room_1 s m #[Value.ref b9] below meth c H1 locs1 (cells + mc) (slots + ms) Q (F0 m 1411 ls1 []) := fun ls1 h1 => W.widen (show cells + mc ≤ cells + 3 by omega) (show slots + ms ≤ slots + 29 by omega) (kk k _ _ H1 locs1 ls1 hFin hP hD hS h1)
  obtain ⟨pool, pn, bn, ln, sn, pf, bs, xs, ys, spf, ssf, vf, sf, hh, rr, cf, wf, of, a, b, ab, be, hInv, hz, hperm⟩ := hFin
  have hP := va_Pp hperm hP
  refine lv_aload_n hx hb dL_law_1256 rfl (lv_at hl 4 rfl) ?_
  refine rdV (As := []) (rest := []) (n := 0) hx hb hml hown hg (c_X3_thrown l dC dI m0 a1 a2 a3 a4 a5 a6 a7 a8 a9 a10 a11 k ab be pn bn ln sn) (gwV wl_L_91 wm_X3_thrown we_X3_thrown wi_X3 wc_X3_thrown) rfl rfl (by decide +kernel) ⟨(Nat.le_of_ble_eq_true rfl), (Nat.le_of_ble_eq_true rfl)⟩ (hK.sub [] rfl) (hP.sub [9] rfl) 0 rfl rfl rfl rfl hl.1 rfl (Nat.le_of_ble_eq_true rfl) dL_law_1257 ⟨by show cells + mc ≤ 601024; omega, by show slots + ms ≤ 7293033; omega⟩ ?_
  refine lv_iload hx hb dL_law_1260 (lv_at hl 1 rfl) ?_
  refine zz_icmp_eq (tgt := 1267) hx hb (by omega) (by omega) dL_law_1262 (by decide) (fun _ => ?_) (fun q => absurd rfl q)
  refine lv_iload hx hb dL_law_1267 (lv_at hl 1 rfl) ?_
  refine zz_if_ne (tgt := 1284) hx hb (by omega) dL_law_1269 (by decide) (fun _ => ?_) (fun q => ?_)
  · refine lv_goto (tgt := 1411) hx hb dL_law_1284 (by decide) ?_
    exact hkk ls (lv_sub hl [2, 3, 4, 5, 6] rfl)
  · refine lv_aload_n hx hb dL_law_1272 rfl (lv_at hl 5 rfl) ?_
    refine lv_iconst (v := zi (0)) hx hb dL_law_1273 rfl ?_
    refine zz_lald hx hb hK hP 21 3 rfl rfl (0) (by omega) (by omega) (by decide) dL_law_1274 ?_
    rw [hz q]
    refine lv_iload hx hb dL_law_1275 (lv_at hl 0 rfl) ?_
    refine zz_i2lr hx hb dL_law_1277 ?_
    refine zz_lcmp_same (tgt := 1284) hx hb dL_law_1278 dL_law_1279 (by decide) ?_
    refine lv_goto (tgt := 1411) hx hb dL_law_1284 (by decide) ?_
    exact hkk ls (lv_sub hl [2, 3, 4, 5, 6] rfl)
set_option maxHeartbeats 4000000 in
set_option maxRecDepth 100000 in
theorem seg_vessels {x0 pa ba ax ay sp ss vs fr m0 a1 a2 a3 a4 a5 a6 a7 a8 a9 a10 a11 ou : Nat} {cA cQ cZ cL : ClassId} {k bv : Int} (C : LC p s m c b9 L9 scr A (dC, dI) (tysL cA cQ cZ cL)) (hi : i9 + 4 ≤ L9) (hcl : cells + 3 ≤ 600000 ∧ slots + 29 ≤ 7000000) (hk : 0 ≤ k ∧ k ≤ 3) (hl : lv_has ls 8 [(0, .ref b9), (1, .ref x0), (2, .ref m0), (3, .ref ou), (4, .int (zi (i9 : Int)))]) (hP : va_P (dC, dI) vwCl ws H) (hD : va_D A ws) (hS : va_S A s.heap H locs)
    (h : HelpC l (dC, dI) (tysL cA cQ cZ cL) yL_vessels (Cond.codeWith yL_vessels cL_vessels 5 (Option.some Jvm.ClassFile.FieldType.int) [((0 : Nat), (10 : Nat), (13 : Nat), (19 : Nat))]) [.ref x0, .int (zi ((scr (i9 + 1)).toInt)), .int (zi ((scr (i9 + 2)).toInt)), .ref ou] k ws (fun ws1 => ModC l (dC, dI) (tysL cA cQ cZ cL) yX3_vessels (Cond.code yX3_vessels cX3_vessels 6 ((Option.some Jvm.ClassFile.FieldType.int))) m0 [.int (zi ((scr (i9 + 1)).toInt)), .int (zi ((scr (i9 + 2)).toInt))] (.int (zi (bv))) ws1 (fun ws2 => Fin9 x0 pa ba ax ay sp ss vs fr m0 a1 a2 a3 a4 a5 a6 a7 a8 a9 a10 a11 ou cA cQ cZ cL k ((zi (bv)).toInt) ws2)))
    (kk : ∀ (k : Int) (z : Int) (ws2 : va_W) (H1 : Heap) (locs1 : List Loc) (ls1 : Array Slot), Fin9 x0 pa ba ax ay sp ss vs fr m0 a1 a2 a3 a4 a5 a6 a7 a8 a9 a10 a11 ou cA cQ cZ cL k z ws2 → va_P (dC, dI) vwCl ws2 H1 → va_D A ws2 → va_S A s.heap H1 locs1 → lv_has ls1 8 [(0, .ref b9), (1, .ref x0), (2, .ref m0), (3, .ref ou), (4, .int (zi (i9 : Int)))] → W p l e room_1 s m #[Value.ref b9] below meth c H1 locs1 (cells + 3) (slots + 29) Q (F0 m 1411 ls1 [])) : W p l e room_1 s m #[Value.ref b9] below meth c H locs (cells) (slots) Q (F0 m 1287 ls []) := by
  obtain ⟨hx, hb, hml, hown, hg, hX, hbl, hbA, hA, hK, hXA, hL⟩ := C
  obtain ⟨rm, tys, is, wc, wr, F, mc, ms, hM, hty, hp, hrc, hrs, hmc, hms, hfr, hlo, hG⟩ := h
  refine lv_aload_n hx hb dL_law_1287 rfl (lv_at hl 1 rfl) ?_
  refine lv_aload_n hx hb dL_law_1288 rfl (lv_at hl 0 rfl) ?_
  refine lv_iload hx hb dL_law_1289 (lv_at hl 4 rfl) ?_
  refine lv_iconst (v := zi (1)) hx hb dL_law_1291 rfl ?_
  refine zz_iadd hx hb dL_law_1292 ?_
  refine zz_sld hx hb hX hbl hbA hS (i9 + 1) (by omega) (by omega) (by omega) dL_law_1293 ?_
  refine lv_aload_n hx hb dL_law_1294 rfl (lv_at hl 0 rfl) ?_
  refine lv_iload hx hb dL_law_1295 (lv_at hl 4 rfl) ?_
  refine lv_iconst (v := zi (2)) hx hb dL_law_1297 rfl ?_
  refine zz_iadd hx hb dL_law_1298 ?_
  refine zz_sld hx hb hX hbl hbA hS (i9 + 2) (by omega) (by omega) (by omega) dL_law_1299 ?_
  refine lv_aload_n hx hb dL_law_1300 rfl (lv_at hl 3 rfl) ?_
  refine lwS (n := 4) (rest := []) hx hb hml hown hg (hM H.size) wl_L_149 wt_L_vessels wi_L wc_L_vessels hrc hrs (by decide +kernel) ⟨by show rm.frames + 1 ≤ 11; omega, by show 8 + (5 + 11) + rm.locals ≤ 424; omega⟩ (hK.sub is hty) (hXA H locs hS) hP hD hS hA hp rfl hl.1 rfl (Nat.le_of_ble_eq_true rfl) dL_law_1301 ⟨by show cells + mc ≤ 601024; omega, by show slots + ms ≤ 7293033; omega⟩ (fun w1 H1 locs1 hF hP hD hS => ?_)
  refine lv_istore (lv' := [(5, .int (zi (k))), (0, .ref b9), (1, .ref x0), (2, .ref m0), (3, .ref ou), (4, .int (zi (i9 : Int)))]) hx hb dL_law_1304 hl (by decide) rfl (fun ls hl => ?_)
  obtain ⟨rm2, ty2, is2, wc2, wr2, w2, fs2, hM2, hty2, hp2, hrc2, hrs2, hfr2, hlo2, hfst, hm0, hFin⟩ := hG w1 hF
  refine lv_aload_n hx hb dL_law_1306 rfl (lv_at hl 3 rfl) ?_
  refine lv_aload_n hx hb dL_law_1307 rfl (lv_at hl 1 rfl) ?_
  refine lv_iload hx hb dL_law_1308 (lv_at hl 5 rfl) ?_
  refine lv_iconst (v := zi (1)) hx hb dL_law_1310 rfl ?_
  refine zz_iadd hx hb dL_law_1311 ?_
  refine zz_sld hx hb hX hbl hbA hS (i9 + 1) (by omega) (by omega) (by omega) dL_law_1312 ?_
  refine lv_aload_n hx hb dL_law_1313 rfl (lv_at hl 1 rfl) ?_
  refine lv_iload hx hb dL_law_1314 (lv_at hl 5 rfl) ?_
  refine lv_iconst (v := zi (2)) hx hb dL_law_1316 rfl ?_
  refine zz_iadd hx hb dL_law_1317 ?_
  refine zz_sld hx hb hX hbl hbA hS (i9 + 2) (by omega) (by omega) (by omega) dL_law_1318 ?_
  refine lwV (n := 2) (rest := []) hx hb hml hown hg (hM2 H1.size) (gwV wl_L_151 wm_X3_vessels we_X3_vessels wi_X3 wc_X3_vessels) hrc2 hrs2 (by decide +kernel) ⟨by show rm2.frames + 1 ≤ 11; omega, by show 8 + (6 + 11) + rm2.locals ≤ 424; omega⟩ (hK.sub is2 hty2) hP hD hS hA hp2 hfst 0 hm0 rfl rfl rfl hl.1 rfl (Nat.le_of_ble_eq_true rfl) dL_law_1319 ⟨by show cells + mc ≤ 601024; omega, by show slots + ms ≤ 7293033; omega⟩ (fun H1 locs1 hP hD hS => ?_)
  refine lv_istore (lv' := [(6, .int (zi (bv))), (5, .int (zi (k))), (0, .ref b9), (1, .ref x0), (2, .ref m0), (3, .ref ou), (4, .int (zi (i9 : Int)))]) hx hb dL_law_1322 hl (by decide) rfl (fun ls hl => ?_)
  have hkk : ∀ ls1 : Array Slot, lv_has ls1 8 [(0, .ref b9), (1, .ref x0), (2, .ref m0), (3, .ref ou), (4, .int (zi (i9 : Int)))] → W p l e room_1 s m #[Value.ref b9] below meth c H1 locs1 (cells + mc) (slots + ms) Q (F0 m 1411 ls1 []) := fun ls1 h1 => W.widen (show cells + mc ≤ cells + 3 by omega) (show slots + ms ≤ slots + 29 by omega) (kk k _ _ H1 locs1 ls1 hFin hP hD hS h1)
  obtain ⟨pool, pn, bn, ln, sn, pf, bs, xs, ys, spf, ssf, vf, sf, hh, rr, cf, wf, of, a, b, ab, be, hInv, hz, hperm⟩ := hFin
  have hP := va_Pp hperm hP
  refine lv_aload_n hx hb dL_law_1324 rfl (lv_at hl 4 rfl) ?_
  refine rdV (As := []) (rest := []) (n := 0) hx hb hml hown hg (c_X3_thrown l dC dI m0 a1 a2 a3 a4 a5 a6 a7 a8 a9 a10 a11 k ab be pn bn ln sn) (gwV wl_L_91 wm_X3_thrown we_X3_thrown wi_X3 wc_X3_thrown) rfl rfl (by decide +kernel) ⟨(Nat.le_of_ble_eq_true rfl), (Nat.le_of_ble_eq_true rfl)⟩ (hK.sub [] rfl) (hP.sub [9] rfl) 0 rfl rfl rfl rfl hl.1 rfl (Nat.le_of_ble_eq_true rfl) dL_law_1325 ⟨by show cells + mc ≤ 601024; omega, by show slots + ms ≤ 7293033; omega⟩ ?_
  refine lv_iload hx hb dL_law_1328 (lv_at hl 1 rfl) ?_
  refine zz_icmp_eq (tgt := 1335) hx hb (by omega) (by omega) dL_law_1330 (by decide) (fun _ => ?_) (fun q => absurd rfl q)
  refine lv_iload hx hb dL_law_1335 (lv_at hl 1 rfl) ?_
  refine zz_if_ne (tgt := 1352) hx hb (by omega) dL_law_1337 (by decide) (fun _ => ?_) (fun q => ?_)
  · refine lv_goto (tgt := 1411) hx hb dL_law_1352 (by decide) ?_
    exact hkk ls (lv_sub hl [2, 3, 4, 5, 6] rfl)
  · refine lv_aload_n hx hb dL_law_1340 rfl (lv_at hl 5 rfl) ?_
    refine lv_iconst (v := zi (0)) hx hb dL_law_1341 rfl ?_
    refine zz_lald hx hb hK hP 21 3 rfl rfl (0) (by omega) (by omega) (by decide) dL_law_1342 ?_
    rw [hz q]
    refine lv_iload hx hb dL_law_1343 (lv_at hl 0 rfl) ?_
    refine zz_i2lr hx hb dL_law_1345 ?_
    refine zz_lcmp_same (tgt := 1352) hx hb dL_law_1346 dL_law_1347 (by decide) ?_
    refine lv_goto (tgt := 1411) hx hb dL_law_1352 (by decide) ?_
    exact hkk ls (lv_sub hl [2, 3, 4, 5, 6] rfl)
set_option maxHeartbeats 4000000 in
set_option maxRecDepth 100000 in
theorem seg_count {x0 pa ba ax ay sp ss vs fr m0 a1 a2 a3 a4 a5 a6 a7 a8 a9 a10 a11 ou : Nat} {cA cQ cZ cL : ClassId} {k bv : Int} (C : LC p s m c b9 L9 scr A (dC, dI) (tysL cA cQ cZ cL)) (hi : i9 + 4 ≤ L9) (hcl : cells + 3 ≤ 600000 ∧ slots + 29 ≤ 7000000) (hk : 0 ≤ k ∧ k ≤ 3) (hl : lv_has ls 8 [(0, .ref b9), (1, .ref x0), (2, .ref m0), (3, .ref ou), (4, .int (zi (i9 : Int)))]) (hP : va_P (dC, dI) vwCl ws H) (hD : va_D A ws) (hS : va_S A s.heap H locs)
    (h : HelpC l (dC, dI) (tysL cA cQ cZ cL) yL_count (Cond.codeWith yL_count cL_count 4 (Option.some Jvm.ClassFile.FieldType.int) [((0 : Nat), (9 : Nat), (12 : Nat), (19 : Nat))]) [.ref x0, .int (zi ((scr (i9 + 1)).toInt)), .ref ou] k ws (fun ws1 => ModC l (dC, dI) (tysL cA cQ cZ cL) yX3_count (Cond.code yX3_count cX3_count 2 ((Option.some Jvm.ClassFile.FieldType.int))) m0 [.int (zi ((scr (i9 + 1)).toInt))] (.int (zi (bv))) ws1 (fun ws2 => Fin9 x0 pa ba ax ay sp ss vs fr m0 a1 a2 a3 a4 a5 a6 a7 a8 a9 a10 a11 ou cA cQ cZ cL k ((zi (bv)).toInt) ws2)))
    (kk : ∀ (k : Int) (z : Int) (ws2 : va_W) (H1 : Heap) (locs1 : List Loc) (ls1 : Array Slot), Fin9 x0 pa ba ax ay sp ss vs fr m0 a1 a2 a3 a4 a5 a6 a7 a8 a9 a10 a11 ou cA cQ cZ cL k z ws2 → va_P (dC, dI) vwCl ws2 H1 → va_D A ws2 → va_S A s.heap H1 locs1 → lv_has ls1 8 [(0, .ref b9), (1, .ref x0), (2, .ref m0), (3, .ref ou), (4, .int (zi (i9 : Int)))] → W p l e room_1 s m #[Value.ref b9] below meth c H1 locs1 (cells + 3) (slots + 29) Q (F0 m 1411 ls1 [])) : W p l e room_1 s m #[Value.ref b9] below meth c H locs (cells) (slots) Q (F0 m 1355 ls []) := by
  obtain ⟨hx, hb, hml, hown, hg, hX, hbl, hbA, hA, hK, hXA, hL⟩ := C
  obtain ⟨rm, tys, is, wc, wr, F, mc, ms, hM, hty, hp, hrc, hrs, hmc, hms, hfr, hlo, hG⟩ := h
  refine lv_aload_n hx hb dL_law_1355 rfl (lv_at hl 1 rfl) ?_
  refine lv_aload_n hx hb dL_law_1356 rfl (lv_at hl 0 rfl) ?_
  refine lv_iload hx hb dL_law_1357 (lv_at hl 4 rfl) ?_
  refine lv_iconst (v := zi (1)) hx hb dL_law_1359 rfl ?_
  refine zz_iadd hx hb dL_law_1360 ?_
  refine zz_sld hx hb hX hbl hbA hS (i9 + 1) (by omega) (by omega) (by omega) dL_law_1361 ?_
  refine lv_aload_n hx hb dL_law_1362 rfl (lv_at hl 3 rfl) ?_
  refine lwS (n := 3) (rest := []) hx hb hml hown hg (hM H.size) wl_L_152 wt_L_count wi_L wc_L_count hrc hrs (by decide +kernel) ⟨by show rm.frames + 1 ≤ 11; omega, by show 8 + (4 + 11) + rm.locals ≤ 424; omega⟩ (hK.sub is hty) (hXA H locs hS) hP hD hS hA hp rfl hl.1 rfl (Nat.le_of_ble_eq_true rfl) dL_law_1363 ⟨by show cells + mc ≤ 601024; omega, by show slots + ms ≤ 7293033; omega⟩ (fun w1 H1 locs1 hF hP hD hS => ?_)
  refine lv_istore (lv' := [(5, .int (zi (k))), (0, .ref b9), (1, .ref x0), (2, .ref m0), (3, .ref ou), (4, .int (zi (i9 : Int)))]) hx hb dL_law_1366 hl (by decide) rfl (fun ls hl => ?_)
  obtain ⟨rm2, ty2, is2, wc2, wr2, w2, fs2, hM2, hty2, hp2, hrc2, hrs2, hfr2, hlo2, hfst, hm0, hFin⟩ := hG w1 hF
  refine lv_aload_n hx hb dL_law_1368 rfl (lv_at hl 3 rfl) ?_
  refine lv_aload_n hx hb dL_law_1369 rfl (lv_at hl 1 rfl) ?_
  refine lv_iload hx hb dL_law_1370 (lv_at hl 5 rfl) ?_
  refine lv_iconst (v := zi (1)) hx hb dL_law_1372 rfl ?_
  refine zz_iadd hx hb dL_law_1373 ?_
  refine zz_sld hx hb hX hbl hbA hS (i9 + 1) (by omega) (by omega) (by omega) dL_law_1374 ?_
  refine lwV (n := 1) (rest := []) hx hb hml hown hg (hM2 H1.size) (gwV wl_L_154 wm_X3_count we_X3_count wi_X3 wc_X3_count) hrc2 hrs2 (by decide +kernel) ⟨by show rm2.frames + 1 ≤ 11; omega, by show 8 + (2 + 11) + rm2.locals ≤ 424; omega⟩ (hK.sub is2 hty2) hP hD hS hA hp2 hfst 0 hm0 rfl rfl rfl hl.1 rfl (Nat.le_of_ble_eq_true rfl) dL_law_1375 ⟨by show cells + mc ≤ 601024; omega, by show slots + ms ≤ 7293033; omega⟩ (fun H1 locs1 hP hD hS => ?_)
  refine lv_istore (lv' := [(6, .int (zi (bv))), (5, .int (zi (k))), (0, .ref b9), (1, .ref x0), (2, .ref m0), (3, .ref ou), (4, .int (zi (i9 : Int)))]) hx hb dL_law_1378 hl (by decide) rfl (fun ls hl => ?_)
  have hkk : ∀ ls1 : Array Slot, lv_has ls1 8 [(0, .ref b9), (1, .ref x0), (2, .ref m0), (3, .ref ou), (4, .int (zi (i9 : Int)))] → W p l e room_1 s m #[Value.ref b9] below meth c H1 locs1 (cells + mc) (slots + ms) Q (F0 m 1411 ls1 []) := fun ls1 h1 => W.widen (show cells + mc ≤ cells + 3 by omega) (show slots + ms ≤ slots + 29 by omega) (kk k _ _ H1 locs1 ls1 hFin hP hD hS h1)
  obtain ⟨pool, pn, bn, ln, sn, pf, bs, xs, ys, spf, ssf, vf, sf, hh, rr, cf, wf, of, a, b, ab, be, hInv, hz, hperm⟩ := hFin
  have hP := va_Pp hperm hP
  refine lv_aload_n hx hb dL_law_1380 rfl (lv_at hl 4 rfl) ?_
  refine rdV (As := []) (rest := []) (n := 0) hx hb hml hown hg (c_X3_thrown l dC dI m0 a1 a2 a3 a4 a5 a6 a7 a8 a9 a10 a11 k ab be pn bn ln sn) (gwV wl_L_91 wm_X3_thrown we_X3_thrown wi_X3 wc_X3_thrown) rfl rfl (by decide +kernel) ⟨(Nat.le_of_ble_eq_true rfl), (Nat.le_of_ble_eq_true rfl)⟩ (hK.sub [] rfl) (hP.sub [9] rfl) 0 rfl rfl rfl rfl hl.1 rfl (Nat.le_of_ble_eq_true rfl) dL_law_1381 ⟨by show cells + mc ≤ 601024; omega, by show slots + ms ≤ 7293033; omega⟩ ?_
  refine lv_iload hx hb dL_law_1384 (lv_at hl 1 rfl) ?_
  refine zz_icmp_eq (tgt := 1391) hx hb (by omega) (by omega) dL_law_1386 (by decide) (fun _ => ?_) (fun q => absurd rfl q)
  refine lv_iload hx hb dL_law_1391 (lv_at hl 1 rfl) ?_
  refine zz_if_ne (tgt := 1408) hx hb (by omega) dL_law_1393 (by decide) (fun _ => ?_) (fun q => ?_)
  · refine lv_goto (tgt := 1411) hx hb dL_law_1408 (by decide) ?_
    exact hkk ls (lv_sub hl [2, 3, 4, 5, 6] rfl)
  · refine lv_aload_n hx hb dL_law_1396 rfl (lv_at hl 5 rfl) ?_
    refine lv_iconst (v := zi (0)) hx hb dL_law_1397 rfl ?_
    refine zz_lald hx hb hK hP 21 3 rfl rfl (0) (by omega) (by omega) (by decide) dL_law_1398 ?_
    rw [hz q]
    refine lv_iload hx hb dL_law_1399 (lv_at hl 0 rfl) ?_
    refine zz_i2lr hx hb dL_law_1401 ?_
    refine zz_lcmp_same (tgt := 1408) hx hb dL_law_1402 dL_law_1403 (by decide) ?_
    refine lv_goto (tgt := 1411) hx hb dL_law_1408 (by decide) ?_
    exact hkk ls (lv_sub hl [2, 3, 4, 5, 6] rfl)
end SG
